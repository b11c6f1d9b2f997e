/-! The class: its own methods beside the state -/
theorem up_4 (X : Nat → Int32) (b0 b1 b2 b3 : Int32) (p : Nat) : (∀ j, j < 4 → upd1 (upd1 (upd1 (upd1 X (4 * p) b0) (4 * p + 1) b1) (4 * p + 2) b2) (4 * p + 3) b3 (4 * p + j) = (if j = 0 then b0 else if j = 1 then b1 else if j = 2 then b2 else b3)) ∧ ∀ q, q ≠ p → ∀ j, j < 4 → upd1 (upd1 (upd1 (upd1 X (4 * p) b0) (4 * p + 1) b1) (4 * p + 2) b2) (4 * p + 3) b3 (4 * q + j) = X (4 * q + j) := by
  unfold upd1
  refine ⟨fun j hj => ?_, fun q hq j hj => ?_⟩
  · rcases (by omega : j = 0 ∨ j = 1 ∨ j = 2 ∨ j = 3) with rfl | rfl | rfl | rfl
    · rw [if_neg (by omega), if_neg (by omega), if_neg (by omega), if_pos (by omega), if_pos rfl]
    · rw [if_neg (by omega), if_neg (by omega), if_pos (by omega), if_neg (by omega), if_pos rfl]
    · rw [if_neg (by omega), if_pos (by omega), if_neg (by omega), if_neg (by omega), if_pos rfl]
    · rw [if_pos (by omega), if_neg (by omega), if_neg (by omega), if_neg (by omega)]
  · rw [if_neg (by omega), if_neg (by omega), if_neg (by omega), if_neg (by omega)]
theorem rnw_pub {s : MS} {p n : Nat} {y z : Int32} : rnw (m_parse s n) (m_pub s p n y z) p y z (tx_4 (tx_all (s.1 3) n)) := by
  have h5 : (m_pub2 (m_parse s n) p y z).1 5 = tx_4 (tx_all (s.1 3) n) := rfl
  have h11 : (m_pub s p n y z).1 11 = upd1 (upd1 (upd1 (upd1 ((m_parse s n).1 11) (4 * p) (tx_4 (tx_all (s.1 3) n) 0)) (4 * p + 1) (tx_4 (tx_all (s.1 3) n) 1)) (4 * p + 2) (tx_4 (tx_all (s.1 3) n) 2)) (4 * p + 3) (tx_4 (tx_all (s.1 3) n) 3) := rfl
  have o : ∀ k, k ≠ 11 → (m_pub s p n y z).1 k = (m_pub2 (m_parse s n) p y z).1 k := fun k hk => by
    unfold m_pub m_pub3
    rw [cw_ne _ _ _ hk, cw_ne _ _ _ hk, cw_ne _ _ _ hk, cw_ne _ _ _ hk]
  obtain ⟨u1, u2⟩ := up_4 ((m_parse s n).1 11) (tx_4 (tx_all (s.1 3) n) 0) (tx_4 (tx_all (s.1 3) n) 1) (tx_4 (tx_all (s.1 3) n) 2) (tx_4 (tx_all (s.1 3) n) 3) p
  refine ⟨fun k hk => ?_, rfl, fun q hq => ⟨?_, ?_, ?_, fun j hj => ?_⟩, ?_, ?_, ?_, ?_, fun j hj => ?_⟩
  · rw [o k (fun e => hk (by rw [e]; decide))]
    unfold m_pub2
    rw [cw_ne _ _ _ (fun e => hk (by rw [e]; decide)), cw_ne _ _ _ (fun e => hk (by rw [e]; decide)), cw_ne _ _ _ (fun e => hk (by rw [e]; decide)), cw_ne _ _ _ (fun e => hk (by rw [e]; decide))]
  · rw [o 8 (by decide)]; unfold m_pub2; rw [cw_u _ _ _ _ hq, cw_u _ _ _ _ hq, cw_u _ _ _ _ hq, cw_ne _ _ _ (by decide)]
  · rw [o 9 (by decide)]; unfold m_pub2; rw [cw_u _ _ _ _ hq, cw_u _ _ _ _ hq, cw_u _ _ _ _ hq, cw_ne _ _ _ (by decide)]
  · rw [o 10 (by decide)]; unfold m_pub2; rw [cw_u _ _ _ _ hq, cw_u _ _ _ _ hq, cw_u _ _ _ _ hq, cw_ne _ _ _ (by decide)]
  · rw [h11]; exact u2 q hq j hj
  · rw [o 806 (by decide)]; unfold m_pub2; rw [cw_ne _ _ _ (by decide), cw_ne _ _ _ (by decide), cw_ne _ _ _ (by decide), cw_at]; exact if_pos rfl
  · rw [o 8 (by decide)]; unfold m_pub2; rw [cw_ne _ _ _ (by decide), cw_ne _ _ _ (by decide), cw_at]; exact if_pos rfl
  · rw [o 9 (by decide)]; unfold m_pub2; rw [cw_ne _ _ _ (by decide), cw_at]; exact if_pos rfl
  · rw [o 10 (by decide)]; unfold m_pub2; rw [cw_at]; exact if_pos rfl
  · rw [h11, u1 j hj]
    rcases (by omega : j = 0 ∨ j = 1 ∨ j = 2 ∨ j = 3) with rfl | rfl | rfl | rfl <;> rfl
theorem sp_isSize {Γ : ex_G} {d : Nat} {K : ex_K} {I : ex_I} {F : ex_F} {b : Nat} {y : Int32} (h1 : ¬ y < 1) (h9 : y ≤ 9) : ex_E Γ d M_FC_isSize 0 [some (.inl y)] [] K I F b (fun r K' I' F' => r = some (.inl 1) ∧ K = K' ∧ I = I' ∧ F = F') := by
  refine s_FC_isSize_0 ?_
  refine s_FC_isSize_1 ?_
  refine s_FC_isSize_2 (fun h2 => absurd h2 (by exact h1)) (fun h2 => ?_)
  refine s_FC_isSize_5 ?_
  refine s_FC_isSize_6 ?_
  refine s_FC_isSize_8 (fun h8 => absurd h8 (by exact Int32.not_lt.mpr h9)) (fun h8 => ?_)
  refine s_FC_isSize_11 ?_
  refine s_FC_isSize_12 ?_
  refine s_FC_isSize_16 (by first | rfl | decide | assumption) ?_
  exact ⟨rfl, rfl, rfl, rfl⟩
theorem sp_isSize_no {Γ : ex_G} {d : Nat} {K : ex_K} {I : ex_I} {F : ex_F} {b : Nat} {y : Int32} (h : y < 1 ∨ ¬ y ≤ 9) : ex_E Γ d M_FC_isSize 0 [some (.inl y)] [] K I F b (fun r K' I' F' => r = some (.inl 0) ∧ K = K' ∧ I = I' ∧ F = F') := by
  refine s_FC_isSize_0 ?_
  refine s_FC_isSize_1 ?_
  refine s_FC_isSize_2 (fun h2 => ?_) (fun h2 => ?_)
  · refine s_FC_isSize_15 ?_
    refine s_FC_isSize_16 (by first | rfl | decide | assumption) ?_
    exact ⟨rfl, rfl, rfl, rfl⟩
  · refine s_FC_isSize_5 ?_
    refine s_FC_isSize_6 ?_
    refine s_FC_isSize_8 (fun h8 => ?_) (fun h8 => absurd h8 (by exact fun z => (h.resolve_left h2) (Int32.not_lt.mp z)))
    refine s_FC_isSize_15 ?_
    refine s_FC_isSize_16 (by first | rfl | decide | assumption) ?_
    exact ⟨rfl, rfl, rfl, rfl⟩
theorem sp_publish {Γ : ex_G} {d : Nat} {K : ex_K} {I : ex_I} {F : ex_F} {b : Nat} {a : Nat → Nat} {g : GH} {s : MS} (hR : Rc K I F a g 3 s) {p n : Nat} {y z : Int32} (hp : p < 8) (h1 : ¬ y < 1) (h9 : y ≤ 9) (hz : z = 0 ∨ z = 1) (hs : s.1 808 0 = nI n) (hn : n ≤ 40) (h0 : ¬ s.1 806 0 + 1 = 0) :
    ex_E Γ (d + 8) M_FC_publish 0 [some (.inr (some (a 0))), some (.inl (nI p)), some (.inl y), some (.inl z)] [] K I F (b + 3) (fun r K' I' F' => r = some (.inl (s.1 806 0 + 1)) ∧ ∃ g', Rc K' I' F' a g' 3 (m_pub s p n y z)) := by
  obtain ⟨x0, x1, x2, x3, x4, x5, x6, x7, x8⟩ := hR.1.1
  have k1 := hR.1.2.1.1.1
  refine s_FC_publish_0 ?_
  refine s_FC_publish_1 (b1 := 0) (b2 := b + 3)  (ex_up (by omega) (sp_isPathFC (d := d) hp)) ?_ (by omega)
  rintro _ _ _ _ ⟨rfl, rfl, rfl, rfl⟩
  dsimp only [Option.toList, List.cons_append, List.nil_append]
  refine s_FC_publish_4 (fun h4 => absurd h4 (by decide)) (fun h4 => ?_)
  refine s_FC_publish_7 ?_
  refine s_FC_publish_8 (b1 := 0) (b2 := b + 3)  (ex_up (by omega) (sp_isSize (d := d) h1 h9)) ?_ (by omega)
  rintro _ _ _ _ ⟨rfl, rfl, rfl, rfl⟩
  dsimp only [Option.toList, List.cons_append, List.nil_append]
  refine s_FC_publish_11 (fun h11 => ?_) (fun h11 => absurd h11 (by decide))
  refine s_FC_publish_16 ?_
  refine s_FC_publish_17 ?_
  refine s_FC_publish_18 ?_
  refine s_FC_publish_19 ?_
  refine s_FC_publish_20 ?_
  refine s_FC_publish_21 (by first | rfl | assumption | (simp [*]; done)) (by first | rfl | assumption | (simp [*]; done)) ?_
  refine s_FC_publish_24 (b1 := b + 2) (b2 := 1) (by exact x1) (by exact k1) (sp_takeC hR hs hn) ?_ (by omega)
  rintro _ K1 I1 F1 ⟨q, rfl, xa, R1, hq⟩
  dsimp only [Option.toList, List.cons_append, List.nil_append]
  have kx : (K1 (a 0)).1 = 1 := R1.1.1.1
  refine s_FC_publish_27 (b1 := 0 + 1) (b2 := 0) (by rfl) (by exact kx) (ex_up (by omega) (sp_renew (d := d) (b := 0) R1 hp hq hz rnw_pub h0)) ?_ (by omega)
  rintro _ K2 I2 F2 ⟨rfl, X2, R2⟩
  dsimp only [Option.toList, List.cons_append, List.nil_append]
  refine s_FC_publish_30 ?_
  exact ⟨rfl, g, R2⟩
theorem sp_publish_no {Γ : ex_G} {d : Nat} {K : ex_K} {I : ex_I} {F : ex_F} {b : Nat} {a : Nat → Nat} {g : GH} {s : MS} (hR : Rc K I F a g 3 s) {x y z : Int32} (hx : (x < 0 ∨ nI 8 ≤ x) ∨ ((¬ x < 0 ∧ ¬ nI 8 ≤ x) ∧ (y < 1 ∨ ¬ y ≤ 9))) :
    ex_E Γ (d + 1) M_FC_publish 0 [some (.inr (some (a 0))), some (.inl x), some (.inl y), some (.inl z)] [] K I F b (fun r K' I' F' => r = some (.inl (-1)) ∧ ∃ g', Rc K' I' F' a g' 3 (s)) := by
  obtain ⟨x0, x1, x2, x3, x4, x5, x6, x7, x8⟩ := hR.1.1
  rcases hx with hx | ⟨hx1, hx2⟩
  · refine s_FC_publish_0 ?_
    refine s_FC_publish_1 (b1 := 0) (b2 := b)  (sp_isPathFC_no hx) ?_ (by omega)
    rintro _ _ _ _ ⟨rfl, rfl, rfl, rfl⟩
    dsimp only [Option.toList, List.cons_append, List.nil_append]
    refine s_FC_publish_4 (fun h4 => ?_) (fun h4 => absurd h4 (by exact fun z => z rfl))
    refine s_FC_publish_14 ?_
    refine s_FC_publish_15 ?_
    exact ⟨rfl, g, hR⟩
  · obtain ⟨p, hp, rfl⟩ := ((pk_ix x (n := 8) (by decide)).resolve_left hx1.1).resolve_left hx1.2
    refine s_FC_publish_0 ?_
    refine s_FC_publish_1 (b1 := 0) (b2 := b)  (sp_isPathFC hp) ?_ (by omega)
    rintro _ _ _ _ ⟨rfl, rfl, rfl, rfl⟩
    dsimp only [Option.toList, List.cons_append, List.nil_append]
    refine s_FC_publish_4 (fun h4 => absurd h4 (by decide)) (fun h4 => ?_)
    refine s_FC_publish_7 ?_
    refine s_FC_publish_8 (b1 := 0) (b2 := b)  (sp_isSize_no hx2) ?_ (by omega)
    rintro _ _ _ _ ⟨rfl, rfl, rfl, rfl⟩
    dsimp only [Option.toList, List.cons_append, List.nil_append]
    refine s_FC_publish_11 (fun h11 => absurd h11 (by decide)) (fun h11 => ?_)
    refine s_FC_publish_14 ?_
    refine s_FC_publish_15 ?_
    exact ⟨rfl, g, hR⟩
theorem sp_versionC {Γ : ex_G} {d : Nat} {K : ex_K} {I : ex_I} {F : ex_F} {b : Nat} {a : Nat → Nat} {g : GH} {s : MS} (hR : Rc K I F a g 3 s) {p : Nat} (hp : p < 8) :
    ex_E Γ (d + 1) M_FC_version 0 [some (.inr (some (a 0))), some (.inl (nI p))] [] K I F b (fun r K' I' F' => r = some (.inl (s.1 8 p)) ∧ ∃ g', Rc K' I' F' a g' 3 (s)) := by
  obtain ⟨x0, x1, x2, x3, x4, x5, x6, x7, x8⟩ := hR.1.1
  obtain ⟨q, q1, q2⟩ := hR.2.2.2.2.1 p hp
  have kr : (K (a 8)).1 = 31 := by rw [hR.1.2.1.2.1]
  have kr2 : (K (a 8)).2 = 8 := by rw [hR.1.2.1.2.1]
  have hv : (K q).1 = 4 ∧ I 292 q 0 = s.1 8 p := by
    rcases q2 with ⟨e1, e2⟩ | ⟨e1, e2⟩
    · rw [e1, e2]
      exact ⟨hR.1.2.1.2.2.2.2.2.1, hR.1.2.1.2.2.2.2.2.2.1⟩
    · exact ⟨e2.1, e2.2.1⟩
  refine s_FC_version_0 ?_
  refine s_FC_version_1 (b1 := 0) (b2 := b)  (sp_isPathFC hp) ?_ (by omega)
  rintro _ _ _ _ ⟨rfl, rfl, rfl, rfl⟩
  dsimp only [Option.toList, List.cons_append, List.nil_append]
  refine s_FC_version_4 (fun h4 => absurd h4 (by decide)) (fun h4 => ?_)
  refine s_FC_version_7 ?_
  refine s_FC_version_8 (by first | rfl | assumption | (simp [*]; done)) (by first | rfl | assumption | (simp [*]; done)) ?_
  refine s_FC_version_11 ?_
  refine s31_FC_version_12 (by exact x5) (by exact kr) (by rw [kr2]; exact vp_in_nI hp (by omega)) ?_
  refine s_FC_version_13 (by rw [nI_clamp (by omega)]; exact q1) (by exact hv.1) ?_
  refine s_FC_version_16 ?_
  refine s_FC_version_20 ?_
  rw [hv.2]
  exact ⟨rfl, g, hR⟩
theorem sp_versionC_no {Γ : ex_G} {d : Nat} {K : ex_K} {I : ex_I} {F : ex_F} {b : Nat} {a : Nat → Nat} {g : GH} {s : MS} (hR : Rc K I F a g 3 s) {x : Int32} (hx : x < 0 ∨ nI 8 ≤ x) :
    ex_E Γ (d + 1) M_FC_version 0 [some (.inr (some (a 0))), some (.inl x)] [] K I F b (fun r K' I' F' => r = some (.inl (0)) ∧ ∃ g', Rc K' I' F' a g' 3 (s)) := by
  refine s_FC_version_0 ?_
  refine s_FC_version_1 (b1 := 0) (b2 := b)  (sp_isPathFC_no hx) ?_ (by omega)
  rintro _ _ _ _ ⟨rfl, rfl, rfl, rfl⟩
  dsimp only [Option.toList, List.cons_append, List.nil_append]
  refine s_FC_version_4 (fun h4 => ?_) (fun h4 => absurd h4 (by exact fun z => z rfl))
  refine s_FC_version_19 ?_
  refine s_FC_version_20 ?_
  exact ⟨rfl, g, hR⟩
theorem sp_ownerC {Γ : ex_G} {d : Nat} {K : ex_K} {I : ex_I} {F : ex_F} {b : Nat} {a : Nat → Nat} {g : GH} {s : MS} (hR : Rc K I F a g 3 s) {p : Nat} (hp : p < 8) :
    ex_E Γ (d + 1) M_FC_owner 0 [some (.inr (some (a 0))), some (.inl (nI p))] [] K I F b (fun r K' I' F' => r = some (.inl (nI (own p))) ∧ ∃ g', Rc K' I' F' a g' 3 (s)) := by
  refine s_FC_owner_0 ?_
  refine s_FC_owner_1 (b1 := 0) (b2 := b)  (sp_isPathFC hp) ?_ (by omega)
  rintro _ _ _ _ ⟨rfl, rfl, rfl, rfl⟩
  dsimp only [Option.toList, List.cons_append, List.nil_append]
  refine s_FC_owner_4 (fun h4 => absurd h4 (by decide)) (fun h4 => ?_)
  refine s_FC_owner_7 ?_
  refine s_FC_owner_8 (b1 := 0) (b2 := b)  (sp_ownerOf hp) ?_ (by omega)
  rintro _ _ _ _ ⟨rfl, rfl, rfl, rfl⟩
  dsimp only [Option.toList, List.cons_append, List.nil_append]
  refine s_FC_owner_11 ?_
  refine s_FC_owner_15 ?_
  exact ⟨rfl, g, hR⟩
theorem sp_ownerC_no {Γ : ex_G} {d : Nat} {K : ex_K} {I : ex_I} {F : ex_F} {b : Nat} {a : Nat → Nat} {g : GH} {s : MS} (hR : Rc K I F a g 3 s) {x : Int32} (hx : x < 0 ∨ nI 8 ≤ x) :
    ex_E Γ (d + 1) M_FC_owner 0 [some (.inr (some (a 0))), some (.inl x)] [] K I F b (fun r K' I' F' => r = some (.inl (-1)) ∧ ∃ g', Rc K' I' F' a g' 3 (s)) := by
  refine s_FC_owner_0 ?_
  refine s_FC_owner_1 (b1 := 0) (b2 := b)  (sp_isPathFC_no hx) ?_ (by omega)
  rintro _ _ _ _ ⟨rfl, rfl, rfl, rfl⟩
  dsimp only [Option.toList, List.cons_append, List.nil_append]
  refine s_FC_owner_4 (fun h4 => ?_) (fun h4 => absurd h4 (by exact fun z => z rfl))
  refine s_FC_owner_14 ?_
  refine s_FC_owner_15 ?_
  exact ⟨rfl, g, hR⟩
theorem sp_withdrawC_no {Γ : ex_G} {d : Nat} {K : ex_K} {I : ex_I} {F : ex_F} {b : Nat} {a : Nat → Nat} {g : GH} {s : MS} (hR : Rc K I F a g 3 s) {x : Int32} (hx : x < 0 ∨ nI 8 ≤ x) :
    ex_E Γ (d + 1) M_FC_withdraw 0 [some (.inr (some (a 0))), some (.inl x)] [] K I F b (fun r K' I' F' => r = some (.inl (0)) ∧ ∃ g', Rc K' I' F' a g' 3 (s)) := by
  refine s_FC_withdraw_0 ?_
  refine s_FC_withdraw_1 (b1 := 0) (b2 := b)  (sp_isPathFC_no hx) ?_ (by omega)
  rintro _ _ _ _ ⟨rfl, rfl, rfl, rfl⟩
  dsimp only [Option.toList, List.cons_append, List.nil_append]
  refine s_FC_withdraw_4 (fun h4 => ?_) (fun h4 => absurd h4 (by exact fun z => z rfl))
  refine s_FC_withdraw_19 ?_
  refine s_FC_withdraw_20 (by first | rfl | decide | assumption) ?_
  exact ⟨rfl, g, hR⟩
theorem sp_isAbsent {Γ : ex_G} {d : Nat} {K : ex_K} {I : ex_I} {F : ex_F} {b : Nat} {q : Nat} {v : Int32} (hq : (K q).1 = 4) (hv : I 292 q 0 = v) :
    ex_E Γ d M_Res_isAbsent 0 [some (.inr (some q))] [] K I F b (fun r K' I' F' => r = some (.inl (if v = 0 then 1 else 0)) ∧ K = K' ∧ I = I' ∧ F = F') := by
  subst hv
  refine s_Res_isAbsent_0 ?_
  refine s_Res_isAbsent_1 (by first | rfl | assumption | (simp [*]; done)) (by first | rfl | assumption | (simp [*]; done)) ?_
  refine s_Res_isAbsent_4 (fun h4 => ?_) (fun h4 => ?_)
  · refine s_Res_isAbsent_11 ?_
    refine s_Res_isAbsent_12 (by first | rfl | decide | assumption) ?_
    rw [if_neg h4]
    exact ⟨rfl, rfl, rfl, rfl⟩
  · refine s_Res_isAbsent_7 ?_
    refine s_Res_isAbsent_8 ?_
    refine s_Res_isAbsent_12 (by first | rfl | decide | assumption) ?_
    rw [if_pos h4]
    exact ⟨rfl, rfl, rfl, rfl⟩
theorem sp_withdrawC {Γ : ex_G} {d : Nat} {K : ex_K} {I : ex_I} {F : ex_F} {b : Nat} {a : Nat → Nat} {g : GH} {s : MS} (hR : Rc K I F a g 3 s) {p : Nat} (hp : p < 8) :
    ex_E Γ (d + 1) M_FC_withdraw 0 [some (.inr (some (a 0))), some (.inl (nI p))] [] K I F b (fun r K' I' F' => r = some (.inl (if s.1 8 p = 0 then 0 else 1)) ∧ ∃ g', Rc K' I' F' a g' 3 (if s.1 8 p = 0 then s else cw s 8 p 0)) := by
  obtain ⟨x0, x1, x2, x3, x4, x5, x6, x7, x8⟩ := hR.1.1
  obtain ⟨q, q1, q2⟩ := hR.2.2.2.2.1 p hp
  have kr : (K (a 8)).1 = 31 := by rw [hR.1.2.1.2.1]
  have kr2 : (K (a 8)).2 = 8 := by rw [hR.1.2.1.2.1]
  have hv : (K q).1 = 4 ∧ I 292 q 0 = s.1 8 p := by
    rcases q2 with ⟨e1, e2⟩ | ⟨e1, e2⟩
    · rw [e1, e2]
      exact ⟨hR.1.2.1.2.2.2.2.2.1, hR.1.2.1.2.2.2.2.2.2.1⟩
    · exact ⟨e2.1, e2.2.1⟩
  have ka := hR.1.2.1.2.2.2.2.2.1
  refine s_FC_withdraw_0 ?_
  refine s_FC_withdraw_1 (b1 := 0) (b2 := b)  (sp_isPathFC hp) ?_ (by omega)
  rintro _ _ _ _ ⟨rfl, rfl, rfl, rfl⟩
  dsimp only [Option.toList, List.cons_append, List.nil_append]
  refine s_FC_withdraw_4 (fun h4 => absurd h4 (by decide)) (fun h4 => ?_)
  refine s_FC_withdraw_7 ?_
  refine s_FC_withdraw_8 (by first | rfl | assumption | (simp [*]; done)) (by first | rfl | assumption | (simp [*]; done)) ?_
  refine s_FC_withdraw_11 ?_
  refine s31_FC_withdraw_12 (by exact x5) (by exact kr) (by rw [kr2]; exact vp_in_nI hp (by omega)) ?_
  refine s_FC_withdraw_13 (b1 := 0) (b2 := b) (by rw [nI_clamp (by omega)]; exact q1) (by exact hv.1) (sp_isAbsent hv.1 hv.2) ?_ (by omega)
  rintro _ _ _ _ ⟨rfl, rfl, rfl, rfl⟩
  dsimp only [Option.toList, List.cons_append, List.nil_append]
  refine s_FC_withdraw_16 (fun h16 => ?_) (fun h16 => ?_)
  · refine s_FC_withdraw_21 ?_
    refine s_FC_withdraw_22 (by first | rfl | assumption | (simp [*]; done)) (by first | rfl | assumption | (simp [*]; done)) ?_
    refine s_FC_withdraw_25 ?_
    refine s_FC_withdraw_26 ?_
    refine s_FC_withdraw_27 (by first | rfl | assumption | (simp [*]; done)) (by first | rfl | assumption | (simp [*]; done)) ?_
    refine s31_FC_withdraw_30 (by exact x5) (by exact kr) (by intro w hw; rw [x4] at hw; cases hw; exact ka) (by rw [kr2]; exact vp_in_nI hp (by omega)) ?_
    refine s_FC_withdraw_31 ?_
    refine s_FC_withdraw_32 (by first | rfl | decide | assumption) ?_
    have hz : ¬ s.1 8 p = 0 := fun e => by rw [if_pos e] at h16; exact absurd h16 (by decide)
    rw [if_neg hz, if_neg hz, nI_clamp (by omega), x4]
    have xr : xw (lP [(31, a 8)]) K I F K I (ex_uf F 31 (a 8) p (some (a 7))) := xw_uf (by simp [lP])
    have ir : imm (lP [(31, a 8)]) := im_l (by simp [xmut])
    refine ⟨rfl, g, Rc_gen hR xr ir (Or.inl ⟨⟨by simp [lP], by simp [lP]⟩, rfl, rfl⟩) (Or.inl ⟨⟨by simp [lP], by simp [lP], by simp [lP], fun _ => ⟨by simp [lP], by simp [lP]⟩⟩, rfl, rfl⟩) (Or.inl ⟨⟨by simp [lP], by simp [lP]⟩, rfl⟩) (Or.inr (fun u hu => ?_)) (fun u hu _ => Or.inl ⟨⟨by simp [lP], by simp [lP], by simp [lP]⟩, rfl, rfl, cw_ne _ _ _ (by omega)⟩) (fun u hu hz => Or.inl ⟨by simp [cnP, lP], nqP_all (fun _ => by simp [lP]) (fun _ => by simp [lP]) (fun _ => by simp [lP]) (fun _ => by simp [lP]) _, rfl, rfl, rfl, rfl, rfl⟩) (Or.inl ⟨by simp [lP], fun _ _ => ⟨by simp [lP], by simp [lP], by simp [lP], by simp [lP]⟩, rfl, rfl, rfl, rfl⟩) (Or.inl ⟨⟨by simp [lP], by simp [lP], by simp [lP]⟩, rfl, rfl, rfl⟩) ⟨rfl, rfl⟩⟩
    have e8 : (cw s 8 p 0).1 8 u = if u = p then 0 else s.1 8 u := by rw [cw_at]; rfl
    rw [e8]
    by_cases e : u = p
    · subst e
      exact ⟨a 7, by rw [ex_uf_eq], Or.inl ⟨if_pos rfl, rfl⟩⟩
    · rw [if_neg e]
      obtain ⟨w, w1, w2⟩ := hR.2.2.2.2.1 u hu
      refine ⟨w, ?_, ?_⟩
      · rw [ex_uf_at]
        simp only [if_neg e]
        exact w1
      · rcases w2 with w2 | ⟨w2, w3⟩
        · exact Or.inl w2
        · exact Or.inr ⟨w2, Rs_x xr ir w3⟩
  · refine s_FC_withdraw_19 ?_
    refine s_FC_withdraw_20 (by first | rfl | decide | assumption) ?_
    have hz : s.1 8 p = 0 := by
      by_cases e : s.1 8 p = 0
      · exact e
      · exact absurd (if_neg e) h16
    rw [if_pos hz, if_pos hz]
    exact ⟨rfl, g, hR⟩
theorem sp_waitingC {Γ : ex_G} {d : Nat} {K : ex_K} {I : ex_I} {F : ex_F} {b : Nat} {a : Nat → Nat} {g : GH} {s : MS} (hR : Rc K I F a g 3 s) {p : Nat} (hp : p < 3) :
    ex_E Γ (d + 1) M_FC_waiting 0 [some (.inr (some (a 0))), some (.inl (nI p))] [] K I F b (fun r K' I' F' => r = some (.inl (if s.1 27 p = 0 then nI (s.2 (100 + p)).length else -1)) ∧ ∃ g', Rc K' I' F' a g' 3 (s)) := by
  obtain ⟨x0, x1, x2, x3, x4, x5, x6, x7, x8⟩ := hR.1.1
  obtain ⟨t1, t2, t3, t4, -⟩ := hR.1.2.2.1 p hp
  have kc : (K (a 10)).1 = 33 := by rw [hR.1.2.1.2.2.2.1]
  have kc2 : (K (a 10)).2 = 3 := by rw [hR.1.2.1.2.2.2.1]
  have ko : (K (a 9)).1 = 32 := by rw [hR.1.2.1.2.2.1]
  have ko2 : (K (a 9)).2 = 3 := by rw [hR.1.2.1.2.2.1]
  obtain ⟨c1, ⟨L, -, c2, -⟩, -⟩ := hR.2.2.2.2.2.2.1 p hp (by omega)
  refine s_FC_waiting_0 ?_
  refine s_FC_waiting_1 (b1 := 0) (b2 := b)  (sp_isOriginFC hp) ?_ (by omega)
  rintro _ _ _ _ ⟨rfl, rfl, rfl, rfl⟩
  dsimp only [Option.toList, List.cons_append, List.nil_append]
  refine s_FC_waiting_4 (fun h4 => absurd h4 (by decide)) (fun h4 => ?_)
  refine s_FC_waiting_7 ?_
  refine s_FC_waiting_8 (by first | rfl | assumption | (simp [*]; done)) (by first | rfl | assumption | (simp [*]; done)) ?_
  refine s_FC_waiting_11 ?_
  refine s33_FC_waiting_12 (by exact x7) (by exact kc) (by rw [kc2]; exact vp_in_nI hp (by omega)) ?_
  refine s_FC_waiting_13 (by rw [nI_clamp (by omega)]; exact t3) (by exact t4) ?_
  refine s_FC_waiting_16 (fun h16 => ?_) (fun h16 => ?_)
  · refine s_FC_waiting_21 ?_
    refine s_FC_waiting_22 (by first | rfl | assumption | (simp [*]; done)) (by first | rfl | assumption | (simp [*]; done)) ?_
    refine s_FC_waiting_25 ?_
    refine s33_FC_waiting_26 (by exact x7) (by exact kc) (by rw [kc2]; exact vp_in_nI hp (by omega)) ?_
    refine s_FC_waiting_27 (by rw [nI_clamp (by omega)]; exact t3) (by exact t4) ?_
    refine s_FC_waiting_30 ?_
    rw [c1.1] at h16
    rw [if_pos h16, c2]
    exact ⟨rfl, g, hR⟩
  · refine s_FC_waiting_19 ?_
    refine s_FC_waiting_20 ?_
    rw [c1.1] at h16
    rw [if_neg h16]
    exact ⟨rfl, g, hR⟩
theorem sp_waitingC_no {Γ : ex_G} {d : Nat} {K : ex_K} {I : ex_I} {F : ex_F} {b : Nat} {a : Nat → Nat} {g : GH} {s : MS} (hR : Rc K I F a g 3 s) {x : Int32} (hx : x < 0 ∨ nI 3 ≤ x) :
    ex_E Γ (d + 1) M_FC_waiting 0 [some (.inr (some (a 0))), some (.inl x)] [] K I F b (fun r K' I' F' => r = some (.inl (-1)) ∧ ∃ g', Rc K' I' F' a g' 3 (s)) := by
  refine s_FC_waiting_0 ?_
  refine s_FC_waiting_1 (b1 := 0) (b2 := b)  (sp_isOriginFC_no hx) ?_ (by omega)
  rintro _ _ _ _ ⟨rfl, rfl, rfl, rfl⟩
  dsimp only [Option.toList, List.cons_append, List.nil_append]
  refine s_FC_waiting_4 (fun h4 => ?_) (fun h4 => absurd h4 (by exact fun z => z rfl))
  refine s_FC_waiting_19 ?_
  refine s_FC_waiting_20 ?_
  exact ⟨rfl, g, hR⟩
theorem sp_powerC_no {Γ : ex_G} {d : Nat} {K : ex_K} {I : ex_I} {F : ex_F} {b : Nat} {a : Nat → Nat} {g : GH} {s : MS} (hR : Rc K I F a g 3 s) {x y : Int32} (hx : x < 0 ∨ nI 3 ≤ x) :
    ex_E Γ (d + 1) M_FC_power 0 [some (.inr (some (a 0))), some (.inl x), some (.inl y)] [] K I F b (fun r K' I' F' => r = some (.inl (0)) ∧ ∃ g', Rc K' I' F' a g' 3 (s)) := by
  refine s_FC_power_0 ?_
  refine s_FC_power_1 (b1 := 0) (b2 := b)  (sp_isOriginFC_no hx) ?_ (by omega)
  rintro _ _ _ _ ⟨rfl, rfl, rfl, rfl⟩
  dsimp only [Option.toList, List.cons_append, List.nil_append]
  refine s_FC_power_4 (fun h4 => ?_) (fun h4 => absurd h4 (by exact fun z => z rfl))
  refine s_FC_power_20 ?_
  refine s_FC_power_21 (by first | rfl | decide | assumption) ?_
  exact ⟨rfl, g, hR⟩
theorem sp_powerC {Γ : ex_G} {d : Nat} {K : ex_K} {I : ex_I} {F : ex_F} {b : Nat} {a : Nat → Nat} {g : GH} {s : MS} (hR : Rc K I F a g 3 s) {p : Nat} {y : Int32} (hp : p < 3) (hy : y = 0 ∨ y = 1) (h28 : s.1 28 p = 0 ∨ s.1 28 p = 1) :
    ex_E Γ (d + 1) M_FC_power 0 [some (.inr (some (a 0))), some (.inl (nI p)), some (.inl y)] [] K I F b (fun r K' I' F' => r = some (.inl (if s.1 28 p = y then 1 else 0)) ∧ ∃ g', Rc K' I' F' a g' 3 (if s.1 28 p = y then cw s 28 p (1 - y) else s)) := by
  obtain ⟨x0, x1, x2, x3, x4, x5, x6, x7, x8⟩ := hR.1.1
  obtain ⟨t1, t2, t3, t4, -⟩ := hR.1.2.2.1 p hp
  have kc : (K (a 10)).1 = 33 := by rw [hR.1.2.1.2.2.2.1]
  have kc2 : (K (a 10)).2 = 3 := by rw [hR.1.2.1.2.2.2.1]
  have ko : (K (a 9)).1 = 32 := by rw [hR.1.2.1.2.2.1]
  have ko2 : (K (a 9)).2 = 3 := by rw [hR.1.2.1.2.2.1]
  obtain ⟨c1, c2, c3⟩ := hR.2.2.2.2.2.1 p hp (by omega)
  have key : (if s.1 28 p = 0 then (1 : Int32) else 0) = y ↔ ¬ s.1 28 p = y := by
    rcases h28 with e | e <;> rcases hy with e' | e' <;> rw [e, e'] <;> decide
  refine s_FC_power_0 ?_
  refine s_FC_power_1 (b1 := 0) (b2 := b)  (sp_isOriginFC hp) ?_ (by omega)
  rintro _ _ _ _ ⟨rfl, rfl, rfl, rfl⟩
  dsimp only [Option.toList, List.cons_append, List.nil_append]
  refine s_FC_power_4 (fun h4 => absurd h4 (by decide)) (fun h4 => ?_)
  refine s_FC_power_7 ?_
  refine s_FC_power_8 (by first | rfl | assumption | (simp [*]; done)) (by first | rfl | assumption | (simp [*]; done)) ?_
  refine s_FC_power_11 ?_
  refine s32_FC_power_12 (by exact x6) (by exact ko) (by rw [ko2]; exact vp_in_nI hp (by omega)) ?_
  refine s_FC_power_13 (by rw [nI_clamp (by omega)]; exact t1) (by exact t2) ?_
  refine s_FC_power_16 ?_
  refine s_FC_power_17 (fun h17 => ?_) (fun h17 => ?_)
  · refine s_FC_power_22 ?_
    refine s_FC_power_23 (by first | rfl | assumption | (simp [*]; done)) (by first | rfl | assumption | (simp [*]; done)) ?_
    refine s_FC_power_26 ?_
    refine s32_FC_power_27 (by exact x6) (by exact ko) (by rw [ko2]; exact vp_in_nI hp (by omega)) ?_
    refine s_FC_power_28 ?_
    refine s_FC_power_29 (by exact hy) (by rw [nI_clamp (by omega)]; exact t1) (by exact t2) ?_
    refine s_FC_power_32 ?_
    refine s_FC_power_33 (by first | rfl | decide | assumption) ?_
    rw [c1] at h17
    have hz : s.1 28 p = y := by
      by_cases e : s.1 28 p = y
      · exact e
      · exact absurd (key.mpr e) h17
    rw [if_pos hz, if_pos hz]
    have xr : xw (lP [(676, a (20 + p))]) K I F K (ex_ui I 676 (a (20 + p)) 0 y) F := xw_ui (by simp [lP])
    have ir : imm (lP [(676, a (20 + p))]) := im_l (by simp [xmut])
    refine ⟨rfl, g, Rc_gen hR xr ir (Or.inl ⟨⟨by simp [lP], by simp [lP]⟩, rfl, rfl⟩) (Or.inl ⟨⟨by simp [lP], by simp [lP], by simp [lP], fun _ => ⟨by simp [lP], by simp [lP]⟩⟩, rfl, rfl⟩) (Or.inl ⟨⟨by simp [lP], by simp [lP]⟩, rfl⟩) (Or.inl ⟨by simp [lP], rfl, rfl, rfl, rfl⟩) (fun u hu _ => ?_) (fun u hu hz => Or.inl ⟨by simp [cnP, lP], nqP_all (fun _ => by simp [lP]) (fun _ => by simp [lP]) (fun _ => by simp [lP]) (fun _ => by simp [lP]) _, rfl, rfl, rfl, rfl, rfl⟩) (Or.inl ⟨by simp [lP], fun _ _ => ⟨by simp [lP], by simp [lP], by simp [lP], by simp [lP]⟩, rfl, rfl, rfl, rfl⟩) (Or.inl ⟨⟨by simp [lP], by simp [lP], by simp [lP]⟩, rfl, rfl, rfl⟩) ⟨rfl, rfl⟩⟩
    have e28 : (cw s 28 p (1 - y)).1 28 u = if u = p then 1 - y else s.1 28 u := by rw [cw_at]; rfl
    have e3 : (cw s 28 p (1 - y)).1 (300 + u) = s.1 (300 + u) := cw_ne _ _ _ (by omega)
    by_cases e : u = p
    · subst e
      refine Or.inr ?_
      rw [e28, if_pos rfl, e3]
      refine ⟨?_, ?_, fun h => ?_⟩
      · rw [ex_ui_eq]
        rcases hy with e | e <;> rw [e] <;> decide
      · rw [ex_ui_f _ _ _ _ (by decide)]
        exact c2
      · obtain ⟨w, w1, w2⟩ := c3 h
        exact ⟨w, w1, Ms_x xr ir w2⟩
    · have na := (hR.1.2.2.2.1 u p hu hp e).1
      exact Or.inl ⟨⟨by simp [lP, na], by simp [lP], by simp [lP]⟩, by rw [e28, if_neg e], rfl, e3⟩
  · refine s_FC_power_20 ?_
    refine s_FC_power_21 (by first | rfl | decide | assumption) ?_
    rw [c1] at h17
    have hz := key.mp h17
    rw [if_neg hz, if_neg hz]
    exact ⟨rfl, g, hR⟩
theorem sp_flightsC {Γ : ex_G} {d : Nat} {K : ex_K} {I : ex_I} {F : ex_F} {b : Nat} {a : Nat → Nat} {g : GH} {s : MS} (hR : Rc K I F a g 3 s) :
    ex_E Γ d M_FC_flights 0 [some (.inr (some (a 0)))] [] K I F b (fun r K' I' F' => r = some (.inl (nI (s.2 31).length)) ∧ ∃ g', Rc K' I' F' a g' 3 (s)) := by
  obtain ⟨x0, x1, x2, x3, x4, x5, x6, x7, x8⟩ := hR.1.1
  obtain ⟨U, hu, hU⟩ := hR.2.2.2.1
  have hl := f2_len hU
  refine s_FC_flights_0 ?_
  refine s_FC_flights_1 (by first | rfl | assumption | (simp [*]; done)) (by first | rfl | assumption | (simp [*]; done)) ?_
  refine s_FC_flights_4 (by exact x3) (by exact hu.1) ?_
  refine s_FC_flights_7 ?_
  rw [hu.2.2.2.1, hl]
  exact ⟨rfl, g, hR⟩
theorem sp_entriesC {Γ : ex_G} {d : Nat} {K : ex_K} {I : ex_I} {F : ex_F} {b : Nat} {a : Nat → Nat} {g : GH} {s : MS} (hR : Rc K I F a g 3 s) :
    ex_E Γ d M_FC_entries 0 [some (.inr (some (a 0)))] [] K I F b (fun r K' I' F' => r = some (.inl (nI (s.2 14).length)) ∧ ∃ g', Rc K' I' F' a g' 3 (s)) := by
  obtain ⟨x0, x1, x2, x3, x4, x5, x6, x7, x8⟩ := hR.1.1
  obtain ⟨S, c, e1, e2, e3⟩ := hR.2.2.1
  have hl := f2_len e3
  refine s_FC_entries_0 ?_
  refine s_FC_entries_1 (by first | rfl | assumption | (simp [*]; done)) (by first | rfl | assumption | (simp [*]; done)) ?_
  refine s_FC_entries_4 (by exact x2) (by exact e2.1) ?_
  refine s_FC_entries_7 ?_
  rw [e2.2.2.2.2.2.1, hl]
  exact ⟨rfl, g, hR⟩
theorem sp_app1 {Γ : ex_G} {d : Nat} {K : ex_K} {I : ex_I} {F : ex_F} {b : Nat} {dr tx n : Nat} {c : Int32} (hk : (K dr).1 = 3) (ht : F 228 dr 0 = some tx) (hkt : K tx = (22, 40)) (hl : I 229 dr 0 = nI n) (hn : n ≤ 40) (h1 : ¬ c < 32) (h2 : ¬ 126 < c) (h4 : n < 40) :
    ex_E Γ d M_Drf_append 0 [some (.inr (some dr)), some (.inl c)] [] K I F b (fun r K' I' F' => r = some (.inl 1) ∧ K = K' ∧ ex_ui (ex_ui I 22 tx n c) 229 dr 0 (nI (n + 1)) = I' ∧ F = F') := by
  refine ex_post (fun r K2 I2 F2 h => ?_) (sp_append hk ht hkt hl hn)
  obtain ⟨e1, e2, e3⟩ := h
  rcases e3 with ⟨h, -⟩ | ⟨-, e3, e4⟩
  · rcases h with h | h | h
    · exact absurd h h1
    · exact absurd h h2
    · omega
  · exact ⟨e3, e1, e4.symm, e2⟩
theorem sp_app0 {Γ : ex_G} {d : Nat} {K : ex_K} {I : ex_I} {F : ex_F} {b : Nat} {dr tx n : Nat} {c : Int32} (hk : (K dr).1 = 3) (ht : F 228 dr 0 = some tx) (hkt : K tx = (22, 40)) (hl : I 229 dr 0 = nI n) (hn : n ≤ 40) (hx : c < 32 ∨ 126 < c ∨ n = 40) :
    ex_E Γ d M_Drf_append 0 [some (.inr (some dr)), some (.inl c)] [] K I F b (fun r K' I' F' => r = some (.inl 0) ∧ K = K' ∧ I = I' ∧ F = F') := by
  refine ex_post (fun r K2 I2 F2 h => ?_) (sp_append hk ht hkt hl hn)
  obtain ⟨e1, e2, e3⟩ := h
  rcases e3 with ⟨-, e3, e4⟩ | ⟨⟨h1, h2, h3⟩, -⟩
  · exact ⟨e3, e1, e4.symm, e2⟩
  · rcases hx with h | h | h
    · exact absurd h h1
    · exact absurd h h2
    · omega
theorem sp_typeC {Γ : ex_G} {d : Nat} {K : ex_K} {I : ex_I} {F : ex_F} {b : Nat} {a : Nat → Nat} {g : GH} {s : MS} (hR : Rc K I F a g 3 s) {n : Nat} {c : Int32} (hs : s.1 808 0 = nI n) (hn : n ≤ 40) (h1 : ¬ c < 32) (h2 : ¬ 126 < c) (h4 : n < 40) :
    ex_E Γ (d + 1) M_FC_type 0 [some (.inr (some (a 0))), some (.inl c)] [] K I F b (fun r K' I' F' => r = some (.inl (1)) ∧ ∃ g', Rc K' I' F' a g' 3 (m_type s n c)) := by
  obtain ⟨x0, x1, x2, x3, x4, x5, x6, x7, x8⟩ := hR.1.1
  obtain ⟨d1, d2, d3⟩ := hR.1.2.1.1
  obtain ⟨c1, c2, -⟩ := hR.2.1
  have xr : xw (lP [(22, a 2), (229, a 1)]) K I F K (ex_ui (ex_ui I 22 (a 2) n c) 229 (a 1) 0 (nI (n + 1))) F := xw_trans (xw_ui (by simp [lP])) (xw_ui (by simp [lP]))
  have ir : imm (lP [(22, a 2), (229, a 1)]) := im_l (by simp [xmut])
  refine s_FC_type_0 ?_
  refine s_FC_type_1 (by first | rfl | assumption | (simp [*]; done)) (by first | rfl | assumption | (simp [*]; done)) ?_
  refine s_FC_type_4 ?_
  refine s_FC_type_5 (b1 := 0) (b2 := b) (by exact x1) (by exact d1) (sp_app1 d1 d2 d3 (by rw [c2]; exact hs) hn h1 h2 h4) ?_ (by omega)
  rintro _ _ _ _ ⟨rfl, rfl, rfl, rfl⟩
  dsimp only [Option.toList, List.cons_append, List.nil_append]
  refine s_FC_type_8 (by first | rfl | decide | assumption) ?_
  refine ⟨rfl, g, Rc_gen hR xr ir (Or.inr ⟨?_, ?_, n + 1, ?_, by omega⟩) (Or.inl ⟨⟨by simp [lP], by simp [lP], by simp [lP], fun _ => ⟨by simp [lP], by simp [lP]⟩⟩, rfl, rfl⟩) (Or.inl ⟨⟨by simp [lP], by simp [lP]⟩, rfl⟩) (Or.inl ⟨by simp [lP], rfl, rfl, rfl, rfl⟩) (fun u hu _ => Or.inl ⟨⟨by simp [lP], by simp [lP], by simp [lP]⟩, rfl, rfl, ?_⟩) (fun u hu hz => Or.inl ⟨by simp [cnP, lP], nqP_all (fun _ => by simp [lP]) (fun _ => by simp [lP]) (fun _ => by simp [lP]) (fun _ => by simp [lP]) _, rfl, rfl, rfl, rfl, rfl⟩) (Or.inl ⟨by simp [lP], fun _ _ => ⟨by simp [lP], by simp [lP], by simp [lP], by simp [lP]⟩, rfl, rfl, rfl, rfl⟩) (Or.inl ⟨⟨by simp [lP], by simp [lP], by simp [lP]⟩, rfl, rfl, rfl⟩) ⟨rfl, rfl⟩⟩
  · rw [ex_ui_f _ _ _ _ (by decide), ex_ui_at]
    unfold m_type
    rw [cw_ne _ _ _ (by decide), cw_at, ← c1]
    rfl
  · rw [ex_ui_eq]
    unfold m_type
    rw [cw_at]
    exact (if_pos rfl).symm
  · unfold m_type
    rw [cw_at]
    exact if_pos rfl
  · unfold m_type
    rw [cw_ne _ _ _ (by omega), cw_ne _ _ _ (by omega)]
theorem sp_typeC_no {Γ : ex_G} {d : Nat} {K : ex_K} {I : ex_I} {F : ex_F} {b : Nat} {a : Nat → Nat} {g : GH} {s : MS} (hR : Rc K I F a g 3 s) {n : Nat} {c : Int32} (hs : s.1 808 0 = nI n) (hn : n ≤ 40) (hx : c < 32 ∨ 126 < c ∨ n = 40) :
    ex_E Γ (d + 1) M_FC_type 0 [some (.inr (some (a 0))), some (.inl c)] [] K I F b (fun r K' I' F' => r = some (.inl (0)) ∧ ∃ g', Rc K' I' F' a g' 3 (s)) := by
  obtain ⟨x0, x1, x2, x3, x4, x5, x6, x7, x8⟩ := hR.1.1
  obtain ⟨d1, d2, d3⟩ := hR.1.2.1.1
  obtain ⟨c1, c2, -⟩ := hR.2.1
  refine s_FC_type_0 ?_
  refine s_FC_type_1 (by first | rfl | assumption | (simp [*]; done)) (by first | rfl | assumption | (simp [*]; done)) ?_
  refine s_FC_type_4 ?_
  refine s_FC_type_5 (b1 := 0) (b2 := b) (by exact x1) (by exact d1) (sp_app0 d1 d2 d3 (by rw [c2]; exact hs) hn hx) ?_ (by omega)
  rintro _ _ _ _ ⟨rfl, rfl, rfl, rfl⟩
  dsimp only [Option.toList, List.cons_append, List.nil_append]
  refine s_FC_type_8 (by first | rfl | decide | assumption) ?_
  exact ⟨rfl, g, hR⟩
