/-! Both sides, call by call: one answer, one state after it -/
def aC (s : MS) (M : ex_M) (args : List (Option ex_V)) (v : Int32) (s' : MS) : Prop := ∀ (Γ : ex_G) (K : ex_K) (I : ex_I) (F : ex_F) (a : Nat → Nat) (g : GH), Rc K I F a g 3 s → ex_E Γ 8 M 0 (some (.inr (some (a 0))) :: args) [] K I F 4 (fun r K' I' F' => r = some (.inl v) ∧ ∃ g', Rc K' I' F' a g' 3 s')
def aM (s : MS) (M : ex_M) (args : List (Option ex_V)) (v : Int32) (s' : MS) : Prop := ∀ (Γ : ex_G) (K : ex_K) (I : ex_I) (F : ex_F) (m : Nat) (ad : Nat → Nat), rf_ok K F m ad → rr I m ad s → ex_E Γ 8 M 0 (some (.inr (some m)) :: args) [] K I F 0 (fun r K' I' F' => r = some (.inl v) ∧ K = K' ∧ F = F' ∧ rr I' m ad s')
/-- sizes that the class keeps -/
def hZ (s : MS) : Prop := (∃ n, s.1 808 0 = nI n ∧ n ≤ 40) ∧ ∃ c, s.1 804 0 = nI c ∧ c ≤ 40 ∧ (s.2 14).length ≤ 40 ∧ ∀ row, row ∈ s.2 14 → ∃ m, 1 ≤ m ∧ m ≤ 9 ∧ row 3 = nI m
theorem Rc_Z {K : ex_K} {I : ex_I} {F : ex_F} {a : Nat → Nat} {g : GH} {z : Nat} {s : MS} (hR : Rc K I F a g z s) : hZ s ∧ (s.2 31).length ≤ 16 := by
  obtain ⟨S, c, e1, e2, e3⟩ := hR.2.2.1
  obtain ⟨U, hu, hU⟩ := hR.2.2.2.1
  refine ⟨⟨hR.2.1.2.2, c, e1, e2.2.2.2.2.1, ?_, fun row hr => ?_⟩, ?_⟩
  · rw [← f2_len e3]
    have := st_len e2
    have := e2.2.2.2.2.1
    omega
  · obtain ⟨p, hp, hE⟩ := f2_mem e3 row hr
    have hok := e2.2.2.2.2.2.2.2.2.1 p hp
    have h9 := szN_ok hok
    exact ⟨_, h9.1, h9.2, Er_sz hE hok⟩
  · rw [← f2_len hU]
    exact hu.2.2.2.2.1
theorem rsum_sz : ∀ (L : List (Nat → Int32)), (∀ row, row ∈ L → ∃ m, 1 ≤ m ∧ m ≤ 9 ∧ row 3 = nI m) → ∃ k, rsum L = nI k ∧ L.length ≤ k ∧ k ≤ 9 * L.length := by
  intro L
  induction L with
  | nil => intro _; exact ⟨0, rfl, by simp, by simp⟩
  | cons r L ih =>
    intro h
    obtain ⟨m, m1, m2, m3⟩ := h r List.mem_cons_self
    obtain ⟨k, k1, k2, k3⟩ := ih (fun x hx => h x (List.mem_cons_of_mem _ hx))
    refine ⟨m + k, by rw [rsum, m3, k1, nI_add], ?_, ?_⟩ <;> rw [List.length_cons] <;> omega
theorem evr_len {cap n : Nat} (hc : cap ≤ 40) (h1 : 1 ≤ n) (hn : n ≤ 9) : ∀ (L : List (Nat → Int32)), L.length ≤ 40 → (∀ row, row ∈ L → ∃ m, 1 ≤ m ∧ m ≤ 9 ∧ row 3 = nI m) → (evr (nI cap) (nI n) L).length < 40 := by
  intro L
  induction L with
  | nil =>
    intro _ _
    show 0 < 40
    decide
  | cons r L ih =>
    intro hl h
    rw [evr]
    split
    · rename_i hle
      obtain ⟨k, k1, k2, k3⟩ := rsum_sz _ h
      rw [k1, nI_add, nI_leI (by omega) (by omega)] at hle
      omega
    · exact ih (by rw [List.length_cons] at hl; omega) (fun x hx => h x (List.mem_cons_of_mem _ hx))
section TWO
variable {s : MS} {N : Nat}
theorem t2_type (hJ : J N 3 3 s) (hz : hZ s) (c : Int32) (hc : vp_nar .char c = c) : ∃ v s', aC s M_FC_type [some (.inl c)] v s' ∧ aM s M_Mdl_type [some (.inl c)] v s' ∧ J (N + 1) 3 3 s' := by
  obtain ⟨⟨n, hs, hn⟩, -⟩ := hz
  by_cases h : c < 32 ∨ 126 < c ∨ n = 40
  · exact ⟨0, s, fun Γ K I F a g hR => ex_up (by omega) (ex_more (b := 0) (by omega) (sp_typeC_no (d := 0) hR hs hn h)), fun Γ K I F m ad hR hr => ex_up (d := 0) (by omega) (sp_typeR_no hR hr hs h), J_up hJ⟩
  · have h1 : ¬ c < 32 := fun w => h (Or.inl w)
    have h2 : ¬ 126 < c := fun w => h (Or.inr (Or.inl w))
    have h4 : n < 40 := by
      rcases Nat.lt_or_ge n 40 with w | w
      · exact w
      · exact absurd (Or.inr (Or.inr (by omega))) h
    exact ⟨1, m_type s n c, fun Γ K I F a g hR => ex_up (by omega) (ex_more (b := 0) (by omega) (sp_typeC (d := 0) hR hs hn h1 h2 h4)), fun Γ K I F m ad hR hr => ex_up (d := 0) (by omega) (sp_typeR hR hr h1 h2 hc hs h4), J_type (J_up hJ) n c⟩
theorem t2_rng (x : Int32) {n : Nat} (hn : n < 2 ^ 31) : (x < 0 ∨ nI n ≤ x) ∨ ∃ j, j < n ∧ x = nI j := by
  rcases pk_ix x hn with h | h | h
  · exact Or.inl (Or.inl h)
  · exact Or.inl (Or.inr h)
  · exact Or.inr h
theorem t2_in {j n : Nat} (hj : j < n) (hn : n < 2 ^ 31) : ¬ nI j < 0 ∧ ¬ nI n ≤ nI j := ⟨nI_pos (by omega), nI_ge hj hn⟩
theorem t2_sz (y : Int32) : (y < 1 ∨ ¬ y ≤ 9) ∨ ∃ m, 1 ≤ m ∧ m ≤ 9 ∧ y = nI m := by
  by_cases h1 : y < 1
  · exact Or.inl (Or.inl h1)
  · by_cases h9 : y ≤ 9
    · right
      obtain ⟨m, hm, rfl⟩ := nI_of (x := y) (fun h => h1 (by
        rw [Int32.lt_iff_toInt_lt] at h ⊢
        rw [Int32.toInt_zero] at h
        rw [show (1 : Int32).toInt = 1 from rfl]
        omega))
      refine ⟨m, ?_, (nI_leI (b := 9) hm (by decide)).mp h9, rfl⟩
      rcases Nat.lt_or_ge m 1 with c | c
      · exact absurd (nI_lt (b := 1) c (by decide)) h1
      · exact c
    · exact Or.inl (Or.inr h9)
theorem t2_sz' {m : Nat} (h1 : 1 ≤ m) (h9 : m ≤ 9) : ¬ nI m < 1 ∧ nI m ≤ 9 := ⟨nI_nlt (b := 1) h1 (by omega), nI_le (b := 9) h9 (by decide)⟩
theorem J_806 (hJ : J N 3 3 s) (hN : N < 1000) : ¬ s.1 806 0 + 1 = 0 := by
  have v0 := hJ.1.1 806 (by decide)
  have vi := jinc (x := s.1 806 0) (by omega) (by omega)
  refine jne ?_
  rw [vi, Int32.toInt_zero]
  omega
theorem t2_publish (hJ : J N 3 3 s) (hN : N < 1000) (hz : hZ s) (x y z : Int32) (hv : z = 0 ∨ z = 1) : ∃ v s', aC s M_FC_publish [some (.inl x), some (.inl y), some (.inl z)] v s' ∧ aM s M_Mdl_publish [some (.inl x), some (.inl y), some (.inl z), none] v s' ∧ J (N + 1) 3 3 s' := by
  obtain ⟨⟨n, hs, hn⟩, -⟩ := hz
  have no : ((x < 0 ∨ nI 8 ≤ x) ∨ ((¬ x < 0 ∧ ¬ nI 8 ≤ x) ∧ (y < 1 ∨ ¬ y ≤ 9))) → ∃ v s', aC s M_FC_publish [some (.inl x), some (.inl y), some (.inl z)] v s' ∧ aM s M_Mdl_publish [some (.inl x), some (.inl y), some (.inl z), none] v s' ∧ J (N + 1) 3 3 s' := fun h => ⟨-1, s, fun Γ K I F a g hR => ex_up (by omega) (ex_more (b := 0) (by omega) (sp_publish_no (d := 0) hR h)), fun Γ K I F m ad hR hr => ex_up (by omega) (sp_publishR_no (d := 0) hR hr h), J_up hJ⟩
  rcases t2_rng x (n := 8) (by decide) with h | ⟨p, hp, rfl⟩
  · exact no (Or.inl h)
  · rcases t2_sz y with h | ⟨m, m1, m9, rfl⟩
    · exact no (Or.inr ⟨t2_in hp (by decide), h⟩)
    · obtain ⟨a1, a2⟩ := t2_sz' m1 m9
      exact ⟨s.1 806 0 + 1, m_pub s p n (nI m) z, fun Γ K I F a g hR => ex_up (by omega) (ex_more (by omega) (sp_publish (d := 0) (b := 0) hR hp a1 a2 hv hs hn (J_806 hJ hN))), fun Γ K I F m ad hR hr => ex_up (by omega) (sp_publishR (d := 0) hR hr hp a1 a2 hv hs hn), J_pub hJ hN hv m1 m9⟩
theorem t2_withdraw (hJ : J N 3 3 s) (x : Int32) : ∃ v s', aC s M_FC_withdraw [some (.inl x)] v s' ∧ aM s M_Mdl_withdraw [some (.inl x)] v s' ∧ J (N + 1) 3 3 s' := by
  rcases t2_rng x (n := 8) (by decide) with h | ⟨p, hp, rfl⟩
  · exact ⟨0, s, fun Γ K I F a g hR => ex_up (by omega) (ex_more (b := 0) (by omega) (sp_withdrawC_no (d := 0) hR h)), fun Γ K I F m ad hR hr => ex_up (by omega) (sp_withdrawR_no (d := 0) hR hr h), J_up hJ⟩
  · refine ⟨_, _, fun Γ K I F a g hR => ex_up (by omega) (ex_more (b := 0) (by omega) (sp_withdrawC (d := 0) hR hp)), fun Γ K I F m ad hR hr => ex_up (by omega) (sp_withdrawR (d := 0) hR hr hp), ?_⟩
    split
    · exact J_up hJ
    · exact J_wd (J_up hJ)
theorem t2_get (hJ : J N 3 3 s) (hN : N < 1000) (hz : hZ s) (x v tag : Int32) : ∃ r s', aC s M_FC_get [some (.inl x), some (.inl v), some (.inl tag), none] r s' ∧ aM s M_Mdl_get [some (.inl x), some (.inl v), some (.inl tag), none, none, none] r s' ∧ J (N + 1) 3 3 s' := by
  obtain ⟨⟨n, hs, hn⟩, -⟩ := hz
  have no : ((x < 0 ∨ nI 8 ≤ x) ∨ ((¬ x < 0 ∧ ¬ nI 8 ≤ x) ∧ (v < 0 ∨ ¬ v ≤ 3 ∨ tag < 0))) → ∃ r s', aC s M_FC_get [some (.inl x), some (.inl v), some (.inl tag), none] r s' ∧ aM s M_Mdl_get [some (.inl x), some (.inl v), some (.inl tag), none, none, none] r s' ∧ J (N + 1) 3 3 s' := fun h => ⟨-1, s, fun Γ K I F a g hR => ex_up (by omega) (ex_more (b := 0) (by omega) (sp_getC_no (d := 0) hR h)), fun Γ K I F m ad hR hr => ex_up (by omega) (sp_getR_no (d := 0) hR hr h), J_up hJ⟩
  rcases t2_rng x (n := 8) (by decide) with h | ⟨p, hp, rfl⟩
  · exact no (Or.inl h)
  · by_cases h : v < 0 ∨ ¬ v ≤ 3 ∨ tag < 0
    · exact no (Or.inr ⟨t2_in hp (by decide), h⟩)
    · have v0 : ¬ v < 0 := fun w => h (Or.inl w)
      have v3 : v ≤ 3 := by
        by_cases c : v ≤ 3
        · exact c
        · exact absurd (Or.inr (Or.inl c)) h
      have t0 : 0 ≤ tag := Int32.not_lt.mp (fun w => h (Or.inr (Or.inr w)))
      obtain ⟨j, hj, hvj⟩ := nI_of v0
      exact ⟨s.1 820 0 + 1, m_get s p v tag n, fun Γ K I F a g hR => ex_up (by omega) (ex_more (by omega) (sp_getC (d := 0) (b := 0) hR hJ hN hp v0 v3 t0 hs hn)), fun Γ K I F m ad hR hr => ex_up (by omega) (sp_getR (d := 0) hR hr hp v0 v3 t0 hs hn), J_get hJ hN hp ⟨j, (nI_leI (b := 3) hj (by decide)).mp (by rw [← hvj]; exact v3), hvj⟩⟩
theorem t2_put (hJ : J N 3 3 s) (hN : N < 1000) (x y : Int32) : ∃ v s', aC s M_FC_put [some (.inl x), some (.inl y)] v s' ∧ aM s M_Mdl_put [some (.inl x), some (.inl y), none] v s' ∧ J (N + 1) 3 3 s' := by
  have no : ((x < 0 ∨ nI 8 ≤ x) ∨ ((¬ x < 0 ∧ ¬ nI 8 ≤ x) ∧ (y < 1 ∨ ¬ y ≤ 9))) → ∃ v s', aC s M_FC_put [some (.inl x), some (.inl y)] v s' ∧ aM s M_Mdl_put [some (.inl x), some (.inl y), none] v s' ∧ J (N + 1) 3 3 s' := fun h => ⟨-1, s, fun Γ K I F a g hR => ex_up (by omega) (ex_more (b := 0) (by omega) (sp_putC_no (d := 0) hR h)), fun Γ K I F m ad hR hr => ex_up (by omega) (sp_putR_no (d := 0) hR hr h), J_up hJ⟩
  rcases t2_rng x (n := 8) (by decide) with h | ⟨p, hp, rfl⟩
  · exact no (Or.inl h)
  · rcases t2_sz y with h | ⟨m, m1, m9, rfl⟩
    · exact no (Or.inr ⟨t2_in hp (by decide), h⟩)
    · obtain ⟨a1, a2⟩ := t2_sz' m1 m9
      exact ⟨s.1 820 0 + 1, m_put s p (nI m), fun Γ K I F a g hR => ex_up (by omega) (ex_more (by omega) (sp_putC (d := 0) (b := 0) hR hJ hN hp a1 a2)), fun Γ K I F m ad hR hr => ex_up (by omega) (sp_putR (d := 0) hR hr hp a1 a2), J_put hJ hN hp m1 m9⟩
theorem t2_delete (hJ : J N 3 3 s) (hN : N < 1000) (x : Int32) : ∃ v s', aC s M_FC_delete [some (.inl x)] v s' ∧ aM s M_Mdl_delete [some (.inl x), none] v s' ∧ J (N + 1) 3 3 s' := by
  rcases t2_rng x (n := 8) (by decide) with h | ⟨p, hp, rfl⟩
  · exact ⟨-1, s, fun Γ K I F a g hR => ex_up (by omega) (ex_more (b := 0) (by omega) (sp_deleteC_no (d := 0) hR h)), fun Γ K I F m ad hR hr => ex_up (by omega) (sp_deleteR_no (d := 0) hR hr h), J_up hJ⟩
  · exact ⟨s.1 820 0 + 1, m_del s p, fun Γ K I F a g hR => ex_up (by omega) (ex_more (by omega) (sp_deleteC (d := 0) (b := 0) hR hJ hN hp)), fun Γ K I F m ad hR hr => ex_up (by omega) (sp_deleteR (d := 0) hR hr hp), J_del hJ hN hp⟩
theorem t2_deliver (hJ : J N 3 3 s) (hN : N < 1000) (hz : hZ s) (h16 : (s.2 31).length ≤ 16) (x : Int32) : ∃ v s', aC s M_FC_deliver [some (.inl x), none] v s' ∧ aM s M_Mdl_deliver [some (.inl x), none] v s' ∧ J (N + 1) 3 3 s' := by
  rcases t2_rng x (n := (s.2 31).length) (by omega) with h | ⟨e, he, rfl⟩
  · exact ⟨0, s, fun Γ K I F a g hR => ex_up (by omega) (ex_more (b := 0) (by omega) (sp_deliverC_no (d := 0) hR h)), fun Γ K I F m ad hR hr => ex_up (by omega) (sp_deliverR_no (d := 0) hR hr h), J_up hJ⟩
  · have he' : (s.2 31)[e]? = some (s.2 31)[e] := List.getElem?_eq_getElem he
    generalize (s.2 31)[e] = cm at he'
    obtain ⟨t, ht, h0, hf⟩ := hJ.2.2.2.1.1 cm (List.mem_of_getElem? he')
    obtain ⟨p, hp⟩ : ∃ p, cm 1 = 0 → ¬ cm 2 = 0 → p < 8 ∧ cm 5 = nI p ∧ (cm 3 = 1 ∨ cm 3 = 2 ∨ cm 3 = 3) := by
      by_cases c : cm 1 = 0 ∧ ¬ cm 2 = 0
      · obtain ⟨⟨p, p1, p2⟩, p3, -⟩ := hf.2.2.2.1 c.2 c.1
        exact ⟨p, fun _ _ => ⟨p1, p2, p3⟩⟩
      · exact ⟨0, fun a b => absurd ⟨a, b⟩ c⟩
    obtain ⟨-, c, c1, c2, c3, c4⟩ := hz
    refine ⟨1, m_dlv s e t p cm, fun Γ K I F a g hR => ex_up (by omega) (ex_more (by omega) (sp_deliverC (d := 0) (b := 0) hR hJ hN he' ht h0 hp)), fun Γ K I F m ad hR hr => ex_up (by omega) (sp_deliverR (d := 0) hR hr he' ht h0 hp (fun w Q g1 g2 _ _ g5 => ?_)), J_dlv hJ hN he' ht h0 (fun a b => (hp a b).1)⟩
    obtain ⟨⟨m, m1, m9, m7⟩, -⟩ := (hf.2.2.2.2.1 g2 (hf.1.resolve_left g1)).2 (Or.inl g5)
    have e1 : (m_ev (m_dr (m_an1 (m_d0 s e) cm w) (w 2) (w 3) (if cm 8 = 0 then 1 else 0)) (cm 7)).2 14 = evr (nI c) (nI m) ((s.2 14).filter (fun row => !drb (w 2) (w 3) (if cm 8 = 0 then 1 else 0) row)) := by
      unfold m_ev m_dr
      rw [tu_at, tu_at, an1_2, m7]
      show evr ((m_an1 (m_d0 s e) cm w).1 804 0) _ _ = _
      rw [an1_c (by decide)]
      show evr (s.1 804 0) _ (((m_d0 s e).2 14).filter _) = _
      rw [c1]
      unfold m_d0
      rw [tu_ne _ _ (by decide)]
    rw [e1]
    exact evr_len c2 m1 m9 _ (Nat.le_trans (List.length_filter_le _ _) c3) (fun row hr => c4 row (List.mem_filter.mp hr).1)
theorem t2_lose (hJ : J N 3 3 s) (h16 : (s.2 31).length ≤ 16) (x : Int32) : ∃ v s', aC s M_FC_lose [some (.inl x)] v s' ∧ aM s M_Mdl_lose [some (.inl x)] v s' ∧ J (N + 1) 3 3 s' := by
  rcases t2_rng x (n := (s.2 31).length) (by omega) with h | ⟨e, he, rfl⟩
  · exact ⟨0, s, fun Γ K I F a g hR => ex_up (by omega) (ex_more (b := 0) (by omega) (sp_loseC_no (d := 0) hR h)), fun Γ K I F m ad hR hr => ex_up (by omega) (sp_loseR_no (d := 0) hR hr h), J_up hJ⟩
  · have he' : (s.2 31)[e]? = some (s.2 31)[e] := List.getElem?_eq_getElem he
    exact ⟨1, tu s 31 ((s.2 31).eraseIdx e), fun Γ K I F a g hR => ex_up (by omega) (ex_more (b := 0) (by omega) (sp_loseC (d := 0) hR he')), fun Γ K I F m ad hR hr => ex_up (by omega) (sp_loseR (d := 0) hR hr he), J_fly (J_up hJ) (fun r hr => List.mem_of_mem_eraseIdx hr)⟩
theorem t2_copy (hJ : J N 3 3 s) (h16 : (s.2 31).length ≤ 16) (x : Int32) : ∃ v s', aC s M_FC_copy [some (.inl x), none] v s' ∧ aM s M_Mdl_copy [some (.inl x)] v s' ∧ J (N + 1) 3 3 s' := by
  have no : ((x < 0 ∨ nI (s.2 31).length ≤ x) ∨ (s.2 31).length = 16) → ∃ v s', aC s M_FC_copy [some (.inl x), none] v s' ∧ aM s M_Mdl_copy [some (.inl x)] v s' ∧ J (N + 1) 3 3 s' := fun h => ⟨0, s, fun Γ K I F a g hR => ex_up (by omega) (ex_more (b := 0) (by omega) (sp_copyC_no (d := 0) hR h)), fun Γ K I F m ad hR hr => ex_up (by omega) (sp_copyR_no (d := 0) hR hr h), J_up hJ⟩
  rcases t2_rng x (n := (s.2 31).length) (by omega) with h | ⟨e, he, rfl⟩
  · exact no (Or.inl h)
  · by_cases hl : (s.2 31).length = 16
    · exact no (Or.inr hl)
    · have he' : (s.2 31)[e]? = some (s.2 31)[e] := List.getElem?_eq_getElem he
      have hm : m_snd (s.2 31) (s.2 31)[e] = s.2 31 ++ [(s.2 31)[e]] := if_pos (by omega)
      refine ⟨1, tu s 31 (s.2 31 ++ [(s.2 31)[e]]), fun Γ K I F a g hR => ex_up (by omega) (ex_more (b := 0) (by omega) (sp_copyC (d := 0) hR he' (by omega))), fun Γ K I F m ad hR hr => ex_up (by omega) (sp_copyR (d := 0) hR hr he' (by omega)), ?_⟩
      rw [← hm]
      exact J_send (J_up hJ) (hJ.2.2.2.1.1 _ (List.mem_of_getElem? he'))
theorem t2_tick (hJ : J N 3 3 s) (hN : N < 1000) : ∃ v s', aC s M_FC_tick [none] v s' ∧ aM s M_Mdl_tick [none, none] v s' ∧ J (N + 1) 3 3 s' :=
  ⟨s.1 805 0 + 1, m_tick s, fun Γ K I F a g hR => ex_up (by omega) (ex_more (by omega) (sp_tickC (d := 0) (b := 0) hR hJ hN)), fun Γ K I F m ad hR hr => ex_up (by omega) (sp_tickR (d := 0) hR hr), J_tick hJ hN⟩
theorem t2_power (hJ : J N 3 3 s) (x y : Int32) (hy : y = 0 ∨ y = 1) : ∃ v s', aC s M_FC_power [some (.inl x), some (.inl y)] v s' ∧ aM s M_Mdl_power [some (.inl x), some (.inl y)] v s' ∧ J (N + 1) 3 3 s' := by
  rcases t2_rng x (n := 3) (by decide) with h | ⟨p, hp, rfl⟩
  · exact ⟨0, s, fun Γ K I F a g hR => ex_up (by omega) (ex_more (b := 0) (by omega) (sp_powerC_no (d := 0) hR h)), fun Γ K I F m ad hR hr => ex_up (by omega) (sp_powerR_no (d := 0) hR hr h), J_up hJ⟩
  · refine ⟨_, _, fun Γ K I F a g hR => ex_up (by omega) (ex_more (b := 0) (by omega) (sp_powerC (d := 0) hR hp hy (hJ.1.2 p hp).2.2.2.2.2)), fun Γ K I F m ad hR hr => ex_up (by omega) (sp_powerR (d := 0) hR hr hp hy), ?_⟩
    split
    · exact J_pw (J_up hJ) hy
    · exact J_up hJ
theorem t2_w (w : Int32) {n : Nat} (hn : n < 100) : (w < 0 ∨ ¬ w ≤ nI n) ∨ ∃ j, j < n + 1 ∧ w = nI j := by
  rcases pk_ix w (n := n + 1) (by omega) with h | h | h
  · exact Or.inl (Or.inl h)
  · left
    right
    intro c
    rw [Int32.le_iff_toInt_le, nI_toInt (by omega)] at h c
    omega
  · exact Or.inr h
theorem t2_answer (hJ : J N 3 3 s) (x w : Int32) : ∃ v s', aC s M_FC_answer [some (.inl x), some (.inl w), none] v s' ∧ aM s M_Mdl_answer [some (.inl x), some (.inl w), none] v s' ∧ J (N + 1) 3 3 s' := by
  by_cases h : x < 1 ∨ s.1 820 0 < x ∨ x ≤ s.1 820 0 - 16 ∨ w < 0 ∨ ¬ w ≤ 3
  · exact ⟨-1, s, fun Γ K I F a g hR => ex_up (by omega) (ex_more (b := 0) (by omega) (sp_answerC_no (d := 0) hR h)), fun Γ K I F m ad hR hr => ex_up (d := 0) (by omega) (sp_answerR_no hR hr h), J_up hJ⟩
  · rcases t2_w w (n := 3) (by decide) with hw | ⟨j, hj, rfl⟩
    · exact absurd (Or.inr (Or.inr (Or.inr hw))) h
    · exact ⟨m_ans s x j, s, fun Γ K I F a g hR => ex_up (by omega) (ex_more (b := 0) (by omega) (sp_answerC (d := 0) hR (fun z => h (Or.inl z)) (fun z => h (Or.inr (Or.inl z))) (fun z => h (Or.inr (Or.inr (Or.inl z)))) hj)), fun Γ K I F m ad hR hr => ex_up (d := 0) (by omega) (sp_answerR hR hr (fun z => h (Or.inl z)) (fun z => h (Or.inr (Or.inl z))) (fun z => h (Or.inr (Or.inr (Or.inl z)))) hj), J_up hJ⟩
theorem t2_flights (hJ : J N 3 3 s) : ∃ v s', aC s M_FC_flights [] v s' ∧ aM s M_Mdl_flights [] v s' ∧ J (N + 1) 3 3 s' :=
  ⟨nI (s.2 31).length, s, fun Γ K I F a g hR => ex_up (d := 0) (by omega) (ex_more (b := 0) (by omega) (sp_flightsC hR)), fun Γ K I F m ad hR hr => ex_up (d := 0) (by omega) (sp_flightsR hR hr), J_up hJ⟩
theorem t2_entries (hJ : J N 3 3 s) : ∃ v s', aC s M_FC_entries [] v s' ∧ aM s M_Mdl_entries [] v s' ∧ J (N + 1) 3 3 s' :=
  ⟨nI (s.2 14).length, s, fun Γ K I F a g hR => ex_up (d := 0) (by omega) (ex_more (b := 0) (by omega) (sp_entriesC hR)), fun Γ K I F m ad hR hr => ex_up (d := 0) (by omega) (sp_entriesR hR hr), J_up hJ⟩
theorem t2_flight (hJ : J N 3 3 s) (h16 : (s.2 31).length ≤ 16) (x w : Int32) : ∃ v s', aC s M_FC_flight [some (.inl x), some (.inl w), none] v s' ∧ aM s M_Mdl_flight [some (.inl x), some (.inl w), none] v s' ∧ J (N + 1) 3 3 s' := by
  have no : ((x < 0 ∨ nI (s.2 31).length ≤ x) ∨ w < 0 ∨ ¬ w ≤ 3) → ∃ v s', aC s M_FC_flight [some (.inl x), some (.inl w), none] v s' ∧ aM s M_Mdl_flight [some (.inl x), some (.inl w), none] v s' ∧ J (N + 1) 3 3 s' := fun h => ⟨-1, s, fun Γ K I F a g hR => ex_up (by omega) (ex_more (b := 0) (by omega) (sp_flightC_no (d := 0) hR h)), fun Γ K I F m ad hR hr => ex_up (by omega) (sp_flightR_no (d := 0) hR hr h), J_up hJ⟩
  rcases t2_rng x (n := (s.2 31).length) (by omega) with h | ⟨e, he, rfl⟩
  · exact no (Or.inl h)
  · rcases t2_w w (n := 3) (by decide) with hw | ⟨j, hj, rfl⟩
    · exact no (Or.inr hw)
    · have he' : (s.2 31)[e]? = some (s.2 31)[e] := List.getElem?_eq_getElem he
      obtain ⟨t, -, -, hf⟩ := hJ.2.2.2.1.1 _ (List.mem_of_getElem? he')
      exact ⟨_, s, fun Γ K I F a g hR => ex_up (by omega) (ex_more (b := 0) (by omega) (sp_flightC (d := 0) hR he' hf.1 hj)), fun Γ K I F m ad hR hr => ex_up (by omega) (sp_flightR (d := 0) hR hr he' hj), J_up hJ⟩
theorem t2_entry (hJ : J N 3 3 s) (hz : hZ s) (x w : Int32) : ∃ v s', aC s M_FC_entry [some (.inl x), some (.inl w), none] v s' ∧ aM s M_Mdl_entry [some (.inl x), some (.inl w), none] v s' ∧ J (N + 1) 3 3 s' := by
  have h40 := hz.2.choose_spec.2.2.1
  have no : (x < 0 ∨ nI (s.2 14).length ≤ x ∨ w < 0 ∨ ¬ w ≤ 5) → ∃ v s', aC s M_FC_entry [some (.inl x), some (.inl w), none] v s' ∧ aM s M_Mdl_entry [some (.inl x), some (.inl w), none] v s' ∧ J (N + 1) 3 3 s' := fun h => ⟨-1, s, fun Γ K I F a g hR => ex_up (by omega) (ex_more (b := 0) (by omega) (sp_entryC_no (d := 0) hR h)), fun Γ K I F m ad hR hr => ex_up (by omega) (sp_entryR_no (d := 0) hR hr h), J_up hJ⟩
  rcases t2_rng x (n := (s.2 14).length) (by omega) with h | ⟨k, hk, rfl⟩
  · exact no (h.elim Or.inl (fun z => Or.inr (Or.inl z)))
  · rcases t2_w w (n := 5) (by decide) with hw | ⟨j, hj, rfl⟩
    · exact no (Or.inr (Or.inr hw))
    · have he' : (s.2 14)[(s.2 14).length - 1 - k]? = some ((s.2 14)[(s.2 14).length - 1 - k]'(by omega)) := List.getElem?_eq_getElem (by omega)
      have hr4 := (hJ.2.2.2.2.2.1 _ (List.mem_of_getElem? he')).2.2
      exact ⟨_, s, fun Γ K I F a g hR => ex_up (by omega) (ex_more (b := 0) (by omega) (sp_entryC (d := 0) hR hk he' hr4 hj)), fun Γ K I F m ad hR hr => ex_up (by omega) (sp_entryR (d := 0) hR hr hk he' hj), J_up hJ⟩
theorem t2_owner (hJ : J N 3 3 s) (x : Int32) : ∃ v s', aC s M_FC_owner [some (.inl x)] v s' ∧ aM s M_Mdl_owner [some (.inl x), none, none] v s' ∧ J (N + 1) 3 3 s' := by
  rcases t2_rng x (n := 8) (by decide) with h | ⟨p, hp, rfl⟩
  · exact ⟨-1, s, fun Γ K I F a g hR => ex_up (by omega) (ex_more (b := 0) (by omega) (sp_ownerC_no (d := 0) hR h)), fun Γ K I F m ad hR hr => ex_up (by omega) (ex_post (fun r K' I' F' z => ⟨z.1, z.2.1, z.2.2.2, by rw [← z.2.2.1]; exact hr⟩) (sp_ownerR_no (d := 0) h)), J_up hJ⟩
  · exact ⟨nI (own p), s, fun Γ K I F a g hR => ex_up (by omega) (ex_more (b := 0) (by omega) (sp_ownerC (d := 0) hR hp)), fun Γ K I F m ad hR hr => ex_up (by omega) (ex_post (fun r K' I' F' z => ⟨z.1, z.2.1, z.2.2.2, by rw [← z.2.2.1]; exact hr⟩) (sp_ownerR (d := 0) hp)), J_up hJ⟩
theorem t2_waiting (hJ : J N 3 3 s) (x : Int32) : ∃ v s', aC s M_FC_waiting [some (.inl x)] v s' ∧ aM s M_Mdl_waiting [some (.inl x)] v s' ∧ J (N + 1) 3 3 s' := by
  rcases t2_rng x (n := 3) (by decide) with h | ⟨p, hp, rfl⟩
  · exact ⟨-1, s, fun Γ K I F a g hR => ex_up (by omega) (ex_more (b := 0) (by omega) (sp_waitingC_no (d := 0) hR h)), fun Γ K I F m ad hR hr => ex_up (by omega) (sp_waitingR_no (d := 0) hR hr h), J_up hJ⟩
  · exact ⟨_, s, fun Γ K I F a g hR => ex_up (by omega) (ex_more (b := 0) (by omega) (sp_waitingC (d := 0) hR hp)), fun Γ K I F m ad hR hr => ex_up (by omega) (sp_waitingR (d := 0) hR hr hp), J_up hJ⟩
theorem t2_version (hJ : J N 3 3 s) (x : Int32) : ∃ v s', aC s M_FC_version [some (.inl x)] v s' ∧ aM s M_Mdl_version [some (.inl x)] v s' ∧ J (N + 1) 3 3 s' := by
  rcases t2_rng x (n := 8) (by decide) with h | ⟨p, hp, rfl⟩
  · exact ⟨0, s, fun Γ K I F a g hR => ex_up (by omega) (ex_more (b := 0) (by omega) (sp_versionC_no (d := 0) hR h)), fun Γ K I F m ad hR hr => ex_up (by omega) (sp_versionR_no (d := 0) hR hr h), J_up hJ⟩
  · exact ⟨_, s, fun Γ K I F a g hR => ex_up (by omega) (ex_more (b := 0) (by omega) (sp_versionC (d := 0) hR hp)), fun Γ K I F m ad hR hr => ex_up (by omega) (sp_versionR (d := 0) hR hr hp), J_up hJ⟩
end TWO
