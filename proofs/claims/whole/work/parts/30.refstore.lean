/-! The reference's store: rows -/
def r_ent (J : ex_I) (m : Nat) (ad : Nat → Nat) (L : List (Nat → Int32)) : Prop := J 816 m 0 = nI L.length ∧ L.length ≤ 40 ∧ ∀ e row, L[e]? = some row → (∀ j, j < 7 → J 21 (ad 14) (8 * e + j) = row j) ∧ ∀ q, q < 4 → J 21 (ad 15) (4 * e + q) = row (8 + q)
def e_fr (J J' : ex_I) (ad : Nat → Nat) : Prop := (∀ g, g ≠ 816 → g ≠ 21 → J' g = J g) ∧ ∀ a, a ≠ ad 14 → a ≠ ad 15 → J' 21 a = J 21 a
theorem e_fr_rfl {J : ex_I} {ad : Nat → Nat} : e_fr J J ad := ⟨fun _ _ _ => rfl, fun _ _ _ => rfl⟩
theorem e_fr_trans {J J' J'' : ex_I} {ad : Nat → Nat} (h : e_fr J J' ad) (h' : e_fr J' J'' ad) : e_fr J J'' ad := ⟨fun g a b => (h'.1 g a b).trans (h.1 g a b), fun a x y => (h'.2 a x y).trans (h.2 a x y)⟩
def mtb (p v : Int32) (row : Nat → Int32) : Bool := decide (row 1 = p) && (decide (row 4 = 0) || decide (row 5 = v))
theorem mtb_iff (p v : Int32) (row : Nat → Int32) : mtb p v row = true ↔ (row 1 = p ∧ (row 4 = 0 ∨ row 5 = v)) := by simp [mtb]
theorem sp_matches {Γ : ex_G} {d : Nat} {K : ex_K} {I : ex_I} {F : ex_F} {b : Nat} {m e : Nat} {p v : Int32} {row : Nat → Int32} {L : List (Nat → Int32)} {ad : Nat → Nat} (hR : rf_ok K F m ad) (hL : r_ent I m ad L) (he : L[e]? = some row) :
    ex_E Γ (d + 1) M_Mdl_matches 0 [some (.inr (some m)), some (.inl (nI e)), some (.inl p), some (.inl v)] [] K I F b (fun r K' I' F' => r = some (.inl (if mtb p v row = true then 1 else 0)) ∧ K = K' ∧ I = I' ∧ F = F') := by
  have m1 := hR.1
  obtain ⟨l1, l2, l3⟩ := hL
  obtain ⟨r1, -⟩ := l3 e row he
  have hlt : e < L.length := (List.getElem?_eq_some_iff.mp he).1
  refine s_Mdl_matches_0 ?_
  refine s_Mdl_matches_1 ?_
  refine s_Mdl_matches_2 ?_
  refine s_Mdl_matches_3 (b1 := 0) (b2 := _) (by first | rfl | assumption | (simp [*]; done)) (by first | rfl | assumption | (simp [*]; done)) (Q1 := fun r K' I' F' => ex_E _ _ M_Mdl_matches 6 _ (r.toList ++ _) K' I' F' _ _) ?_ (fun _ _ _ _ hq => hq) (Nat.le_of_eq (Nat.zero_add _))
  refine s_Mdl_part_0 ?_
  refine s_Mdl_part_1 (by first | rfl | assumption | (simp [*]; done)) (by first | rfl | assumption | (simp [*]; done)) ?_
  refine s_Mdl_part_4 ?_
  refine s_Mdl_part_6 ?_
  refine s_Mdl_part_7 ?_
  refine s_Mdl_part_8 ?_
  refine s_Mdl_part_9 ?_
  refine s_Mdl_part_10 (by first | exact rf_entry hR | rfl) (by exact rk_entry hR) (by rw [rn_entry hR]; exact n_in (a := ((8 * e) + 1)) (by first | rfl | (simp only [nl_1, nl_2, nl_3, nl_4, nl_5, nl_6, nl_7, nl_8, nl_9, nl_10, nl_11, nl_12, nl_13, nl_14, nl_15, nl_16, nl_32, nl_240, nl_250, nl_255, nl_265, nl_270, nl_0, nI_add, pk_mul]; done)) (by omega) (by omega)) ?_
  refine ex_ixl (q := ((8 * e) + 1)) (by first | rfl | (simp only [nl_1, nl_2, nl_3, nl_4, nl_5, nl_6, nl_7, nl_8, nl_9, nl_10, nl_11, nl_12, nl_13, nl_14, nl_15, nl_16, nl_32, nl_240, nl_250, nl_255, nl_265, nl_270, nl_0, nI_add, pk_mul]; done)) (by omega) ?_
  refine s_Mdl_part_11 ?_
  dsimp only [Option.toList, List.cons_append, List.nil_append]
  refine s_Mdl_matches_6 ?_
  rw [r1 1 (by decide)]
  refine s_Mdl_matches_7 (fun h7 => ?_) (fun h7 => ?_)
  · refine s_Mdl_matches_33 ?_
    refine s_Mdl_matches_34 (by first | rfl | decide | assumption) ?_
    rw [if_neg (by rw [mtb_iff]; exact fun z => h7 z.1)]
    exact ⟨rfl, rfl, rfl, rfl⟩
  · refine s_Mdl_matches_10 ?_
    refine s_Mdl_matches_11 ?_
    refine s_Mdl_matches_12 ?_
    refine s_Mdl_matches_13 (b1 := 0) (b2 := _) (by first | rfl | assumption | (simp [*]; done)) (by first | rfl | assumption | (simp [*]; done)) (Q1 := fun r K' I' F' => ex_E _ _ M_Mdl_matches 16 _ (r.toList ++ _) K' I' F' _ _) ?_ (fun _ _ _ _ hq => hq) (Nat.le_of_eq (Nat.zero_add _))
    refine s_Mdl_part_0 ?_
    refine s_Mdl_part_1 (by first | rfl | assumption | (simp [*]; done)) (by first | rfl | assumption | (simp [*]; done)) ?_
    refine s_Mdl_part_4 ?_
    refine s_Mdl_part_6 ?_
    refine s_Mdl_part_7 ?_
    refine s_Mdl_part_8 ?_
    refine s_Mdl_part_9 ?_
    refine s_Mdl_part_10 (by first | exact rf_entry hR | rfl) (by exact rk_entry hR) (by rw [rn_entry hR]; exact n_in (a := ((8 * e) + 4)) (by first | rfl | (simp only [nl_1, nl_2, nl_3, nl_4, nl_5, nl_6, nl_7, nl_8, nl_9, nl_10, nl_11, nl_12, nl_13, nl_14, nl_15, nl_16, nl_32, nl_240, nl_250, nl_255, nl_265, nl_270, nl_0, nI_add, pk_mul]; done)) (by omega) (by omega)) ?_
    refine ex_ixl (q := ((8 * e) + 4)) (by first | rfl | (simp only [nl_1, nl_2, nl_3, nl_4, nl_5, nl_6, nl_7, nl_8, nl_9, nl_10, nl_11, nl_12, nl_13, nl_14, nl_15, nl_16, nl_32, nl_240, nl_250, nl_255, nl_265, nl_270, nl_0, nI_add, pk_mul]; done)) (by omega) ?_
    refine s_Mdl_part_11 ?_
    dsimp only [Option.toList, List.cons_append, List.nil_append]
    rw [r1 4 (by decide)]
    refine s_Mdl_matches_16 (fun h16 => ?_) (fun h16 => ?_)
    · refine s_Mdl_matches_29 ?_
      refine s_Mdl_matches_30 ?_
      refine s_Mdl_matches_34 (by first | rfl | decide | assumption) ?_
      rw [if_pos ((mtb_iff _ _ _).mpr ⟨h7, Or.inl h16⟩)]
      exact ⟨rfl, rfl, rfl, rfl⟩
    · refine s_Mdl_matches_19 ?_
      refine s_Mdl_matches_20 ?_
      refine s_Mdl_matches_21 ?_
      refine s_Mdl_matches_22 (b1 := 0) (b2 := _) (by first | rfl | assumption | (simp [*]; done)) (by first | rfl | assumption | (simp [*]; done)) (Q1 := fun r K' I' F' => ex_E _ _ M_Mdl_matches 25 _ (r.toList ++ _) K' I' F' _ _) ?_ (fun _ _ _ _ hq => hq) (Nat.le_of_eq (Nat.zero_add _))
      refine s_Mdl_part_0 ?_
      refine s_Mdl_part_1 (by first | rfl | assumption | (simp [*]; done)) (by first | rfl | assumption | (simp [*]; done)) ?_
      refine s_Mdl_part_4 ?_
      refine s_Mdl_part_6 ?_
      refine s_Mdl_part_7 ?_
      refine s_Mdl_part_8 ?_
      refine s_Mdl_part_9 ?_
      refine s_Mdl_part_10 (by first | exact rf_entry hR | rfl) (by exact rk_entry hR) (by rw [rn_entry hR]; exact n_in (a := ((8 * e) + 5)) (by first | rfl | (simp only [nl_1, nl_2, nl_3, nl_4, nl_5, nl_6, nl_7, nl_8, nl_9, nl_10, nl_11, nl_12, nl_13, nl_14, nl_15, nl_16, nl_32, nl_240, nl_250, nl_255, nl_265, nl_270, nl_0, nI_add, pk_mul]; done)) (by omega) (by omega)) ?_
      refine ex_ixl (q := ((8 * e) + 5)) (by first | rfl | (simp only [nl_1, nl_2, nl_3, nl_4, nl_5, nl_6, nl_7, nl_8, nl_9, nl_10, nl_11, nl_12, nl_13, nl_14, nl_15, nl_16, nl_32, nl_240, nl_250, nl_255, nl_265, nl_270, nl_0, nI_add, pk_mul]; done)) (by omega) ?_
      refine s_Mdl_part_11 ?_
      dsimp only [Option.toList, List.cons_append, List.nil_append]
      refine s_Mdl_matches_25 ?_
      rw [r1 5 (by decide)]
      refine s_Mdl_matches_26 (fun h26 => ?_) (fun h26 => ?_)
      · refine s_Mdl_matches_33 ?_
        refine s_Mdl_matches_34 (by first | rfl | decide | assumption) ?_
        rw [if_neg (by rw [mtb_iff]; exact fun z => z.2.elim h16 h26)]
        exact ⟨rfl, rfl, rfl, rfl⟩
      · refine s_Mdl_matches_29 ?_
        refine s_Mdl_matches_30 ?_
        refine s_Mdl_matches_34 (by first | rfl | decide | assumption) ?_
        rw [if_pos ((mtb_iff _ _ _).mpr ⟨h7, Or.inr h26⟩)]
        exact ⟨rfl, rfl, rfl, rfl⟩
def fix {α : Type} (p : α → Bool) : List α → Nat → Option Nat
  | [], _ => none
  | a :: l, i => if p a = true then some i else fix p l (i + 1)
def ixr (x : Option Nat) : Int32 := match x with
  | none => -1
  | some i => nI i
theorem fix_drop {α : Type} (p : α → Bool) (L : List α) {j : Nat} {a : α} (h : L[j]? = some a) : fix p (L.drop j) j = if p a = true then some j else fix p (L.drop (j + 1)) (j + 1) := by
  obtain ⟨h1, h2⟩ := List.getElem?_eq_some_iff.mp h
  rw [List.drop_eq_getElem_cons h1, h2, fix]
theorem fix_end {α : Type} (p : α → Bool) (L : List α) {j : Nat} (h : L.length ≤ j) : fix p (L.drop j) j = none := by
  rw [List.drop_eq_nil_of_le h]
  rfl
theorem fix_some {α : Type} (p : α → Bool) : ∀ (l : List α) (i k : Nat), fix p l i = some k → i ≤ k ∧ ∃ a, l[k - i]? = some a ∧ p a = true := by
  intro l
  induction l with
  | nil => intro i k h; cases h
  | cons a l ih =>
    intro i k h
    rw [fix] at h
    split at h
    · rename_i hp
      cases h
      refine ⟨Nat.le_refl _, a, ?_, hp⟩
      rw [Nat.sub_self]
      rfl
    · obtain ⟨h1, x, h2, h3⟩ := ih (i + 1) k h
      refine ⟨by omega, x, ?_, h3⟩
      rw [show k - i = (k - (i + 1)) + 1 by omega]
      exact h2
theorem lp_find {Γ : ex_G} {d : Nat} {K : ex_K} {I : ex_I} {F : ex_F} {b : Nat} {m : Nat} {p v : Int32} {L : List (Nat → Int32)} {ad : Nat → Nat} (hR : rf_ok K F m ad) (hL : r_ent I m ad L) : ∀ n j, L.length - j = n → j ≤ L.length →
    ex_E Γ (d + 2) M_Mdl_find 2 [some (.inr (some m)), some (.inl p), some (.inl v), some (.inl (nI j))] [] K I F b (fun r K' I' F' => r = some (.inl (ixr (fix (mtb p v) (L.drop j) j))) ∧ K = K' ∧ I = I' ∧ F = F') := by
  have m1 := hR.1
  have l1 := hL.1
  have l2 := hL.2.1
  intro n
  induction n with
  | zero =>
    intro j hn hj
    refine s_Mdl_find_2 ?_
    refine s_Mdl_find_3 ?_
    refine s_Mdl_find_4 (by first | rfl | assumption | (simp [*]; done)) (by first | rfl | assumption | (simp [*]; done)) ?_
    refine s_Mdl_find_7 (fun h7 => ?_) (fun h7 => absurd h7 (by rw [l1]; exact fun q => q (nI_le (by omega) (by omega))))
    refine s_Mdl_find_28 ?_
    refine s_Mdl_find_29 ?_
    rw [fix_end _ _ (by omega)]
    exact ⟨rfl, rfl, rfl, rfl⟩
  | succ n ih =>
    intro j hn hj
    have hg : L[j]? = some L[j] := List.getElem?_eq_getElem (by omega)
    refine s_Mdl_find_2 ?_
    refine s_Mdl_find_3 ?_
    refine s_Mdl_find_4 (by first | rfl | assumption | (simp [*]; done)) (by first | rfl | assumption | (simp [*]; done)) ?_
    refine s_Mdl_find_7 (fun h7 => absurd h7 (by rw [l1]; exact nI_ge (by omega) (by omega))) (fun h7 => ?_)
    refine s_Mdl_find_10 ?_
    refine s_Mdl_find_11 ?_
    refine s_Mdl_find_12 ?_
    refine s_Mdl_find_13 ?_
    refine s_Mdl_find_14 (b1 := 0) (b2 := b) (by first | rfl | assumption | (simp [*]; done)) (by first | rfl | assumption | (simp [*]; done)) (sp_matches hR hL hg) ?_ (by omega)
    rintro _ _ _ _ ⟨rfl, rfl, rfl, rfl⟩
    dsimp only [Option.toList, List.cons_append, List.nil_append]
    refine s_Mdl_find_17 (fun h17 => ?_) (fun h17 => ?_)
    · refine s_Mdl_find_22 ?_
      refine s_Mdl_find_25 ?_
      rw [fix_drop _ _ hg, if_neg (fun z => by rw [if_pos z] at h17; exact absurd h17 (by decide)), nI_1]
      exact ih (j + 1) (by omega) (by omega)
    · refine s_Mdl_find_20 ?_
      refine s_Mdl_find_21 ?_
      rw [fix_drop _ _ hg, if_pos (by
        by_cases z : mtb p v L[j] = true
        · exact z
        · exact absurd (if_neg z) h17)]
      exact ⟨rfl, rfl, rfl, rfl⟩
theorem sp_find {Γ : ex_G} {d : Nat} {K : ex_K} {I : ex_I} {F : ex_F} {b : Nat} {m : Nat} {p v : Int32} {L : List (Nat → Int32)} {ad : Nat → Nat} (hR : rf_ok K F m ad) (hL : r_ent I m ad L) :
    ex_E Γ (d + 2) M_Mdl_find 0 [some (.inr (some m)), some (.inl p), some (.inl v), none] [] K I F b (fun r K' I' F' => r = some (.inl (ixr (fix (mtb p v) L 0))) ∧ K = K' ∧ I = I' ∧ F = F') := by
  refine s_Mdl_find_0 ?_
  refine s_Mdl_find_1 ?_
  exact lp_find hR hL _ 0 rfl (by omega)
theorem lp_byName {Γ : ex_G} {d : Nat} {K : ex_K} {I : ex_I} {F : ex_F} {b : Nat} {m : Nat} {x : Int32} {L : List (Nat → Int32)} {ad : Nat → Nat} (hR : rf_ok K F m ad) (hL : r_ent I m ad L) : ∀ n j, L.length - j = n → j ≤ L.length →
    ex_E Γ (d + 1) M_Mdl_byName 2 [some (.inr (some m)), some (.inl x), some (.inl (nI j))] [] K I F b (fun r K' I' F' => r = some (.inl (ixr (fix (fun row => decide (row 0 = x)) (L.drop j) j))) ∧ K = K' ∧ I = I' ∧ F = F') := by
  have m1 := hR.1
  obtain ⟨l1, l2, l3⟩ := hL
  intro n
  induction n with
  | zero =>
    intro j hn hj
    refine s_Mdl_byName_2 ?_
    refine s_Mdl_byName_3 ?_
    refine s_Mdl_byName_4 (by first | rfl | assumption | (simp [*]; done)) (by first | rfl | assumption | (simp [*]; done)) ?_
    refine s_Mdl_byName_7 (fun h7 => ?_) (fun h7 => absurd h7 (by rw [l1]; exact fun q => q (nI_le (by omega) (by omega))))
    refine s_Mdl_byName_28 ?_
    refine s_Mdl_byName_29 ?_
    rw [fix_end _ _ (by omega)]
    exact ⟨rfl, rfl, rfl, rfl⟩
  | succ n ih =>
    intro j hn hj
    have hg : L[j]? = some L[j] := List.getElem?_eq_getElem (by omega)
    have r1 := (l3 j _ hg).1
    refine s_Mdl_byName_2 ?_
    refine s_Mdl_byName_3 ?_
    refine s_Mdl_byName_4 (by first | rfl | assumption | (simp [*]; done)) (by first | rfl | assumption | (simp [*]; done)) ?_
    refine s_Mdl_byName_7 (fun h7 => absurd h7 (by rw [l1]; exact nI_ge (by omega) (by omega))) (fun h7 => ?_)
    refine s_Mdl_byName_10 ?_
    refine s_Mdl_byName_11 ?_
    refine s_Mdl_byName_12 ?_
    refine s_Mdl_byName_13 (b1 := 0) (b2 := _) (by first | rfl | assumption | (simp [*]; done)) (by first | rfl | assumption | (simp [*]; done)) (Q1 := fun r K' I' F' => ex_E _ _ M_Mdl_byName 16 _ (r.toList ++ _) K' I' F' _ _) ?_ (fun _ _ _ _ hq => hq) (Nat.le_of_eq (Nat.zero_add _))
    refine s_Mdl_part_0 ?_
    refine s_Mdl_part_1 (by first | rfl | assumption | (simp [*]; done)) (by first | rfl | assumption | (simp [*]; done)) ?_
    refine s_Mdl_part_4 ?_
    refine s_Mdl_part_6 ?_
    refine s_Mdl_part_7 ?_
    refine s_Mdl_part_8 ?_
    refine s_Mdl_part_9 ?_
    refine s_Mdl_part_10 (by first | exact rf_entry hR | rfl) (by exact rk_entry hR) (by rw [rn_entry hR]; exact n_in (a := ((8 * j) + 0)) (by first | rfl | (simp only [nl_1, nl_2, nl_3, nl_4, nl_5, nl_6, nl_7, nl_8, nl_9, nl_10, nl_11, nl_12, nl_13, nl_14, nl_15, nl_16, nl_32, nl_240, nl_250, nl_255, nl_265, nl_270, nl_0, nI_add, pk_mul]; done)) (by omega) (by omega)) ?_
    refine ex_ixl (q := ((8 * j) + 0)) (by first | rfl | (simp only [nl_1, nl_2, nl_3, nl_4, nl_5, nl_6, nl_7, nl_8, nl_9, nl_10, nl_11, nl_12, nl_13, nl_14, nl_15, nl_16, nl_32, nl_240, nl_250, nl_255, nl_265, nl_270, nl_0, nI_add, pk_mul]; done)) (by omega) ?_
    refine s_Mdl_part_11 ?_
    dsimp only [Option.toList, List.cons_append, List.nil_append]
    refine s_Mdl_byName_16 ?_
    rw [r1 0 (by decide)]
    refine s_Mdl_byName_17 (fun h17 => ?_) (fun h17 => ?_)
    · refine s_Mdl_byName_22 ?_
      refine s_Mdl_byName_25 ?_
      rw [fix_drop _ _ hg, if_neg (by simpa using h17), nI_1]
      exact ih (j + 1) (by omega) (by omega)
    · refine s_Mdl_byName_20 ?_
      refine s_Mdl_byName_21 ?_
      rw [fix_drop _ _ hg, if_pos (by simpa using h17)]
      exact ⟨rfl, rfl, rfl, rfl⟩
theorem sp_byName {Γ : ex_G} {d : Nat} {K : ex_K} {I : ex_I} {F : ex_F} {b : Nat} {m : Nat} {x : Int32} {L : List (Nat → Int32)} {ad : Nat → Nat} (hR : rf_ok K F m ad) (hL : r_ent I m ad L) :
    ex_E Γ (d + 1) M_Mdl_byName 0 [some (.inr (some m)), some (.inl x), none] [] K I F b (fun r K' I' F' => r = some (.inl (ixr (fix (fun row => decide (row 0 = x)) L 0))) ∧ K = K' ∧ I = I' ∧ F = F') := by
  refine s_Mdl_byName_0 ?_
  refine s_Mdl_byName_1 ?_
  exact lp_byName hR hL _ 0 rfl (by omega)
theorem lp_ta1 {Γ : ex_G} {d : Nat} {K : ex_K} {I : ex_I} {F : ex_F} {b : Nat} {Q : Option ex_V → ex_K → ex_I → ex_F → Prop} {l1 : Option ex_V} {m e n : Nat} {X : Nat → Int32} {ad : Nat → Nat} (hR : rf_ok K F m ad) (hs : I 816 m 0 = nI n) (hn : n < 40) (he : e ≤ n) (kk : ∀ l2, ex_E Γ d M_Mdl_takeAway 47 [some (.inr (some m)), l1, l2] [] K (ex_wi I 21 (ad 14) (shf X (8 * e) (8 * n) 8)) F b Q) : ∀ k c J, 8 * n - c = k → 8 * e ≤ c → c ≤ 8 * n → J = ex_wi I 21 (ad 14) (shf X (8 * e) c 8) →
    ex_E Γ d M_Mdl_takeAway 15 [some (.inr (some m)), l1, some (.inl (nI c))] [] K J F b Q := by
  have m1 := hR.1
  have hs2 : ∀ Y, ex_wi I 21 (ad 14) Y 816 m 0 = nI n := fun Y => by rw [ex_wi_f _ _ _ (by decide)]; exact hs
  intro k
  induction k with
  | zero =>
    intro c J hk h1 h2 hJ
    subst hJ
    have ec : c = 8 * n := by omega
    refine s_Mdl_takeAway_15 ?_
    refine s_Mdl_takeAway_16 ?_
    refine s_Mdl_takeAway_18 ?_
    refine s_Mdl_takeAway_19 (by first | rfl | assumption | (simp [*]; done)) (by first | rfl | assumption | (simp [*]; done)) ?_
    refine s_Mdl_takeAway_22 ?_
    refine s_Mdl_takeAway_23 (fun h23 => ?_) (fun h23 => absurd h23 (by rw [hs2, nl_8, pk_mul]; exact fun q => q (nI_le (by omega) (by omega))))
    rw [ec]
    exact kk _
  | succ k ih =>
    intro c J hk h1 h2 hJ
    subst hJ
    refine s_Mdl_takeAway_15 ?_
    refine s_Mdl_takeAway_16 ?_
    refine s_Mdl_takeAway_18 ?_
    refine s_Mdl_takeAway_19 (by first | rfl | assumption | (simp [*]; done)) (by first | rfl | assumption | (simp [*]; done)) ?_
    refine s_Mdl_takeAway_22 ?_
    refine s_Mdl_takeAway_23 (fun h23 => absurd h23 (by rw [hs2, nl_8, pk_mul]; exact nI_ge (by omega) (by omega))) (fun h23 => ?_)
    refine s_Mdl_takeAway_26 ?_
    refine s_Mdl_takeAway_27 (by first | rfl | assumption | (simp [*]; done)) (by first | rfl | assumption | (simp [*]; done)) ?_
    refine s_Mdl_takeAway_30 ?_
    refine s_Mdl_takeAway_31 ?_
    refine s_Mdl_takeAway_32 (by first | rfl | assumption | (simp [*]; done)) (by first | rfl | assumption | (simp [*]; done)) ?_
    refine s_Mdl_takeAway_35 ?_
    refine s_Mdl_takeAway_36 ?_
    refine s_Mdl_takeAway_38 ?_
    refine s_Mdl_takeAway_39 (by first | exact rf_entry hR | rfl) (by exact rk_entry hR) (by rw [rn_entry hR]; exact n_in (a := (c + 8)) (by first | rfl | (simp only [nl_1, nl_2, nl_3, nl_4, nl_5, nl_6, nl_7, nl_8, nl_9, nl_10, nl_11, nl_12, nl_13, nl_14, nl_15, nl_16, nl_32, nl_240, nl_250, nl_255, nl_265, nl_270, nl_0, nI_add, pk_mul]; done)) (by omega) (by omega)) ?_
    refine ex_ixl (q := (c + 8)) (by first | rfl | (simp only [nl_1, nl_2, nl_3, nl_4, nl_5, nl_6, nl_7, nl_8, nl_9, nl_10, nl_11, nl_12, nl_13, nl_14, nl_15, nl_16, nl_32, nl_240, nl_250, nl_255, nl_265, nl_270, nl_0, nI_add, pk_mul]; done)) (by omega) ?_
    refine s_Mdl_takeAway_40 (by first | exact rf_entry hR | rfl) (by exact rk_entry hR) (by rw [rn_entry hR]; exact n_in (a := c) (by first | rfl | (simp only [nl_1, nl_2, nl_3, nl_4, nl_5, nl_6, nl_7, nl_8, nl_9, nl_10, nl_11, nl_12, nl_13, nl_14, nl_15, nl_16, nl_32, nl_240, nl_250, nl_255, nl_265, nl_270, nl_0, nI_add, pk_mul]; done)) (by omega) (by omega)) ?_
    refine ex_ixs (q := c) (by first | rfl | (simp only [nl_1, nl_2, nl_3, nl_4, nl_5, nl_6, nl_7, nl_8, nl_9, nl_10, nl_11, nl_12, nl_13, nl_14, nl_15, nl_16, nl_32, nl_240, nl_250, nl_255, nl_265, nl_270, nl_0, nI_add, pk_mul]; done)) (by omega) ?_
    refine s_Mdl_takeAway_41 ?_
    refine s_Mdl_takeAway_44 ?_
    rw [ex_wi_at, shf_up _ _ _ (by omega), ex_wi_u, shf_s _ _ h1, nI_1]
    exact ih (c + 1) _ (by omega) (by omega) (by omega) rfl
theorem lp_ta2 {Γ : ex_G} {d : Nat} {K : ex_K} {I : ex_I} {F : ex_F} {b : Nat} {Q : Option ex_V → ex_K → ex_I → ex_F → Prop} {l1 : Option ex_V} {m e n : Nat} {X : Nat → Int32} {ad : Nat → Nat} (hR : rf_ok K F m ad) (hs : I 816 m 0 = nI n) (hn : n < 40) (he : e ≤ n) (kk : ∀ l2, ex_E Γ d M_Mdl_takeAway 81 [some (.inr (some m)), l1, l2] [] K (ex_wi I 21 (ad 15) (shf X (4 * e) (4 * n) 4)) F b Q) : ∀ k c J, 4 * n - c = k → 4 * e ≤ c → c ≤ 4 * n → J = ex_wi I 21 (ad 15) (shf X (4 * e) c 4) →
    ex_E Γ d M_Mdl_takeAway 51 [some (.inr (some m)), l1, some (.inl (nI c))] [] K J F b Q := by
  have m1 := hR.1
  have hs2 : ∀ Y, ex_wi I 21 (ad 15) Y 816 m 0 = nI n := fun Y => by rw [ex_wi_f _ _ _ (by decide)]; exact hs
  intro k
  induction k with
  | zero =>
    intro c J hk h1 h2 hJ
    subst hJ
    have ec : c = 4 * n := by omega
    refine s_Mdl_takeAway_51 ?_
    refine s_Mdl_takeAway_52 ?_
    refine s_Mdl_takeAway_53 ?_
    refine s_Mdl_takeAway_54 (by first | rfl | assumption | (simp [*]; done)) (by first | rfl | assumption | (simp [*]; done)) ?_
    refine s_Mdl_takeAway_57 ?_
    refine s_Mdl_takeAway_58 (fun h58 => ?_) (fun h58 => absurd h58 (by rw [hs2, nl_4, pk_mul]; exact fun q => q (nI_le (by omega) (by omega))))
    rw [ec]
    exact kk _
  | succ k ih =>
    intro c J hk h1 h2 hJ
    subst hJ
    refine s_Mdl_takeAway_51 ?_
    refine s_Mdl_takeAway_52 ?_
    refine s_Mdl_takeAway_53 ?_
    refine s_Mdl_takeAway_54 (by first | rfl | assumption | (simp [*]; done)) (by first | rfl | assumption | (simp [*]; done)) ?_
    refine s_Mdl_takeAway_57 ?_
    refine s_Mdl_takeAway_58 (fun h58 => absurd h58 (by rw [hs2, nl_4, pk_mul]; exact nI_ge (by omega) (by omega))) (fun h58 => ?_)
    refine s_Mdl_takeAway_61 ?_
    refine s_Mdl_takeAway_62 (by first | rfl | assumption | (simp [*]; done)) (by first | rfl | assumption | (simp [*]; done)) ?_
    refine s_Mdl_takeAway_65 ?_
    refine s_Mdl_takeAway_66 ?_
    refine s_Mdl_takeAway_67 (by first | rfl | assumption | (simp [*]; done)) (by first | rfl | assumption | (simp [*]; done)) ?_
    refine s_Mdl_takeAway_70 ?_
    refine s_Mdl_takeAway_71 ?_
    refine s_Mdl_takeAway_72 ?_
    refine s_Mdl_takeAway_73 (by first | exact rf_rule hR | rfl) (by exact rk_rule hR) (by rw [rn_rule hR]; exact n_in (a := (c + 4)) (by first | rfl | (simp only [nl_1, nl_2, nl_3, nl_4, nl_5, nl_6, nl_7, nl_8, nl_9, nl_10, nl_11, nl_12, nl_13, nl_14, nl_15, nl_16, nl_32, nl_240, nl_250, nl_255, nl_265, nl_270, nl_0, nI_add, pk_mul]; done)) (by omega) (by omega)) ?_
    refine ex_ixl (q := (c + 4)) (by first | rfl | (simp only [nl_1, nl_2, nl_3, nl_4, nl_5, nl_6, nl_7, nl_8, nl_9, nl_10, nl_11, nl_12, nl_13, nl_14, nl_15, nl_16, nl_32, nl_240, nl_250, nl_255, nl_265, nl_270, nl_0, nI_add, pk_mul]; done)) (by omega) ?_
    refine s_Mdl_takeAway_74 (by first | exact rf_rule hR | rfl) (by exact rk_rule hR) (by rw [rn_rule hR]; exact n_in (a := c) (by first | rfl | (simp only [nl_1, nl_2, nl_3, nl_4, nl_5, nl_6, nl_7, nl_8, nl_9, nl_10, nl_11, nl_12, nl_13, nl_14, nl_15, nl_16, nl_32, nl_240, nl_250, nl_255, nl_265, nl_270, nl_0, nI_add, pk_mul]; done)) (by omega) (by omega)) ?_
    refine ex_ixs (q := c) (by first | rfl | (simp only [nl_1, nl_2, nl_3, nl_4, nl_5, nl_6, nl_7, nl_8, nl_9, nl_10, nl_11, nl_12, nl_13, nl_14, nl_15, nl_16, nl_32, nl_240, nl_250, nl_255, nl_265, nl_270, nl_0, nI_add, pk_mul]; done)) (by omega) ?_
    refine s_Mdl_takeAway_75 ?_
    refine s_Mdl_takeAway_78 ?_
    rw [ex_wi_at, shf_up _ _ _ (by omega), ex_wi_u, shf_s _ _ h1, nI_1]
    exact ih (c + 1) _ (by omega) (by omega) (by omega) rfl
theorem sp_takeAway {Γ : ex_G} {d : Nat} {K : ex_K} {I : ex_I} {F : ex_F} {b : Nat} {m e : Nat} {L : List (Nat → Int32)} {ad : Nat → Nat} (hR : rf_ok K F m ad) (hL : r_ent I m ad L) (he : e < L.length) :
    ex_E Γ d M_Mdl_takeAway 0 [some (.inr (some m)), some (.inl (nI e)), none] [] K I F b (fun r K' I' F' => r = none ∧ K = K' ∧ F = F' ∧ e_fr I I' ad ∧ r_ent I' m ad (L.eraseIdx e)) := by
  have m1 := hR.1
  obtain ⟨l1, l2, l3⟩ := hL
  refine s_Mdl_takeAway_0 ?_
  refine s_Mdl_takeAway_1 ?_
  refine s_Mdl_takeAway_2 (by first | rfl | assumption | (simp [*]; done)) (by first | rfl | assumption | (simp [*]; done)) ?_
  refine s_Mdl_takeAway_5 ?_
  refine s_Mdl_takeAway_6 ?_
  refine s_Mdl_takeAway_7 (by first | rfl | assumption | (simp [*]; done)) (by first | rfl | assumption | (simp [*]; done)) ?_
  refine s_Mdl_takeAway_10 ?_
  refine s_Mdl_takeAway_12 ?_
  refine s_Mdl_takeAway_13 ?_
  refine s_Mdl_takeAway_14 ?_
  rw [show I 816 m 0 - 1 = nI (L.length - 1) by rw [l1, show L.length = (L.length - 1) + 1 by omega, nI_pred]; rfl, nl_8, pk_mul]
  generalize hJ : ex_ui I 816 m 0 (nI (L.length - 1)) = J
  have j1 : J 816 m 0 = nI (L.length - 1) := by rw [← hJ]; exact ex_ui_eq _ _ _ _ _
  have j2 : ∀ g, g ≠ 816 → J g = I g := fun g hg => by rw [← hJ]; exact ex_ui_f _ _ _ _ hg
  refine lp_ta1 (n := L.length - 1) (e := e) (X := J 21 (ad 14)) hR j1 (by omega) (by omega) (fun l2 => ?_) _ _ _ rfl (Nat.le_refl _) (by omega) (by rw [shf_0, ex_wi_id])
  refine s_Mdl_takeAway_47 ?_
  refine s_Mdl_takeAway_48 ?_
  refine s_Mdl_takeAway_49 ?_
  refine s_Mdl_takeAway_50 ?_
  rw [nl_4, pk_mul]
  refine lp_ta2 (I := ex_wi J 21 (ad 14) (shf (J 21 (ad 14)) (8 * e) (8 * (L.length - 1)) 8)) (n := L.length - 1) (e := e) (X := J 21 (ad 15)) hR (by rw [ex_wi_f _ _ _ (by decide)]; exact j1) (by omega) (by omega) (fun l2 => ?_) _ _ _ rfl (Nat.le_refl _) (by omega) (by
    rw [shf_0]
    have hne : ad 15 ≠ ad 14 := rf_ne hR (by decide)
    conv => lhs; rw [← ex_wi_id (ex_wi J 21 (ad 14) (shf (J 21 (ad 14)) (8 * e) (8 * (L.length - 1)) 8)) 21 (ad 15)]
    rw [ex_wi_ne _ _ _ hne])
  refine s_Mdl_takeAway_81 ?_
  have hne : ad 14 ≠ ad 15 := rf_ne hR (by decide)
  refine ⟨rfl, rfl, rfl, ⟨fun g a c => ?_, fun a x y => ?_⟩, ?_, ?_, fun e' row hr => ?_⟩
  · rw [ex_wi_f _ _ _ c, ex_wi_f _ _ _ c, j2 g a]
  · rw [ex_wi_ne _ _ _ y, ex_wi_ne _ _ _ x, j2 _ (by decide)]
  · rw [ex_wi_f _ _ _ (by decide), ex_wi_f _ _ _ (by decide), j1, List.length_eraseIdx, if_pos he]
  · rw [List.length_eraseIdx, if_pos he]; omega
  · have hlt := (List.getElem?_eq_some_iff.mp hr).1
    rw [List.length_eraseIdx, if_pos he] at hlt
    rw [List.getElem?_eraseIdx] at hr
    refine ⟨fun j hj => ?_, fun q hq => ?_⟩
    · rw [ex_wi_ne _ _ _ hne, ex_wi_at, j2 _ (by decide)]
      unfold shf
      by_cases z : e' < e
      · rw [if_pos z] at hr
        rw [if_neg (by omega)]
        exact (l3 e' row hr).1 j hj
      · rw [if_neg z] at hr
        rw [if_pos (by omega), show 8 * e' + j + 8 = 8 * (e' + 1) + j by omega]
        exact (l3 (e' + 1) row hr).1 j hj
    · rw [ex_wi_at, j2 _ (by decide)]
      unfold shf
      by_cases z : e' < e
      · rw [if_pos z] at hr
        rw [if_neg (by omega)]
        exact (l3 e' row hr).2 q hq
      · rw [if_neg z] at hr
        rw [if_pos (by omega), show 4 * e' + q + 4 = 4 * (e' + 1) + q by omega]
        exact (l3 (e' + 1) row hr).2 q hq
def drb (p v a : Int32) (row : Nat → Int32) : Bool := if a = 0 then mtb p v row else decide (row 1 = p)
theorem lp_drop {Γ : ex_G} {d : Nat} {K : ex_K} {F : ex_F} {b : Nat} {m : Nat} {p v a : Int32} {I0 : ex_I} {ad : Nat → Nat} (hR : rf_ok K F m ad) : ∀ i L I, i ≤ L.length → r_ent I m ad L → e_fr I0 I ad →
    ex_E Γ (d + 2) M_Mdl_drop 8 [some (.inr (some m)), some (.inl p), some (.inl v), some (.inl a), some (.inl (nI i - 1))] [] K I F b (fun r K' I' F' => r = none ∧ K = K' ∧ F = F' ∧ e_fr I0 I' ad ∧ r_ent I' m ad (dl (drb p v a) i L)) := by
  have m1 := hR.1
  intro i
  induction i with
  | zero =>
    intro L I hi hL hf
    refine s_Mdl_drop_8 ?_
    refine s_Mdl_drop_10 (fun h10 => ?_) (fun h10 => absurd h10 (by decide))
    refine s_Mdl_drop_54 ?_
    exact ⟨rfl, rfl, rfl, hf, hL⟩
  | succ i ih =>
    intro L I hi hL hf
    have hg : L[i]? = some L[i] := List.getElem?_eq_getElem (by omega)
    have l2 := hL.2.1
    have r1 := (hL.2.2 i _ hg).1
    rw [nI_pred]
    have no : ¬ drb p v a L[i] = true → ex_E Γ (d + 2) M_Mdl_drop 48 [some (.inr (some m)), some (.inl p), some (.inl v), some (.inl a), some (.inl (nI i))] [] K I F b (fun r K' I' F' => r = none ∧ K = K' ∧ F = F' ∧ e_fr I0 I' ad ∧ r_ent I' m ad (dl (drb p v a) (i + 1) L)) := by
      intro z
      rw [dl, hg, if_neg (by simpa using z)]
      refine s_Mdl_drop_48 ?_
      refine s_Mdl_drop_51 ?_
      rw [← Int32.sub_eq_add_neg]
      exact ih L I (by omega) hL hf
    have yes : drb p v a L[i] = true → ex_E Γ (d + 2) M_Mdl_drop 42 [some (.inr (some m)), some (.inl p), some (.inl v), some (.inl a), some (.inl (nI i))] [] K I F b (fun r K' I' F' => r = none ∧ K = K' ∧ F = F' ∧ e_fr I0 I' ad ∧ r_ent I' m ad (dl (drb p v a) (i + 1) L)) := by
      intro z
      rw [dl, hg, if_pos (by simpa using z)]
      refine s_Mdl_drop_42 ?_
      refine s_Mdl_drop_43 ?_
      refine s_Mdl_drop_45 (b1 := 0) (b2 := b) (by first | rfl | assumption | (simp [*]; done)) (by first | rfl | assumption | (simp [*]; done)) (sp_takeAway hR hL (by omega)) ?_ (by omega)
      rintro _ _ I2 _ ⟨rfl, rfl, rfl, f2, g2⟩
      dsimp only [Option.toList, List.cons_append, List.nil_append]
      refine s_Mdl_drop_48 ?_
      refine s_Mdl_drop_51 ?_
      rw [← Int32.sub_eq_add_neg]
      exact ih _ I2 (by rw [List.length_eraseIdx, if_pos (by omega)]; omega) g2 (e_fr_trans hf f2)
    refine s_Mdl_drop_8 ?_
    refine s_Mdl_drop_10 (fun h10 => absurd h10 (by exact nI_pos (by omega))) (fun h10 => ?_)
    refine s_Mdl_drop_13 ?_
    refine s_Mdl_drop_14 (fun h14 => ?_) (fun h14 => ?_)
    · refine s_Mdl_drop_31 ?_
      refine s_Mdl_drop_32 ?_
      refine s_Mdl_drop_34 ?_
      refine s_Mdl_drop_35 ?_
      refine s_Mdl_drop_36 (b1 := 0) (b2 := b) (by first | rfl | assumption | (simp [*]; done)) (by first | rfl | assumption | (simp [*]; done)) (sp_matches hR hL hg) ?_ (by omega)
      rintro _ _ _ _ ⟨rfl, rfl, rfl, rfl⟩
      dsimp only [Option.toList, List.cons_append, List.nil_append]
      refine s_Mdl_drop_39 (fun h39 => ?_) (fun h39 => ?_)
      · exact no (fun z => by rw [drb, if_pos h14] at z; rw [if_pos z] at h39; exact absurd h39 (by decide))
      · exact yes (by
          rw [drb, if_pos h14]
          by_cases z : mtb p v L[i] = true
          · exact z
          · exact absurd (if_neg z) h39)
    · refine s_Mdl_drop_17 ?_
      refine s_Mdl_drop_18 ?_
      refine s_Mdl_drop_20 ?_
      refine s_Mdl_drop_21 (b1 := 0) (b2 := _) (by first | rfl | assumption | (simp [*]; done)) (by first | rfl | assumption | (simp [*]; done)) (Q1 := fun r K' I' F' => ex_E _ _ M_Mdl_drop 24 _ (r.toList ++ _) K' I' F' _ _) ?_ (fun _ _ _ _ hq => hq) (Nat.le_of_eq (Nat.zero_add _))
      refine s_Mdl_part_0 ?_
      refine s_Mdl_part_1 (by first | rfl | assumption | (simp [*]; done)) (by first | rfl | assumption | (simp [*]; done)) ?_
      refine s_Mdl_part_4 ?_
      refine s_Mdl_part_6 ?_
      refine s_Mdl_part_7 ?_
      refine s_Mdl_part_8 ?_
      refine s_Mdl_part_9 ?_
      refine s_Mdl_part_10 (by first | exact rf_entry hR | rfl) (by exact rk_entry hR) (by rw [rn_entry hR]; exact n_in (a := ((8 * i) + 1)) (by first | rfl | (simp only [nl_1, nl_2, nl_3, nl_4, nl_5, nl_6, nl_7, nl_8, nl_9, nl_10, nl_11, nl_12, nl_13, nl_14, nl_15, nl_16, nl_32, nl_240, nl_250, nl_255, nl_265, nl_270, nl_0, nI_add, pk_mul]; done)) (by omega) (by omega)) ?_
      refine ex_ixl (q := ((8 * i) + 1)) (by first | rfl | (simp only [nl_1, nl_2, nl_3, nl_4, nl_5, nl_6, nl_7, nl_8, nl_9, nl_10, nl_11, nl_12, nl_13, nl_14, nl_15, nl_16, nl_32, nl_240, nl_250, nl_255, nl_265, nl_270, nl_0, nI_add, pk_mul]; done)) (by omega) ?_
      refine s_Mdl_part_11 ?_
      dsimp only [Option.toList, List.cons_append, List.nil_append]
      refine s_Mdl_drop_24 ?_
      rw [r1 1 (by decide)]
      refine s_Mdl_drop_25 (fun h25 => ?_) (fun h25 => ?_)
      · exact no (by rw [drb, if_neg h14]; simpa using h25)
      · refine s_Mdl_drop_28 ?_
        exact yes (by rw [drb, if_neg h14]; simpa using h25)
theorem sp_drop {Γ : ex_G} {d : Nat} {K : ex_K} {I : ex_I} {F : ex_F} {b : Nat} {m : Nat} {p v a : Int32} {L : List (Nat → Int32)} {ad : Nat → Nat} (hR : rf_ok K F m ad) (hL : r_ent I m ad L) :
    ex_E Γ (d + 2) M_Mdl_drop 0 [some (.inr (some m)), some (.inl p), some (.inl v), some (.inl a), none] [] K I F b (fun r K' I' F' => r = none ∧ K = K' ∧ F = F' ∧ e_fr I I' ad ∧ r_ent I' m ad (L.filter (fun row => !drb p v a row))) := by
  have m1 := hR.1
  refine s_Mdl_drop_0 ?_
  refine s_Mdl_drop_1 (by first | rfl | assumption | (simp [*]; done)) (by first | rfl | assumption | (simp [*]; done)) ?_
  refine s_Mdl_drop_4 ?_
  refine s_Mdl_drop_5 ?_
  refine s_Mdl_drop_6 ?_
  rw [hL.1, ← dl_all]
  exact lp_drop hR _ L I (Nat.le_refl _) hL e_fr_rfl
def rsum : List (Nat → Int32) → Int32
  | [] => 0
  | r :: l => r 3 + rsum l
theorem lp_filled {Γ : ex_G} {d : Nat} {K : ex_K} {I : ex_I} {F : ex_F} {b : Nat} {m : Nat} {L : List (Nat → Int32)} {ad : Nat → Nat} (hR : rf_ok K F m ad) (hL : r_ent I m ad L) : ∀ n j x, L.length - j = n → j ≤ L.length →
    ex_E Γ (d + 1) M_Mdl_filled 4 [some (.inr (some m)), some (.inl x), some (.inl (nI j))] [] K I F b (fun r K' I' F' => r = some (.inl (x + rsum (L.drop j))) ∧ K = K' ∧ I = I' ∧ F = F') := by
  have m1 := hR.1
  obtain ⟨l1, l2, l3⟩ := hL
  intro n
  induction n with
  | zero =>
    intro j x hn hj
    refine s_Mdl_filled_4 ?_
    refine s_Mdl_filled_5 ?_
    refine s_Mdl_filled_6 (by first | rfl | assumption | (simp [*]; done)) (by first | rfl | assumption | (simp [*]; done)) ?_
    refine s_Mdl_filled_9 (fun h9 => ?_) (fun h9 => absurd h9 (by rw [l1]; exact fun q => q (nI_le (by omega) (by omega))))
    refine s_Mdl_filled_27 ?_
    refine s_Mdl_filled_28 ?_
    rw [List.drop_eq_nil_of_le (by omega), rsum, Int32.add_zero]
    exact ⟨rfl, rfl, rfl, rfl⟩
  | succ n ih =>
    intro j x hn hj
    have hlt : j < L.length := by omega
    have r1 := (l3 j _ (List.getElem?_eq_getElem hlt)).1
    refine s_Mdl_filled_4 ?_
    refine s_Mdl_filled_5 ?_
    refine s_Mdl_filled_6 (by first | rfl | assumption | (simp [*]; done)) (by first | rfl | assumption | (simp [*]; done)) ?_
    refine s_Mdl_filled_9 (fun h9 => absurd h9 (by rw [l1]; exact nI_ge (by omega) (by omega))) (fun h9 => ?_)
    refine s_Mdl_filled_12 ?_
    refine s_Mdl_filled_13 ?_
    refine s_Mdl_filled_14 ?_
    refine s_Mdl_filled_15 ?_
    refine s_Mdl_filled_16 (b1 := 0) (b2 := _) (by first | rfl | assumption | (simp [*]; done)) (by first | rfl | assumption | (simp [*]; done)) (Q1 := fun r K' I' F' => ex_E _ _ M_Mdl_filled 19 _ (r.toList ++ _) K' I' F' _ _) ?_ (fun _ _ _ _ hq => hq) (Nat.le_of_eq (Nat.zero_add _))
    refine s_Mdl_part_0 ?_
    refine s_Mdl_part_1 (by first | rfl | assumption | (simp [*]; done)) (by first | rfl | assumption | (simp [*]; done)) ?_
    refine s_Mdl_part_4 ?_
    refine s_Mdl_part_6 ?_
    refine s_Mdl_part_7 ?_
    refine s_Mdl_part_8 ?_
    refine s_Mdl_part_9 ?_
    refine s_Mdl_part_10 (by first | exact rf_entry hR | rfl) (by exact rk_entry hR) (by rw [rn_entry hR]; exact n_in (a := ((8 * j) + 3)) (by first | rfl | (simp only [nl_1, nl_2, nl_3, nl_4, nl_5, nl_6, nl_7, nl_8, nl_9, nl_10, nl_11, nl_12, nl_13, nl_14, nl_15, nl_16, nl_32, nl_240, nl_250, nl_255, nl_265, nl_270, nl_0, nI_add, pk_mul]; done)) (by omega) (by omega)) ?_
    refine ex_ixl (q := ((8 * j) + 3)) (by first | rfl | (simp only [nl_1, nl_2, nl_3, nl_4, nl_5, nl_6, nl_7, nl_8, nl_9, nl_10, nl_11, nl_12, nl_13, nl_14, nl_15, nl_16, nl_32, nl_240, nl_250, nl_255, nl_265, nl_270, nl_0, nI_add, pk_mul]; done)) (by omega) ?_
    refine s_Mdl_part_11 ?_
    dsimp only [Option.toList, List.cons_append, List.nil_append]
    rw [r1 3 (by decide)]
    refine s_Mdl_filled_19 ?_
    refine s_Mdl_filled_20 ?_
    refine s_Mdl_filled_21 ?_
    refine s_Mdl_filled_24 ?_
    rw [List.drop_eq_getElem_cons hlt, rsum, ← Int32.add_assoc, nI_1]
    exact ih (j + 1) _ (by omega) (by omega)
theorem sp_filled {Γ : ex_G} {d : Nat} {K : ex_K} {I : ex_I} {F : ex_F} {b : Nat} {m : Nat} {L : List (Nat → Int32)} {ad : Nat → Nat} (hR : rf_ok K F m ad) (hL : r_ent I m ad L) :
    ex_E Γ (d + 1) M_Mdl_filled 0 [some (.inr (some m)), none, none] [] K I F b (fun r K' I' F' => r = some (.inl (rsum L)) ∧ K = K' ∧ I = I' ∧ F = F') := by
  refine s_Mdl_filled_0 ?_
  refine s_Mdl_filled_1 ?_
  refine s_Mdl_filled_2 ?_
  refine s_Mdl_filled_3 ?_
  have z := lp_filled (Γ := Γ) (d := d) (b := b) hR hL _ 0 0 rfl (by omega)
  rw [List.drop_zero, Int32.zero_add] at z
  exact z
