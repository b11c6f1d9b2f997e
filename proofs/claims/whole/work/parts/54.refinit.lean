theorem mem_le_sum : ∀ (l : List Nat) (x : Nat), x ∈ l → x ≤ l.sum := by
  intro l
  induction l with
  | nil => intro x h; exact absurd h (by simp)
  | cons a l ih =>
    intro x h
    rw [List.sum_cons]
    rcases List.mem_cons.mp h with e | e
    · omega
    · have := ih x e
      omega
def m_new (c : Int32) : MS := (fun k i => if k = 804 ∧ i = 0 then c else 0, fun _ => [])
theorem cs_end {K : ex_K} {I : ex_I} {F : ex_F} {m : Nat} {ad : Nat → Nat} {c : Int32} (h : cs [31, 29, 28, 27, 26, 25, 24, 23, 22, 21, 20, 19, 18, 17, 15, 14, 11, 10, 9, 8, 7, 6, 5, 3] K I F m ad) : ∃ ad', rf_ok K F m ad' ∧ rr (ex_ui I 804 m 0 c) m ad' (m_new c) := by
  obtain ⟨c1, c2, c3, c4, c5, c6, c7, c8⟩ := h
  generalize hD : ([31, 29, 28, 27, 26, 25, 24, 23, 22, 21, 20, 19, 18, 17, 15, 14, 11, 10, 9, 8, 7, 6, 5, 3] : List Nat) = D at *
  have lt : ∀ j, j ∈ D → j < 40 := by
    rw [← hD]
    decide
  have all : ∀ q, q ∈ rf_tab → q.1 ∈ D := by
    rw [← hD]
    decide
  have mA : ∀ j, j ∈ rrA → j ∈ D ∧ j ≠ 6 ∧ j ≠ 7 ∧ j ≠ 804 := by
    rw [← hD]
    decide
  have mB : ∀ j, j ∈ rrB → j ∈ D ∧ j ≠ 804 := by
    rw [← hD]
    decide
  have m3 : 3 ∈ D := by rw [← hD]; decide
  have m6 : 6 ∈ D := by rw [← hD]; decide
  have m7 : 7 ∈ D := by rw [← hD]; decide
  have m21 : 21 ∈ D := by rw [← hD]; decide
  have m31 : 31 ∈ D := by rw [← hD]; decide
  have bd : ∀ j, j ∈ D → ad j < m + 1 + ((List.range 40).map ad).sum := fun j hj => by
    have := mem_le_sum _ _ (List.mem_map.mpr ⟨j, List.mem_range.mpr (lt j hj), rfl⟩ : ad j ∈ (List.range 40).map ad)
    omega
  generalize ((List.range 40).map ad).sum = B at bd
  have A1 : ∀ j, j ∈ D → (if j ∈ D then ad j else m + 1 + B + j) = ad j := fun j hj => if_pos hj
  have A2 : ∀ j, j ∉ D → (if j ∈ D then ad j else m + 1 + B + j) = m + 1 + B + j := fun j hj => if_neg hj
  refine ⟨fun j => if j ∈ D then ad j else m + 1 + B + j, ⟨c1, fun i j e => ?_, fun j => ?_, fun q hq => ?_⟩, ⟨fun j hj => ?_, fun j hj => ?_, fun g hg => ?_, ?_, ⟨fun k hk => ?_, fun k hk => ?_⟩, ⟨?_, Nat.zero_le _, fun e row he => by cases he⟩, ⟨?_, Nat.zero_le _, fun e row he => by cases he⟩, fun t ht => ⟨?_, Nat.zero_le _, fun e row he => by cases he⟩, fun t ht j hj => ?_⟩⟩
  · replace e : (if i ∈ D then ad i else m + 1 + B + i) = (if j ∈ D then ad j else m + 1 + B + j) := e
    by_cases hi : i ∈ D
    · by_cases hj : j ∈ D
      · rw [A1 i hi, A1 j hj] at e
        exact c4 i j hi hj e
      · rw [A1 i hi, A2 j hj] at e
        have := bd i hi
        omega
    · by_cases hj : j ∈ D
      · rw [A2 i hi, A1 j hj] at e
        have := bd j hj
        omega
      · rw [A2 i hi, A2 j hj] at e
        omega
  · show (if j ∈ D then ad j else m + 1 + B + j) ≠ m
    by_cases hj : j ∈ D
    · rw [A1 j hj]
      exact (c3 j hj).1
    · rw [A2 j hj]
      omega
  · show F (804 + q.1) m 0 = some (if q.1 ∈ D then ad q.1 else m + 1 + B + q.1) ∧ K (if q.1 ∈ D then ad q.1 else m + 1 + B + q.1) = q.2
    rw [A1 _ (all q hq)]
    exact c5 q hq (all q hq)
  · show ex_ui I 804 m 0 c 21 (if j ∈ D then ad j else m + 1 + B + j) = _
    obtain ⟨z1, z2, z3, z4⟩ := mA j hj
    rw [A1 j z1, ex_ui_f _ _ _ _ (by decide), c6 j z1 21 (Or.inl (by decide))]
    funext i
    show 0 = if j = 804 ∧ i = 0 then c else 0
    rw [if_neg (fun w => z4 w.1)]
  · show ex_ui I 804 m 0 c 23 (if j ∈ D then ad j else m + 1 + B + j) = _
    obtain ⟨z1, z4⟩ := mB j hj
    rw [A1 j z1, ex_ui_f _ _ _ _ (by decide), c6 j z1 23 (Or.inl (by decide))]
    funext i
    show 0 = if j = 804 ∧ i = 0 then c else 0
    rw [if_neg (fun w => z4 w.1)]
  · show _ = if g = 804 ∧ 0 = 0 then c else 0
    by_cases e : g = 804
    · subst e
      rw [if_pos ⟨rfl, rfl⟩, ex_ui_eq]
    · rw [if_neg (fun w => e w.1), ex_ui_f _ _ _ _ e, c2]
  · show ex_ui I 804 m 0 c 22 (if 3 ∈ D then ad 3 else m + 1 + B + 3) = _
    rw [A1 3 m3, ex_ui_f _ _ _ _ (by decide), c6 3 m3 22 (Or.inr (by decide))]
    rfl
  · show ex_ui I 804 m 0 c 22 (if 6 ∈ D then ad 6 else m + 1 + B + 6) k = _
    rw [A1 6 m6, ex_ui_f _ _ _ _ (by decide)]
    exact c7 m6 k hk
  · show ex_ui I 804 m 0 c 22 (if 7 ∈ D then ad 7 else m + 1 + B + 7) k = _
    rw [A1 7 m7, ex_ui_f _ _ _ _ (by decide)]
    exact c8 m7 k hk
  · rw [ex_ui_f _ _ _ _ (by decide), c2]
    rfl
  · rw [ex_ui_f _ _ _ _ (by decide), c2]
    rfl
  · show ex_ui I 804 m 0 c 21 (if 21 ∈ D then ad 21 else m + 1 + B + 21) t = _
    rw [A1 21 m21, ex_ui_f _ _ _ _ (by decide), c6 21 m21 21 (Or.inl (by decide))]
    rfl
  · show ex_ui I 804 m 0 c 21 (if 31 ∈ D then ad 31 else m + 1 + B + 31) (270 + 15 * t + j) = if 300 + t = 804 ∧ j = 0 then c else 0
    rw [A1 31 m31, ex_ui_f _ _ _ _ (by decide), c6 31 m31 21 (Or.inl (by decide)), if_neg (by omega)]
theorem sp_initR {Γ : ex_G} {d : Nat} {K : ex_K} {I : ex_I} {F : ex_F} {b : Nat} {m : Nat} {x0 : Int32} (hm : (K m).1 = 12) (h0 : ∀ g, I g m 0 = 0) : ex_E Γ (d + 1) M_Mdl_init 0 [some (.inr (some m)), some (.inl x0)] [] K I F (b + 24) (fun x K' I' F' => x = none ∧ ∃ ad, rf_ok K' F' m ad ∧ rr I' m ad (m_new (if x0 < 1 ∨ 40 < x0 then 12 else x0))) := by
  have t24 : ∀ K I F ad, cs [31, 29, 28, 27, 26, 25, 24, 23, 22, 21, 20, 19, 18, 17, 15, 14, 11, 10, 9, 8, 7, 6, 5, 3] K I F m ad → ex_E Γ (d + 1) M_Mdl_init 545 [some (.inr (some m)), some (.inl x0)] [] K I F b (fun x K' I' F' => x = none ∧ ∃ ad, rf_ok K' F' m ad ∧ rr I' m ad (m_new (if x0 < 1 ∨ 40 < x0 then 12 else x0))) := by
    intro K I F ad c
    have m1 := c.1
    refine s_Mdl_init_545 ?_
    refine s_Mdl_init_546 ?_
    refine s_Mdl_init_547 ?_
    refine s_Mdl_init_548 (fun h548 => ?_) (fun h548 => ?_)
    · refine s_Mdl_init_561 ?_
      refine s_Mdl_init_563 (by first | rfl | assumption | (simp [*]; done)) (by first | rfl | assumption | (simp [*]; done)) ?_
      refine s_Mdl_init_566 ?_
      exact ⟨rfl, by rw [if_pos (Or.inl h548)]; exact cs_end c⟩
    · refine s_Mdl_init_551 ?_
      refine s_Mdl_init_552 ?_
      refine s_Mdl_init_554 (fun h554 => ?_) (fun h554 => ?_)
      · refine s_Mdl_init_561 ?_
        refine s_Mdl_init_563 (by first | rfl | assumption | (simp [*]; done)) (by first | rfl | assumption | (simp [*]; done)) ?_
        refine s_Mdl_init_566 ?_
        exact ⟨rfl, by rw [if_pos (Or.inr h554)]; exact cs_end c⟩
      · refine s_Mdl_init_557 ?_
        refine s_Mdl_init_558 ?_
        refine s_Mdl_init_563 (by first | rfl | assumption | (simp [*]; done)) (by first | rfl | assumption | (simp [*]; done)) ?_
        refine s_Mdl_init_566 ?_
        exact ⟨rfl, by rw [if_neg (fun z => z.elim h548 h554)]; exact cs_end c⟩
  have t23 : ∀ K I F ad, cs [29, 28, 27, 26, 25, 24, 23, 22, 21, 20, 19, 18, 17, 15, 14, 11, 10, 9, 8, 7, 6, 5, 3] K I F m ad → ex_E Γ (d + 1) M_Mdl_init 536 [some (.inr (some m)), some (.inl x0)] [] K I F (b + 1) (fun x K' I' F' => x = none ∧ ∃ ad, rf_ok K' F' m ad ∧ rr I' m ad (m_new (if x0 < 1 ∨ 40 < x0 then 12 else x0))) := by
    intro K I F ad c
    have m1 := c.1
    refine s_Mdl_init_536 ?_
    refine s_Mdl_init_537 ?_
    refine s_Mdl_init_540 (N := 315) (by decide) rfl (by decide) (fun a fa => ?_)
    refine s_Mdl_init_542 (by rfl) (by exact nk_m m1 fa) ?_
    exact t24 _ _ _ _ (cs_step0 c fa (31, 21, 315) (by decide) (by decide) (by decide) (by decide) (by decide) (by decide))
  have t22 : ∀ K I F ad, cs [28, 27, 26, 25, 24, 23, 22, 21, 20, 19, 18, 17, 15, 14, 11, 10, 9, 8, 7, 6, 5, 3] K I F m ad → ex_E Γ (d + 1) M_Mdl_init 529 [some (.inr (some m)), some (.inl x0)] [] K I F (b + 2) (fun x K' I' F' => x = none ∧ ∃ ad, rf_ok K' F' m ad ∧ rr I' m ad (m_new (if x0 < 1 ∨ 40 < x0 then 12 else x0))) := by
    intro K I F ad c
    have m1 := c.1
    refine s_Mdl_init_529 ?_
    refine s_Mdl_init_530 ?_
    refine s_Mdl_init_531 (N := 3) (by decide) rfl (by decide) (fun a fa => ?_)
    refine s_Mdl_init_533 (by rfl) (by exact nk_m m1 fa) ?_
    exact t23 _ _ _ _ (cs_step0 c fa (29, 21, 3) (by decide) (by decide) (by decide) (by decide) (by decide) (by decide))
  have t21 : ∀ K I F ad, cs [27, 26, 25, 24, 23, 22, 21, 20, 19, 18, 17, 15, 14, 11, 10, 9, 8, 7, 6, 5, 3] K I F m ad → ex_E Γ (d + 1) M_Mdl_init 522 [some (.inr (some m)), some (.inl x0)] [] K I F (b + 3) (fun x K' I' F' => x = none ∧ ∃ ad, rf_ok K' F' m ad ∧ rr I' m ad (m_new (if x0 < 1 ∨ 40 < x0 then 12 else x0))) := by
    intro K I F ad c
    have m1 := c.1
    refine s_Mdl_init_522 ?_
    refine s_Mdl_init_523 ?_
    refine s_Mdl_init_524 (N := 3) (by decide) rfl (by decide) (fun a fa => ?_)
    refine s_Mdl_init_526 (by rfl) (by exact nk_m m1 fa) ?_
    exact t22 _ _ _ _ (cs_step0 c fa (28, 23, 3) (by decide) (by decide) (by decide) (by decide) (by decide) (by decide))
  have t20 : ∀ K I F ad, cs [26, 25, 24, 23, 22, 21, 20, 19, 18, 17, 15, 14, 11, 10, 9, 8, 7, 6, 5, 3] K I F m ad → ex_E Γ (d + 1) M_Mdl_init 515 [some (.inr (some m)), some (.inl x0)] [] K I F (b + 4) (fun x K' I' F' => x = none ∧ ∃ ad, rf_ok K' F' m ad ∧ rr I' m ad (m_new (if x0 < 1 ∨ 40 < x0 then 12 else x0))) := by
    intro K I F ad c
    have m1 := c.1
    refine s_Mdl_init_515 ?_
    refine s_Mdl_init_516 ?_
    refine s_Mdl_init_517 (N := 3) (by decide) rfl (by decide) (fun a fa => ?_)
    refine s_Mdl_init_519 (by rfl) (by exact nk_m m1 fa) ?_
    exact t21 _ _ _ _ (cs_step0 c fa (27, 23, 3) (by decide) (by decide) (by decide) (by decide) (by decide) (by decide))
  have t19 : ∀ K I F ad, cs [25, 24, 23, 22, 21, 20, 19, 18, 17, 15, 14, 11, 10, 9, 8, 7, 6, 5, 3] K I F m ad → ex_E Γ (d + 1) M_Mdl_init 508 [some (.inr (some m)), some (.inl x0)] [] K I F (b + 5) (fun x K' I' F' => x = none ∧ ∃ ad, rf_ok K' F' m ad ∧ rr I' m ad (m_new (if x0 < 1 ∨ 40 < x0 then 12 else x0))) := by
    intro K I F ad c
    have m1 := c.1
    refine s_Mdl_init_508 ?_
    refine s_Mdl_init_509 ?_
    refine s_Mdl_init_510 (N := 3) (by decide) rfl (by decide) (fun a fa => ?_)
    refine s_Mdl_init_512 (by rfl) (by exact nk_m m1 fa) ?_
    exact t20 _ _ _ _ (cs_step0 c fa (26, 21, 3) (by decide) (by decide) (by decide) (by decide) (by decide) (by decide))
  have t18 : ∀ K I F ad, cs [24, 23, 22, 21, 20, 19, 18, 17, 15, 14, 11, 10, 9, 8, 7, 6, 5, 3] K I F m ad → ex_E Γ (d + 1) M_Mdl_init 501 [some (.inr (some m)), some (.inl x0)] [] K I F (b + 6) (fun x K' I' F' => x = none ∧ ∃ ad, rf_ok K' F' m ad ∧ rr I' m ad (m_new (if x0 < 1 ∨ 40 < x0 then 12 else x0))) := by
    intro K I F ad c
    have m1 := c.1
    refine s_Mdl_init_501 ?_
    refine s_Mdl_init_502 ?_
    refine s_Mdl_init_503 (N := 3) (by decide) rfl (by decide) (fun a fa => ?_)
    refine s_Mdl_init_505 (by rfl) (by exact nk_m m1 fa) ?_
    exact t19 _ _ _ _ (cs_step0 c fa (25, 21, 3) (by decide) (by decide) (by decide) (by decide) (by decide) (by decide))
  have t17 : ∀ K I F ad, cs [23, 22, 21, 20, 19, 18, 17, 15, 14, 11, 10, 9, 8, 7, 6, 5, 3] K I F m ad → ex_E Γ (d + 1) M_Mdl_init 494 [some (.inr (some m)), some (.inl x0)] [] K I F (b + 7) (fun x K' I' F' => x = none ∧ ∃ ad, rf_ok K' F' m ad ∧ rr I' m ad (m_new (if x0 < 1 ∨ 40 < x0 then 12 else x0))) := by
    intro K I F ad c
    have m1 := c.1
    refine s_Mdl_init_494 ?_
    refine s_Mdl_init_495 ?_
    refine s_Mdl_init_496 (N := 3) (by decide) rfl (by decide) (fun a fa => ?_)
    refine s_Mdl_init_498 (by rfl) (by exact nk_m m1 fa) ?_
    exact t18 _ _ _ _ (cs_step0 c fa (24, 21, 3) (by decide) (by decide) (by decide) (by decide) (by decide) (by decide))
  have t16 : ∀ K I F ad, cs [22, 21, 20, 19, 18, 17, 15, 14, 11, 10, 9, 8, 7, 6, 5, 3] K I F m ad → ex_E Γ (d + 1) M_Mdl_init 486 [some (.inr (some m)), some (.inl x0)] [] K I F (b + 8) (fun x K' I' F' => x = none ∧ ∃ ad, rf_ok K' F' m ad ∧ rr I' m ad (m_new (if x0 < 1 ∨ 40 < x0 then 12 else x0))) := by
    intro K I F ad c
    have m1 := c.1
    refine s_Mdl_init_486 ?_
    refine s_Mdl_init_487 ?_
    refine s_Mdl_init_489 (N := 48) (by decide) rfl (by decide) (fun a fa => ?_)
    refine s_Mdl_init_491 (by rfl) (by exact nk_m m1 fa) ?_
    exact t17 _ _ _ _ (cs_step0 c fa (23, 21, 48) (by decide) (by decide) (by decide) (by decide) (by decide) (by decide))
  have t15 : ∀ K I F ad, cs [21, 20, 19, 18, 17, 15, 14, 11, 10, 9, 8, 7, 6, 5, 3] K I F m ad → ex_E Γ (d + 1) M_Mdl_init 478 [some (.inr (some m)), some (.inl x0)] [] K I F (b + 9) (fun x K' I' F' => x = none ∧ ∃ ad, rf_ok K' F' m ad ∧ rr I' m ad (m_new (if x0 < 1 ∨ 40 < x0 then 12 else x0))) := by
    intro K I F ad c
    have m1 := c.1
    refine s_Mdl_init_478 ?_
    refine s_Mdl_init_479 ?_
    refine s_Mdl_init_481 (N := 96) (by decide) rfl (by decide) (fun a fa => ?_)
    refine s_Mdl_init_483 (by rfl) (by exact nk_m m1 fa) ?_
    exact t16 _ _ _ _ (cs_step0 c fa (22, 21, 96) (by decide) (by decide) (by decide) (by decide) (by decide) (by decide))
  have t14 : ∀ K I F ad, cs [20, 19, 18, 17, 15, 14, 11, 10, 9, 8, 7, 6, 5, 3] K I F m ad → ex_E Γ (d + 1) M_Mdl_init 471 [some (.inr (some m)), some (.inl x0)] [] K I F (b + 10) (fun x K' I' F' => x = none ∧ ∃ ad, rf_ok K' F' m ad ∧ rr I' m ad (m_new (if x0 < 1 ∨ 40 < x0 then 12 else x0))) := by
    intro K I F ad c
    have m1 := c.1
    refine s_Mdl_init_471 ?_
    refine s_Mdl_init_472 ?_
    refine s_Mdl_init_473 (N := 3) (by decide) rfl (by decide) (fun a fa => ?_)
    refine s_Mdl_init_475 (by rfl) (by exact nk_m m1 fa) ?_
    exact t15 _ _ _ _ (cs_step0 c fa (21, 21, 3) (by decide) (by decide) (by decide) (by decide) (by decide) (by decide))
  have t13 : ∀ K I F ad, cs [19, 18, 17, 15, 14, 11, 10, 9, 8, 7, 6, 5, 3] K I F m ad → ex_E Γ (d + 1) M_Mdl_init 463 [some (.inr (some m)), some (.inl x0)] [] K I F (b + 11) (fun x K' I' F' => x = none ∧ ∃ ad, rf_ok K' F' m ad ∧ rr I' m ad (m_new (if x0 < 1 ∨ 40 < x0 then 12 else x0))) := by
    intro K I F ad c
    have m1 := c.1
    refine s_Mdl_init_463 ?_
    refine s_Mdl_init_464 ?_
    refine s_Mdl_init_466 (N := 16) (by decide) rfl (by decide) (fun a fa => ?_)
    refine s_Mdl_init_468 (by rfl) (by exact nk_m m1 fa) ?_
    exact t14 _ _ _ _ (cs_step0 c fa (20, 21, 16) (by decide) (by decide) (by decide) (by decide) (by decide) (by decide))
  have t12 : ∀ K I F ad, cs [18, 17, 15, 14, 11, 10, 9, 8, 7, 6, 5, 3] K I F m ad → ex_E Γ (d + 1) M_Mdl_init 455 [some (.inr (some m)), some (.inl x0)] [] K I F (b + 12) (fun x K' I' F' => x = none ∧ ∃ ad, rf_ok K' F' m ad ∧ rr I' m ad (m_new (if x0 < 1 ∨ 40 < x0 then 12 else x0))) := by
    intro K I F ad c
    have m1 := c.1
    refine s_Mdl_init_455 ?_
    refine s_Mdl_init_456 ?_
    refine s_Mdl_init_458 (N := 16) (by decide) rfl (by decide) (fun a fa => ?_)
    refine s_Mdl_init_460 (by rfl) (by exact nk_m m1 fa) ?_
    exact t13 _ _ _ _ (cs_step0 c fa (19, 21, 16) (by decide) (by decide) (by decide) (by decide) (by decide) (by decide))
  have t11 : ∀ K I F ad, cs [17, 15, 14, 11, 10, 9, 8, 7, 6, 5, 3] K I F m ad → ex_E Γ (d + 1) M_Mdl_init 447 [some (.inr (some m)), some (.inl x0)] [] K I F (b + 13) (fun x K' I' F' => x = none ∧ ∃ ad, rf_ok K' F' m ad ∧ rr I' m ad (m_new (if x0 < 1 ∨ 40 < x0 then 12 else x0))) := by
    intro K I F ad c
    have m1 := c.1
    refine s_Mdl_init_447 ?_
    refine s_Mdl_init_448 ?_
    refine s_Mdl_init_450 (N := 16) (by decide) rfl (by decide) (fun a fa => ?_)
    refine s_Mdl_init_452 (by rfl) (by exact nk_m m1 fa) ?_
    exact t12 _ _ _ _ (cs_step0 c fa (18, 21, 16) (by decide) (by decide) (by decide) (by decide) (by decide) (by decide))
  have t10 : ∀ K I F ad, cs [15, 14, 11, 10, 9, 8, 7, 6, 5, 3] K I F m ad → ex_E Γ (d + 1) M_Mdl_init 439 [some (.inr (some m)), some (.inl x0)] [] K I F (b + 14) (fun x K' I' F' => x = none ∧ ∃ ad, rf_ok K' F' m ad ∧ rr I' m ad (m_new (if x0 < 1 ∨ 40 < x0 then 12 else x0))) := by
    intro K I F ad c
    have m1 := c.1
    refine s_Mdl_init_439 ?_
    refine s_Mdl_init_440 ?_
    refine s_Mdl_init_442 (N := 16) (by decide) rfl (by decide) (fun a fa => ?_)
    refine s_Mdl_init_444 (by rfl) (by exact nk_m m1 fa) ?_
    exact t11 _ _ _ _ (cs_step0 c fa (17, 21, 16) (by decide) (by decide) (by decide) (by decide) (by decide) (by decide))
  have t9 : ∀ K I F ad, cs [14, 11, 10, 9, 8, 7, 6, 5, 3] K I F m ad → ex_E Γ (d + 1) M_Mdl_init 430 [some (.inr (some m)), some (.inl x0)] [] K I F (b + 15) (fun x K' I' F' => x = none ∧ ∃ ad, rf_ok K' F' m ad ∧ rr I' m ad (m_new (if x0 < 1 ∨ 40 < x0 then 12 else x0))) := by
    intro K I F ad c
    have m1 := c.1
    refine s_Mdl_init_430 ?_
    refine s_Mdl_init_431 ?_
    refine s_Mdl_init_434 (N := 160) (by decide) rfl (by decide) (fun a fa => ?_)
    refine s_Mdl_init_436 (by rfl) (by exact nk_m m1 fa) ?_
    exact t10 _ _ _ _ (cs_step0 c fa (15, 21, 160) (by decide) (by decide) (by decide) (by decide) (by decide) (by decide))
  have t8 : ∀ K I F ad, cs [11, 10, 9, 8, 7, 6, 5, 3] K I F m ad → ex_E Γ (d + 1) M_Mdl_init 421 [some (.inr (some m)), some (.inl x0)] [] K I F (b + 16) (fun x K' I' F' => x = none ∧ ∃ ad, rf_ok K' F' m ad ∧ rr I' m ad (m_new (if x0 < 1 ∨ 40 < x0 then 12 else x0))) := by
    intro K I F ad c
    have m1 := c.1
    refine s_Mdl_init_421 ?_
    refine s_Mdl_init_422 ?_
    refine s_Mdl_init_425 (N := 320) (by decide) rfl (by decide) (fun a fa => ?_)
    refine s_Mdl_init_427 (by rfl) (by exact nk_m m1 fa) ?_
    exact t9 _ _ _ _ (cs_step0 c fa (14, 21, 320) (by decide) (by decide) (by decide) (by decide) (by decide) (by decide))
  have t7 : ∀ K I F ad, cs [10, 9, 8, 7, 6, 5, 3] K I F m ad → ex_E Γ (d + 1) M_Mdl_init 413 [some (.inr (some m)), some (.inl x0)] [] K I F (b + 17) (fun x K' I' F' => x = none ∧ ∃ ad, rf_ok K' F' m ad ∧ rr I' m ad (m_new (if x0 < 1 ∨ 40 < x0 then 12 else x0))) := by
    intro K I F ad c
    have m1 := c.1
    refine s_Mdl_init_413 ?_
    refine s_Mdl_init_414 ?_
    refine s_Mdl_init_416 (N := 32) (by decide) rfl (by decide) (fun a fa => ?_)
    refine s_Mdl_init_418 (by rfl) (by exact nk_m m1 fa) ?_
    exact t8 _ _ _ _ (cs_step0 c fa (11, 21, 32) (by decide) (by decide) (by decide) (by decide) (by decide) (by decide))
  have t6 : ∀ K I F ad, cs [9, 8, 7, 6, 5, 3] K I F m ad → ex_E Γ (d + 1) M_Mdl_init 405 [some (.inr (some m)), some (.inl x0)] [] K I F (b + 18) (fun x K' I' F' => x = none ∧ ∃ ad, rf_ok K' F' m ad ∧ rr I' m ad (m_new (if x0 < 1 ∨ 40 < x0 then 12 else x0))) := by
    intro K I F ad c
    have m1 := c.1
    refine s_Mdl_init_405 ?_
    refine s_Mdl_init_406 ?_
    refine s_Mdl_init_408 (N := 8) (by decide) rfl (by decide) (fun a fa => ?_)
    refine s_Mdl_init_410 (by rfl) (by exact nk_m m1 fa) ?_
    exact t7 _ _ _ _ (cs_step0 c fa (10, 21, 8) (by decide) (by decide) (by decide) (by decide) (by decide) (by decide))
  have t5 : ∀ K I F ad, cs [8, 7, 6, 5, 3] K I F m ad → ex_E Γ (d + 1) M_Mdl_init 397 [some (.inr (some m)), some (.inl x0)] [] K I F (b + 19) (fun x K' I' F' => x = none ∧ ∃ ad, rf_ok K' F' m ad ∧ rr I' m ad (m_new (if x0 < 1 ∨ 40 < x0 then 12 else x0))) := by
    intro K I F ad c
    have m1 := c.1
    refine s_Mdl_init_397 ?_
    refine s_Mdl_init_398 ?_
    refine s_Mdl_init_400 (N := 8) (by decide) rfl (by decide) (fun a fa => ?_)
    refine s_Mdl_init_402 (by rfl) (by exact nk_m m1 fa) ?_
    exact t6 _ _ _ _ (cs_step0 c fa (9, 21, 8) (by decide) (by decide) (by decide) (by decide) (by decide) (by decide))
  have t4 : ∀ K I F ad, cs [7, 6, 5, 3] K I F m ad → ex_E Γ (d + 1) M_Mdl_init 389 [some (.inr (some m)), some (.inl x0)] [] K I F (b + 20) (fun x K' I' F' => x = none ∧ ∃ ad, rf_ok K' F' m ad ∧ rr I' m ad (m_new (if x0 < 1 ∨ 40 < x0 then 12 else x0))) := by
    intro K I F ad c
    have m1 := c.1
    refine s_Mdl_init_389 ?_
    refine s_Mdl_init_390 ?_
    refine s_Mdl_init_392 (N := 8) (by decide) rfl (by decide) (fun a fa => ?_)
    refine s_Mdl_init_394 (by rfl) (by exact nk_m m1 fa) ?_
    exact t5 _ _ _ _ (cs_step0 c fa (8, 21, 8) (by decide) (by decide) (by decide) (by decide) (by decide) (by decide))
  have t3 : ∀ K I F ad, cs [6, 5, 3] K I F m ad → ex_E Γ (d + 1) M_Mdl_init 201 [some (.inr (some m)), some (.inl x0)] [] K I F (b + 21) (fun x K' I' F' => x = none ∧ ∃ ad, rf_ok K' F' m ad ∧ rr I' m ad (m_new (if x0 < 1 ∨ 40 < x0 then 12 else x0))) := by
    intro K I F ad c
    have m1 := c.1
    refine s_Mdl_init_201 ?_
    refine s_Mdl_init_202 ?_
    refine s_Mdl_init_204 (N := 31) (by decide) rfl (by decide) (fun a fa => ?_)
    refine s_Mdl_init_206 ?_
    refine s_Mdl_init_207 ?_
    refine s_Mdl_init_208 ?_
    refine s_Mdl_init_210 (by rfl) (by rw [ex_nk_at]) (by rw [ex_nk_at]; exact n_in (a := 0) rfl (by decide) (by decide)) ?_
    refine ex_ixs (q := 0) rfl (by decide) ?_
    rw [show vp_nar FieldType.char 111 = 111 by decide]
    refine s_Mdl_init_211 ?_
    refine s_Mdl_init_212 ?_
    refine s_Mdl_init_213 ?_
    refine s_Mdl_init_215 (by rfl) (by rw [ex_nk_at]) (by rw [ex_nk_at]; exact n_in (a := 1) rfl (by decide) (by decide)) ?_
    refine ex_ixs (q := 1) rfl (by decide) ?_
    rw [show vp_nar FieldType.char 110 = 110 by decide]
    refine s_Mdl_init_216 ?_
    refine s_Mdl_init_217 ?_
    refine s_Mdl_init_218 ?_
    refine s_Mdl_init_220 (by rfl) (by rw [ex_nk_at]) (by rw [ex_nk_at]; exact n_in (a := 2) rfl (by decide) (by decide)) ?_
    refine ex_ixs (q := 2) rfl (by decide) ?_
    rw [show vp_nar FieldType.char 108 = 108 by decide]
    refine s_Mdl_init_221 ?_
    refine s_Mdl_init_222 ?_
    refine s_Mdl_init_223 ?_
    refine s_Mdl_init_225 (by rfl) (by rw [ex_nk_at]) (by rw [ex_nk_at]; exact n_in (a := 3) rfl (by decide) (by decide)) ?_
    refine ex_ixs (q := 3) rfl (by decide) ?_
    rw [show vp_nar FieldType.char 121 = 121 by decide]
    refine s_Mdl_init_226 ?_
    refine s_Mdl_init_227 ?_
    refine s_Mdl_init_228 ?_
    refine s_Mdl_init_230 (by rfl) (by rw [ex_nk_at]) (by rw [ex_nk_at]; exact n_in (a := 4) rfl (by decide) (by decide)) ?_
    refine ex_ixs (q := 4) rfl (by decide) ?_
    rw [show vp_nar FieldType.char 45 = 45 by decide]
    refine s_Mdl_init_231 ?_
    refine s_Mdl_init_232 ?_
    refine s_Mdl_init_233 ?_
    refine s_Mdl_init_235 (by rfl) (by rw [ex_nk_at]) (by rw [ex_nk_at]; exact n_in (a := 5) rfl (by decide) (by decide)) ?_
    refine ex_ixs (q := 5) rfl (by decide) ?_
    rw [show vp_nar FieldType.char 105 = 105 by decide]
    refine s_Mdl_init_236 ?_
    refine s_Mdl_init_237 ?_
    refine s_Mdl_init_239 ?_
    refine s_Mdl_init_241 (by rfl) (by rw [ex_nk_at]) (by rw [ex_nk_at]; exact n_in (a := 6) rfl (by decide) (by decide)) ?_
    refine ex_ixs (q := 6) rfl (by decide) ?_
    rw [show vp_nar FieldType.char 102 = 102 by decide]
    refine s_Mdl_init_242 ?_
    refine s_Mdl_init_243 ?_
    refine s_Mdl_init_245 ?_
    refine s_Mdl_init_247 (by rfl) (by rw [ex_nk_at]) (by rw [ex_nk_at]; exact n_in (a := 7) rfl (by decide) (by decide)) ?_
    refine ex_ixs (q := 7) rfl (by decide) ?_
    rw [show vp_nar FieldType.char 45 = 45 by decide]
    refine s_Mdl_init_248 ?_
    refine s_Mdl_init_249 ?_
    refine s_Mdl_init_251 ?_
    refine s_Mdl_init_253 (by rfl) (by rw [ex_nk_at]) (by rw [ex_nk_at]; exact n_in (a := 8) rfl (by decide) (by decide)) ?_
    refine ex_ixs (q := 8) rfl (by decide) ?_
    rw [show vp_nar FieldType.char 99 = 99 by decide]
    refine s_Mdl_init_254 ?_
    refine s_Mdl_init_255 ?_
    refine s_Mdl_init_257 ?_
    refine s_Mdl_init_259 (by rfl) (by rw [ex_nk_at]) (by rw [ex_nk_at]; exact n_in (a := 9) rfl (by decide) (by decide)) ?_
    refine ex_ixs (q := 9) rfl (by decide) ?_
    rw [show vp_nar FieldType.char 97 = 97 by decide]
    refine s_Mdl_init_260 ?_
    refine s_Mdl_init_261 ?_
    refine s_Mdl_init_263 ?_
    refine s_Mdl_init_265 (by rfl) (by rw [ex_nk_at]) (by rw [ex_nk_at]; exact n_in (a := 10) rfl (by decide) (by decide)) ?_
    refine ex_ixs (q := 10) rfl (by decide) ?_
    rw [show vp_nar FieldType.char 99 = 99 by decide]
    refine s_Mdl_init_266 ?_
    refine s_Mdl_init_267 ?_
    refine s_Mdl_init_269 ?_
    refine s_Mdl_init_271 (by rfl) (by rw [ex_nk_at]) (by rw [ex_nk_at]; exact n_in (a := 11) rfl (by decide) (by decide)) ?_
    refine ex_ixs (q := 11) rfl (by decide) ?_
    rw [show vp_nar FieldType.char 104 = 104 by decide]
    refine s_Mdl_init_272 ?_
    refine s_Mdl_init_273 ?_
    refine s_Mdl_init_275 ?_
    refine s_Mdl_init_277 (by rfl) (by rw [ex_nk_at]) (by rw [ex_nk_at]; exact n_in (a := 12) rfl (by decide) (by decide)) ?_
    refine ex_ixs (q := 12) rfl (by decide) ?_
    rw [show vp_nar FieldType.char 101 = 101 by decide]
    refine s_Mdl_init_278 ?_
    refine s_Mdl_init_279 ?_
    refine s_Mdl_init_281 ?_
    refine s_Mdl_init_283 (by rfl) (by rw [ex_nk_at]) (by rw [ex_nk_at]; exact n_in (a := 13) rfl (by decide) (by decide)) ?_
    refine ex_ixs (q := 13) rfl (by decide) ?_
    rw [show vp_nar FieldType.char 100 = 100 by decide]
    refine s_Mdl_init_284 ?_
    refine s_Mdl_init_285 ?_
    refine s_Mdl_init_287 ?_
    refine s_Mdl_init_289 (by rfl) (by rw [ex_nk_at]) (by rw [ex_nk_at]; exact n_in (a := 14) rfl (by decide) (by decide)) ?_
    refine ex_ixs (q := 14) rfl (by decide) ?_
    rw [show vp_nar FieldType.char 115 = 115 by decide]
    refine s_Mdl_init_290 ?_
    refine s_Mdl_init_291 ?_
    refine s_Mdl_init_293 ?_
    refine s_Mdl_init_295 (by rfl) (by rw [ex_nk_at]) (by rw [ex_nk_at]; exact n_in (a := 15) rfl (by decide) (by decide)) ?_
    refine ex_ixs (q := 15) rfl (by decide) ?_
    rw [show vp_nar FieldType.char 45 = 45 by decide]
    refine s_Mdl_init_296 ?_
    refine s_Mdl_init_297 ?_
    refine s_Mdl_init_299 ?_
    refine s_Mdl_init_301 (by rfl) (by rw [ex_nk_at]) (by rw [ex_nk_at]; exact n_in (a := 16) rfl (by decide) (by decide)) ?_
    refine ex_ixs (q := 16) rfl (by decide) ?_
    rw [show vp_nar FieldType.char 109 = 109 by decide]
    refine s_Mdl_init_302 ?_
    refine s_Mdl_init_303 ?_
    refine s_Mdl_init_305 ?_
    refine s_Mdl_init_307 (by rfl) (by rw [ex_nk_at]) (by rw [ex_nk_at]; exact n_in (a := 17) rfl (by decide) (by decide)) ?_
    refine ex_ixs (q := 17) rfl (by decide) ?_
    rw [show vp_nar FieldType.char 97 = 97 by decide]
    refine s_Mdl_init_308 ?_
    refine s_Mdl_init_309 ?_
    refine s_Mdl_init_311 ?_
    refine s_Mdl_init_313 (by rfl) (by rw [ex_nk_at]) (by rw [ex_nk_at]; exact n_in (a := 18) rfl (by decide) (by decide)) ?_
    refine ex_ixs (q := 18) rfl (by decide) ?_
    rw [show vp_nar FieldType.char 120 = 120 by decide]
    refine s_Mdl_init_314 ?_
    refine s_Mdl_init_315 ?_
    refine s_Mdl_init_317 ?_
    refine s_Mdl_init_319 (by rfl) (by rw [ex_nk_at]) (by rw [ex_nk_at]; exact n_in (a := 19) rfl (by decide) (by decide)) ?_
    refine ex_ixs (q := 19) rfl (by decide) ?_
    rw [show vp_nar FieldType.char 97 = 97 by decide]
    refine s_Mdl_init_320 ?_
    refine s_Mdl_init_321 ?_
    refine s_Mdl_init_323 ?_
    refine s_Mdl_init_325 (by rfl) (by rw [ex_nk_at]) (by rw [ex_nk_at]; exact n_in (a := 20) rfl (by decide) (by decide)) ?_
    refine ex_ixs (q := 20) rfl (by decide) ?_
    rw [show vp_nar FieldType.char 103 = 103 by decide]
    refine s_Mdl_init_326 ?_
    refine s_Mdl_init_327 ?_
    refine s_Mdl_init_329 ?_
    refine s_Mdl_init_331 (by rfl) (by rw [ex_nk_at]) (by rw [ex_nk_at]; exact n_in (a := 21) rfl (by decide) (by decide)) ?_
    refine ex_ixs (q := 21) rfl (by decide) ?_
    rw [show vp_nar FieldType.char 101 = 101 by decide]
    refine s_Mdl_init_332 ?_
    refine s_Mdl_init_333 ?_
    refine s_Mdl_init_335 ?_
    refine s_Mdl_init_337 (by rfl) (by rw [ex_nk_at]) (by rw [ex_nk_at]; exact n_in (a := 22) rfl (by decide) (by decide)) ?_
    refine ex_ixs (q := 22) rfl (by decide) ?_
    rw [show vp_nar FieldType.char 109 = 109 by decide]
    refine s_Mdl_init_338 ?_
    refine s_Mdl_init_339 ?_
    refine s_Mdl_init_341 ?_
    refine s_Mdl_init_343 (by rfl) (by rw [ex_nk_at]) (by rw [ex_nk_at]; exact n_in (a := 23) rfl (by decide) (by decide)) ?_
    refine ex_ixs (q := 23) rfl (by decide) ?_
    rw [show vp_nar FieldType.char 105 = 105 by decide]
    refine s_Mdl_init_344 ?_
    refine s_Mdl_init_345 ?_
    refine s_Mdl_init_347 ?_
    refine s_Mdl_init_349 (by rfl) (by rw [ex_nk_at]) (by rw [ex_nk_at]; exact n_in (a := 24) rfl (by decide) (by decide)) ?_
    refine ex_ixs (q := 24) rfl (by decide) ?_
    rw [show vp_nar FieldType.char 110 = 110 by decide]
    refine s_Mdl_init_350 ?_
    refine s_Mdl_init_351 ?_
    refine s_Mdl_init_353 ?_
    refine s_Mdl_init_355 (by rfl) (by rw [ex_nk_at]) (by rw [ex_nk_at]; exact n_in (a := 25) rfl (by decide) (by decide)) ?_
    refine ex_ixs (q := 25) rfl (by decide) ?_
    rw [show vp_nar FieldType.char 45 = 45 by decide]
    refine s_Mdl_init_356 ?_
    refine s_Mdl_init_357 ?_
    refine s_Mdl_init_359 ?_
    refine s_Mdl_init_361 (by rfl) (by rw [ex_nk_at]) (by rw [ex_nk_at]; exact n_in (a := 26) rfl (by decide) (by decide)) ?_
    refine ex_ixs (q := 26) rfl (by decide) ?_
    rw [show vp_nar FieldType.char 102 = 102 by decide]
    refine s_Mdl_init_362 ?_
    refine s_Mdl_init_363 ?_
    refine s_Mdl_init_365 ?_
    refine s_Mdl_init_367 (by rfl) (by rw [ex_nk_at]) (by rw [ex_nk_at]; exact n_in (a := 27) rfl (by decide) (by decide)) ?_
    refine ex_ixs (q := 27) rfl (by decide) ?_
    rw [show vp_nar FieldType.char 114 = 114 by decide]
    refine s_Mdl_init_368 ?_
    refine s_Mdl_init_369 ?_
    refine s_Mdl_init_371 ?_
    refine s_Mdl_init_373 (by rfl) (by rw [ex_nk_at]) (by rw [ex_nk_at]; exact n_in (a := 28) rfl (by decide) (by decide)) ?_
    refine ex_ixs (q := 28) rfl (by decide) ?_
    rw [show vp_nar FieldType.char 101 = 101 by decide]
    refine s_Mdl_init_374 ?_
    refine s_Mdl_init_375 ?_
    refine s_Mdl_init_377 ?_
    refine s_Mdl_init_379 (by rfl) (by rw [ex_nk_at]) (by rw [ex_nk_at]; exact n_in (a := 29) rfl (by decide) (by decide)) ?_
    refine ex_ixs (q := 29) rfl (by decide) ?_
    rw [show vp_nar FieldType.char 115 = 115 by decide]
    refine s_Mdl_init_380 ?_
    refine s_Mdl_init_381 ?_
    refine s_Mdl_init_383 ?_
    refine s_Mdl_init_385 (by rfl) (by rw [ex_nk_at]) (by rw [ex_nk_at]; exact n_in (a := 30) rfl (by decide) (by decide)) ?_
    refine ex_ixs (q := 30) rfl (by decide) ?_
    rw [show vp_nar FieldType.char 104 = 104 by decide]
    rw [ex_ui_w (ex_ni _ _) 22, ex_wi_u, ex_wi_u, ex_wi_u, ex_wi_u, ex_wi_u, ex_wi_u, ex_wi_u, ex_wi_u, ex_wi_u, ex_wi_u, ex_wi_u, ex_wi_u, ex_wi_u, ex_wi_u, ex_wi_u, ex_wi_u, ex_wi_u, ex_wi_u, ex_wi_u, ex_wi_u, ex_wi_u, ex_wi_u, ex_wi_u, ex_wi_u, ex_wi_u, ex_wi_u, ex_wi_u, ex_wi_u, ex_wi_u, ex_wi_u]
    refine s_Mdl_init_386 (by rfl) (by exact nk_m m1 fa) ?_
    exact t4 _ _ _ _ (cs_step c fa (7, 22, 31) (by decide) (by decide) (by decide) (by decide) (fun e => absurd e (by decide)) (fun _ k hk => by
      rcases (by omega : k = 0 ∨ k = 1 ∨ k = 2 ∨ k = 3 ∨ k = 4 ∨ k = 5 ∨ k = 6 ∨ k = 7 ∨ k = 8 ∨ k = 9 ∨ k = 10 ∨ k = 11 ∨ k = 12 ∨ k = 13 ∨ k = 14 ∨ k = 15 ∨ k = 16 ∨ k = 17 ∨ k = 18 ∨ k = 19 ∨ k = 20 ∨ k = 21 ∨ k = 22 ∨ k = 23 ∨ k = 24 ∨ k = 25 ∨ k = 26 ∨ k = 27 ∨ k = 28 ∨ k = 29 ∨ k = 30) with rfl | rfl | rfl | rfl | rfl | rfl | rfl | rfl | rfl | rfl | rfl | rfl | rfl | rfl | rfl | rfl | rfl | rfl | rfl | rfl | rfl | rfl | rfl | rfl | rfl | rfl | rfl | rfl | rfl | rfl | rfl
      all_goals rfl) (fun _ e => absurd rfl e))
  have t2 : ∀ K I F ad, cs [5, 3] K I F m ad → ex_E Γ (d + 1) M_Mdl_init 19 [some (.inr (some m)), some (.inl x0)] [] K I F (b + 22) (fun x K' I' F' => x = none ∧ ∃ ad, rf_ok K' F' m ad ∧ rr I' m ad (m_new (if x0 < 1 ∨ 40 < x0 then 12 else x0))) := by
    intro K I F ad c
    have m1 := c.1
    refine s_Mdl_init_19 ?_
    refine s_Mdl_init_20 ?_
    refine s_Mdl_init_22 (N := 30) (by decide) rfl (by decide) (fun a fa => ?_)
    refine s_Mdl_init_24 ?_
    refine s_Mdl_init_25 ?_
    refine s_Mdl_init_26 ?_
    refine s_Mdl_init_28 (by rfl) (by rw [ex_nk_at]) (by rw [ex_nk_at]; exact n_in (a := 0) rfl (by decide) (by decide)) ?_
    refine ex_ixs (q := 0) rfl (by decide) ?_
    rw [show vp_nar FieldType.char 110 = 110 by decide]
    refine s_Mdl_init_29 ?_
    refine s_Mdl_init_30 ?_
    refine s_Mdl_init_31 ?_
    refine s_Mdl_init_33 (by rfl) (by rw [ex_nk_at]) (by rw [ex_nk_at]; exact n_in (a := 1) rfl (by decide) (by decide)) ?_
    refine ex_ixs (q := 1) rfl (by decide) ?_
    rw [show vp_nar FieldType.char 111 = 111 by decide]
    refine s_Mdl_init_34 ?_
    refine s_Mdl_init_35 ?_
    refine s_Mdl_init_36 ?_
    refine s_Mdl_init_38 (by rfl) (by rw [ex_nk_at]) (by rw [ex_nk_at]; exact n_in (a := 2) rfl (by decide) (by decide)) ?_
    refine ex_ixs (q := 2) rfl (by decide) ?_
    rw [show vp_nar FieldType.char 45 = 45 by decide]
    refine s_Mdl_init_39 ?_
    refine s_Mdl_init_40 ?_
    refine s_Mdl_init_41 ?_
    refine s_Mdl_init_43 (by rfl) (by rw [ex_nk_at]) (by rw [ex_nk_at]; exact n_in (a := 3) rfl (by decide) (by decide)) ?_
    refine ex_ixs (q := 3) rfl (by decide) ?_
    rw [show vp_nar FieldType.char 99 = 99 by decide]
    refine s_Mdl_init_44 ?_
    refine s_Mdl_init_45 ?_
    refine s_Mdl_init_46 ?_
    refine s_Mdl_init_48 (by rfl) (by rw [ex_nk_at]) (by rw [ex_nk_at]; exact n_in (a := 4) rfl (by decide) (by decide)) ?_
    refine ex_ixs (q := 4) rfl (by decide) ?_
    rw [show vp_nar FieldType.char 97 = 97 by decide]
    refine s_Mdl_init_49 ?_
    refine s_Mdl_init_50 ?_
    refine s_Mdl_init_51 ?_
    refine s_Mdl_init_53 (by rfl) (by rw [ex_nk_at]) (by rw [ex_nk_at]; exact n_in (a := 5) rfl (by decide) (by decide)) ?_
    refine ex_ixs (q := 5) rfl (by decide) ?_
    rw [show vp_nar FieldType.char 99 = 99 by decide]
    refine s_Mdl_init_54 ?_
    refine s_Mdl_init_55 ?_
    refine s_Mdl_init_57 ?_
    refine s_Mdl_init_59 (by rfl) (by rw [ex_nk_at]) (by rw [ex_nk_at]; exact n_in (a := 6) rfl (by decide) (by decide)) ?_
    refine ex_ixs (q := 6) rfl (by decide) ?_
    rw [show vp_nar FieldType.char 104 = 104 by decide]
    refine s_Mdl_init_60 ?_
    refine s_Mdl_init_61 ?_
    refine s_Mdl_init_63 ?_
    refine s_Mdl_init_65 (by rfl) (by rw [ex_nk_at]) (by rw [ex_nk_at]; exact n_in (a := 7) rfl (by decide) (by decide)) ?_
    refine ex_ixs (q := 7) rfl (by decide) ?_
    rw [show vp_nar FieldType.char 101 = 101 by decide]
    refine s_Mdl_init_66 ?_
    refine s_Mdl_init_67 ?_
    refine s_Mdl_init_69 ?_
    refine s_Mdl_init_71 (by rfl) (by rw [ex_nk_at]) (by rw [ex_nk_at]; exact n_in (a := 8) rfl (by decide) (by decide)) ?_
    refine ex_ixs (q := 8) rfl (by decide) ?_
    rw [show vp_nar FieldType.char 110 = 110 by decide]
    refine s_Mdl_init_72 ?_
    refine s_Mdl_init_73 ?_
    refine s_Mdl_init_75 ?_
    refine s_Mdl_init_77 (by rfl) (by rw [ex_nk_at]) (by rw [ex_nk_at]; exact n_in (a := 9) rfl (by decide) (by decide)) ?_
    refine ex_ixs (q := 9) rfl (by decide) ?_
    rw [show vp_nar FieldType.char 111 = 111 by decide]
    refine s_Mdl_init_78 ?_
    refine s_Mdl_init_79 ?_
    refine s_Mdl_init_81 ?_
    refine s_Mdl_init_83 (by rfl) (by rw [ex_nk_at]) (by rw [ex_nk_at]; exact n_in (a := 10) rfl (by decide) (by decide)) ?_
    refine ex_ixs (q := 10) rfl (by decide) ?_
    rw [show vp_nar FieldType.char 45 = 45 by decide]
    refine s_Mdl_init_84 ?_
    refine s_Mdl_init_85 ?_
    refine s_Mdl_init_87 ?_
    refine s_Mdl_init_89 (by rfl) (by rw [ex_nk_at]) (by rw [ex_nk_at]; exact n_in (a := 11) rfl (by decide) (by decide)) ?_
    refine ex_ixs (q := 11) rfl (by decide) ?_
    rw [show vp_nar FieldType.char 115 = 115 by decide]
    refine s_Mdl_init_90 ?_
    refine s_Mdl_init_91 ?_
    refine s_Mdl_init_93 ?_
    refine s_Mdl_init_95 (by rfl) (by rw [ex_nk_at]) (by rw [ex_nk_at]; exact n_in (a := 12) rfl (by decide) (by decide)) ?_
    refine ex_ixs (q := 12) rfl (by decide) ?_
    rw [show vp_nar FieldType.char 116 = 116 by decide]
    refine s_Mdl_init_96 ?_
    refine s_Mdl_init_97 ?_
    refine s_Mdl_init_99 ?_
    refine s_Mdl_init_101 (by rfl) (by rw [ex_nk_at]) (by rw [ex_nk_at]; exact n_in (a := 13) rfl (by decide) (by decide)) ?_
    refine ex_ixs (q := 13) rfl (by decide) ?_
    rw [show vp_nar FieldType.char 111 = 111 by decide]
    refine s_Mdl_init_102 ?_
    refine s_Mdl_init_103 ?_
    refine s_Mdl_init_105 ?_
    refine s_Mdl_init_107 (by rfl) (by rw [ex_nk_at]) (by rw [ex_nk_at]; exact n_in (a := 14) rfl (by decide) (by decide)) ?_
    refine ex_ixs (q := 14) rfl (by decide) ?_
    rw [show vp_nar FieldType.char 114 = 114 by decide]
    refine s_Mdl_init_108 ?_
    refine s_Mdl_init_109 ?_
    refine s_Mdl_init_111 ?_
    refine s_Mdl_init_113 (by rfl) (by rw [ex_nk_at]) (by rw [ex_nk_at]; exact n_in (a := 15) rfl (by decide) (by decide)) ?_
    refine ex_ixs (q := 15) rfl (by decide) ?_
    rw [show vp_nar FieldType.char 101 = 101 by decide]
    refine s_Mdl_init_114 ?_
    refine s_Mdl_init_115 ?_
    refine s_Mdl_init_117 ?_
    refine s_Mdl_init_119 (by rfl) (by rw [ex_nk_at]) (by rw [ex_nk_at]; exact n_in (a := 16) rfl (by decide) (by decide)) ?_
    refine ex_ixs (q := 16) rfl (by decide) ?_
    rw [show vp_nar FieldType.char 112 = 112 by decide]
    refine s_Mdl_init_120 ?_
    refine s_Mdl_init_121 ?_
    refine s_Mdl_init_123 ?_
    refine s_Mdl_init_125 (by rfl) (by rw [ex_nk_at]) (by rw [ex_nk_at]; exact n_in (a := 17) rfl (by decide) (by decide)) ?_
    refine ex_ixs (q := 17) rfl (by decide) ?_
    rw [show vp_nar FieldType.char 114 = 114 by decide]
    refine s_Mdl_init_126 ?_
    refine s_Mdl_init_127 ?_
    refine s_Mdl_init_129 ?_
    refine s_Mdl_init_131 (by rfl) (by rw [ex_nk_at]) (by rw [ex_nk_at]; exact n_in (a := 18) rfl (by decide) (by decide)) ?_
    refine ex_ixs (q := 18) rfl (by decide) ?_
    rw [show vp_nar FieldType.char 105 = 105 by decide]
    refine s_Mdl_init_132 ?_
    refine s_Mdl_init_133 ?_
    refine s_Mdl_init_135 ?_
    refine s_Mdl_init_137 (by rfl) (by rw [ex_nk_at]) (by rw [ex_nk_at]; exact n_in (a := 19) rfl (by decide) (by decide)) ?_
    refine ex_ixs (q := 19) rfl (by decide) ?_
    rw [show vp_nar FieldType.char 118 = 118 by decide]
    refine s_Mdl_init_138 ?_
    refine s_Mdl_init_139 ?_
    refine s_Mdl_init_141 ?_
    refine s_Mdl_init_143 (by rfl) (by rw [ex_nk_at]) (by rw [ex_nk_at]; exact n_in (a := 20) rfl (by decide) (by decide)) ?_
    refine ex_ixs (q := 20) rfl (by decide) ?_
    rw [show vp_nar FieldType.char 97 = 97 by decide]
    refine s_Mdl_init_144 ?_
    refine s_Mdl_init_145 ?_
    refine s_Mdl_init_147 ?_
    refine s_Mdl_init_149 (by rfl) (by rw [ex_nk_at]) (by rw [ex_nk_at]; exact n_in (a := 21) rfl (by decide) (by decide)) ?_
    refine ex_ixs (q := 21) rfl (by decide) ?_
    rw [show vp_nar FieldType.char 116 = 116 by decide]
    refine s_Mdl_init_150 ?_
    refine s_Mdl_init_151 ?_
    refine s_Mdl_init_153 ?_
    refine s_Mdl_init_155 (by rfl) (by rw [ex_nk_at]) (by rw [ex_nk_at]; exact n_in (a := 22) rfl (by decide) (by decide)) ?_
    refine ex_ixs (q := 22) rfl (by decide) ?_
    rw [show vp_nar FieldType.char 101 = 101 by decide]
    refine s_Mdl_init_156 ?_
    refine s_Mdl_init_157 ?_
    refine s_Mdl_init_159 ?_
    refine s_Mdl_init_161 (by rfl) (by rw [ex_nk_at]) (by rw [ex_nk_at]; exact n_in (a := 23) rfl (by decide) (by decide)) ?_
    refine ex_ixs (q := 23) rfl (by decide) ?_
    rw [show vp_nar FieldType.char 109 = 109 by decide]
    refine s_Mdl_init_162 ?_
    refine s_Mdl_init_163 ?_
    refine s_Mdl_init_165 ?_
    refine s_Mdl_init_167 (by rfl) (by rw [ex_nk_at]) (by rw [ex_nk_at]; exact n_in (a := 24) rfl (by decide) (by decide)) ?_
    refine ex_ixs (q := 24) rfl (by decide) ?_
    rw [show vp_nar FieldType.char 97 = 97 by decide]
    refine s_Mdl_init_168 ?_
    refine s_Mdl_init_169 ?_
    refine s_Mdl_init_171 ?_
    refine s_Mdl_init_173 (by rfl) (by rw [ex_nk_at]) (by rw [ex_nk_at]; exact n_in (a := 25) rfl (by decide) (by decide)) ?_
    refine ex_ixs (q := 25) rfl (by decide) ?_
    rw [show vp_nar FieldType.char 120 = 120 by decide]
    refine s_Mdl_init_174 ?_
    refine s_Mdl_init_175 ?_
    refine s_Mdl_init_177 ?_
    refine s_Mdl_init_179 (by rfl) (by rw [ex_nk_at]) (by rw [ex_nk_at]; exact n_in (a := 26) rfl (by decide) (by decide)) ?_
    refine ex_ixs (q := 26) rfl (by decide) ?_
    rw [show vp_nar FieldType.char 45 = 45 by decide]
    refine s_Mdl_init_180 ?_
    refine s_Mdl_init_181 ?_
    refine s_Mdl_init_183 ?_
    refine s_Mdl_init_185 (by rfl) (by rw [ex_nk_at]) (by rw [ex_nk_at]; exact n_in (a := 27) rfl (by decide) (by decide)) ?_
    refine ex_ixs (q := 27) rfl (by decide) ?_
    rw [show vp_nar FieldType.char 97 = 97 by decide]
    refine s_Mdl_init_186 ?_
    refine s_Mdl_init_187 ?_
    refine s_Mdl_init_189 ?_
    refine s_Mdl_init_191 (by rfl) (by rw [ex_nk_at]) (by rw [ex_nk_at]; exact n_in (a := 28) rfl (by decide) (by decide)) ?_
    refine ex_ixs (q := 28) rfl (by decide) ?_
    rw [show vp_nar FieldType.char 103 = 103 by decide]
    refine s_Mdl_init_192 ?_
    refine s_Mdl_init_193 ?_
    refine s_Mdl_init_195 ?_
    refine s_Mdl_init_197 (by rfl) (by rw [ex_nk_at]) (by rw [ex_nk_at]; exact n_in (a := 29) rfl (by decide) (by decide)) ?_
    refine ex_ixs (q := 29) rfl (by decide) ?_
    rw [show vp_nar FieldType.char 101 = 101 by decide]
    rw [ex_ui_w (ex_ni _ _) 22, ex_wi_u, ex_wi_u, ex_wi_u, ex_wi_u, ex_wi_u, ex_wi_u, ex_wi_u, ex_wi_u, ex_wi_u, ex_wi_u, ex_wi_u, ex_wi_u, ex_wi_u, ex_wi_u, ex_wi_u, ex_wi_u, ex_wi_u, ex_wi_u, ex_wi_u, ex_wi_u, ex_wi_u, ex_wi_u, ex_wi_u, ex_wi_u, ex_wi_u, ex_wi_u, ex_wi_u, ex_wi_u, ex_wi_u]
    refine s_Mdl_init_198 (by rfl) (by exact nk_m m1 fa) ?_
    exact t3 _ _ _ _ (cs_step c fa (6, 22, 30) (by decide) (by decide) (by decide) (by decide) (fun _ k hk => by
      rcases (by omega : k = 0 ∨ k = 1 ∨ k = 2 ∨ k = 3 ∨ k = 4 ∨ k = 5 ∨ k = 6 ∨ k = 7 ∨ k = 8 ∨ k = 9 ∨ k = 10 ∨ k = 11 ∨ k = 12 ∨ k = 13 ∨ k = 14 ∨ k = 15 ∨ k = 16 ∨ k = 17 ∨ k = 18 ∨ k = 19 ∨ k = 20 ∨ k = 21 ∨ k = 22 ∨ k = 23 ∨ k = 24 ∨ k = 25 ∨ k = 26 ∨ k = 27 ∨ k = 28 ∨ k = 29) with rfl | rfl | rfl | rfl | rfl | rfl | rfl | rfl | rfl | rfl | rfl | rfl | rfl | rfl | rfl | rfl | rfl | rfl | rfl | rfl | rfl | rfl | rfl | rfl | rfl | rfl | rfl | rfl | rfl | rfl
      all_goals rfl) (fun e => absurd e (by decide)) (fun e => absurd rfl e))
  have t1 : ∀ K I F ad, cs [3] K I F m ad → ex_E Γ (d + 1) M_Mdl_init 12 [some (.inr (some m)), some (.inl x0)] [] K I F (b + 23) (fun x K' I' F' => x = none ∧ ∃ ad, rf_ok K' F' m ad ∧ rr I' m ad (m_new (if x0 < 1 ∨ 40 < x0 then 12 else x0))) := by
    intro K I F ad c
    have m1 := c.1
    refine s_Mdl_init_12 ?_
    refine s_Mdl_init_13 ?_
    refine s_Mdl_init_14 (N := 4) (by decide) rfl (by decide) (fun a fa => ?_)
    refine s_Mdl_init_16 (by rfl) (by exact nk_m m1 fa) ?_
    exact t2 _ _ _ _ (cs_step0 c fa (5, 21, 4) (by decide) (by decide) (by decide) (by decide) (by decide) (by decide))
  have t0 : ∀ K I F ad, cs [] K I F m ad → ex_E Γ (d + 1) M_Mdl_init 4 [some (.inr (some m)), some (.inl x0)] [] K I F (b + 24) (fun x K' I' F' => x = none ∧ ∃ ad, rf_ok K' F' m ad ∧ rr I' m ad (m_new (if x0 < 1 ∨ 40 < x0 then 12 else x0))) := by
    intro K I F ad c
    have m1 := c.1
    refine s_Mdl_init_4 ?_
    refine s_Mdl_init_5 ?_
    refine s_Mdl_init_7 (N := 40) (by decide) rfl (by decide) (fun a fa => ?_)
    refine s_Mdl_init_9 (by rfl) (by exact nk_m m1 fa) ?_
    exact t1 _ _ _ _ (cs_step0 c fa (3, 22, 40) (by decide) (by decide) (by decide) (by decide) (by decide) (by decide))
  have c0 : cs [] K I F m (fun _ => 0) := ⟨hm, h0, fun j h => absurd h (by simp), fun i j h => absurd h (by simp), fun q _ h => absurd h (by simp), fun j h => absurd h (by simp), fun h => absurd h (by simp), fun h => absurd h (by simp)⟩
  refine s_Mdl_init_0 ?_
  refine s_Mdl_init_1 (by first | rfl | assumption) ?_
  exact t0 _ _ _ _ c0
