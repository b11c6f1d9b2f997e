/-! The class: does an entry serve? -/
theorem tx_bit {N : Nat → Int32} : tx_4 N 0 &&& 1 = (if N 0 = -1 then 0 else 1) := by
  show (tx_b (N 0) 1 + tx_b (N 1) 2 + tx_b (N 2) 4 + tx_b (N 3) 8) &&& 1 = _
  unfold tx_b
  split <;> split <;> split <;> split <;> rfl
theorem tx_bit2 {N : Nat → Int32} : (tx_4 N 0 &&& 2 = 0) ↔ N 1 = -1 := by
  show ((tx_b (N 0) 1 + tx_b (N 1) 2 + tx_b (N 2) 4 + tx_b (N 3) 8) &&& 2 = 0) ↔ _
  unfold tx_b
  by_cases h1 : N 1 = -1
  · rw [if_pos h1]
    refine ⟨fun _ => h1, fun _ => ?_⟩
    split <;> split <;> split <;> rfl
  · rw [if_neg h1]
    refine ⟨fun h => ?_, fun h => absurd h h1⟩
    revert h
    split <;> split <;> split <;> exact fun h => absurd h (by decide)
theorem tx_bit6 {N : Nat → Int32} : (tx_4 N 0 &&& 6 = 0) ↔ (N 1 = -1 ∧ N 2 = -1) := by
  show ((tx_b (N 0) 1 + tx_b (N 1) 2 + tx_b (N 2) 4 + tx_b (N 3) 8) &&& 6 = 0) ↔ _
  unfold tx_b
  by_cases h1 : N 1 = -1
  · by_cases h2 : N 2 = -1
    · rw [if_pos h1, if_pos h2]
      refine ⟨fun _ => ⟨h1, h2⟩, fun _ => ?_⟩
      split <;> split <;> rfl
    · rw [if_pos h1, if_neg h2]
      refine ⟨fun h => ?_, fun h => absurd h.2 h2⟩
      revert h
      split <;> split <;> exact fun h => absurd h (by decide)
  · rw [if_neg h1]
    refine ⟨fun h => ?_, fun h => absurd h.1 h1⟩
    revert h
    split <;> split <;> split <;> exact fun h => absurd h (by decide)
theorem tx_bit8 {N : Nat → Int32} : (tx_4 N 0 &&& 8 = 0) ↔ N 3 = -1 := by
  show ((tx_b (N 0) 1 + tx_b (N 1) 2 + tx_b (N 2) 4 + tx_b (N 3) 8) &&& 8 = 0) ↔ _
  unfold tx_b
  by_cases h1 : N 3 = -1
  · rw [if_pos h1]
    refine ⟨fun _ => h1, fun _ => ?_⟩
    split <;> split <;> split <;> rfl
  · rw [if_neg h1]
    refine ⟨fun h => ?_, fun h => absurd h h1⟩
    revert h
    split <;> split <;> split <;> exact fun h => absurd h (by decide)
theorem or_and1 (x y : Int32) : (x ||| y) &&& 1 = (x &&& 1) ||| (y &&& 1) := by
  apply Int32.toBitVec_inj.mp
  show (x.toBitVec ||| y.toBitVec) &&& 1#32 = (x.toBitVec &&& 1#32) ||| (y.toBitVec &&& 1#32)
  ext i hi
  simp only [BitVec.getElem_and, BitVec.getElem_or]
  cases x.toBitVec[i] <;> cases y.toBitVec[i] <;> cases (1#32)[i] <;> rfl
theorem tx_or {N N' : Nat → Int32} : ((tx_4 N 0 ||| tx_4 N' 0) &&& 1 = 0) ↔ (N 0 = -1 ∧ N' 0 = -1) := by
  rw [or_and1, tx_bit, tx_bit]
  by_cases h1 : N 0 = -1
  · by_cases h2 : N' 0 = -1
    · rw [if_pos h1, if_pos h2]; exact ⟨fun _ => ⟨h1, h2⟩, fun _ => rfl⟩
    · rw [if_pos h1, if_neg h2]; exact ⟨fun h => absurd h (by decide), fun h => absurd h.2 h2⟩
  · rw [if_neg h1]
    refine ⟨fun h => ?_, fun h => absurd h.1 h1⟩
    revert h
    split <;> exact fun h => absurd h (by decide)
theorem m1_lt {x : Int32} (h : x = -1 ∨ 0 ≤ x) : x < 0 ↔ x = -1 := by
  constructor
  · intro hx
    rcases h with e | e
    · exact e
    · rw [Int32.lt_iff_toInt_lt] at hx
      rw [Int32.le_iff_toInt_le] at e
      omega
  · intro e
    rw [e]
    decide
theorem htb_iff {t : Int32} {rd row N M : Nat → Int32} (hr : ∀ j, j < 4 → tx_4 N j = row (8 + j)) (hd : ∀ j, j < 4 → tx_4 M j = rd j) (n1 : ∀ j, j < 7 → N j = -1 ∨ 0 ≤ N j) (m1 : ∀ j, j < 7 → M j = -1 ∨ 0 ≤ M j) :
    htb t rd row = true ↔ (N 0 = -1 ∧ M 0 = -1) ∧ ¬ life N = -1 ∧ t - row 6 < life N ∧ (M 4 = -1 ∨ ¬ M 4 < t - row 6) ∧ (M 6 = -1 ∨ ¬ life N < t - row 6 + M 6) := by
  have l1 : row 9 = life N := (hr 1 (by decide)).symm
  have l2 : rd 2 = M 4 := (hd 2 (by decide)).symm
  have l3 : rd 3 = M 6 := (hd 3 (by decide)).symm
  have l0 : row 8 = tx_4 N 0 := (hr 0 (by decide)).symm
  have l4 : rd 0 = tx_4 M 0 := (hd 0 (by decide)).symm
  have ln : life N = -1 ∨ 0 ≤ life N := by unfold life; split; exact n1 4 (by decide); exact n1 5 (by decide)
  unfold htb
  simp only [Bool.and_eq_true, Bool.or_eq_true, decide_eq_true_eq, Bool.not_eq_true', decide_eq_false_iff_not]
  rw [l0, l4, tx_or, l1, l2, l3, m1_lt ln, m1_lt (m1 4 (by decide)), m1_lt (m1 6 (by decide)), and_assoc, and_assoc, and_assoc]
theorem e01 (x : Int32) : ((if x = -1 then (0 : Int32) else 1) = 0) ↔ x = -1 := by
  by_cases q : x = -1
  · rw [if_pos q]; exact ⟨fun _ => q, fun _ => rfl⟩
  · rw [if_neg q]; exact ⟨fun w => absurd w (by decide), fun w => absurd w q⟩
theorem sp_serves {Γ : ex_G} {d : Nat} {K : ex_K} {I : ex_I} {F : ex_F} {b : Nat} {p z : Nat} {t : Int32} {rd row : Nat → Int32} (hp : En K I F p row) (hz : Ctl K I F z rd) :
    ex_E Γ (d + 3) M_Ent_serves 0 [some (.inr (some p)), some (.inr (some z)), some (.inl t), none, none] [] K I F b (fun r K' I' F' => r = some (.inl (if htb t rd row = true then 1 else 0)) ∧ K = K' ∧ I = I' ∧ F = F') := by
  obtain ⟨e1, e2, e3, e4, e5, -, w, e8, y, y1, y2, y3⟩ := hp
  obtain ⟨v, v1, v2, v3⟩ := hz
  have hh := htb_iff (t := t) (rd := rd) (row := row) y3 v3 y2 v2
  have w1 := y1.1
  have z1 := v1.1
  have fin : ∀ c : Prop, [Decidable c] → (htb t rd row = true ↔ c) → (if htb t rd row = true then (1 : Int32) else 0) = (if c then 1 else 0) := fun c _ hc => by
    by_cases q : htb t rd row = true
    · rw [if_pos q, if_pos (hc.mp q)]
    · rw [if_neg q, if_neg (fun w => q (hc.mpr w))]
  refine s_Ent_serves_0 ?_
  refine s_Ent_serves_1 ?_
  refine s_Ent_serves_2 (b1 := 0) (b2 := b) (by first | rfl | assumption | (simp [*]; done)) (by first | rfl | assumption | (simp [*]; done)) (ex_up (by omega) (sp_age (d := d) e1)) ?_ (by omega)
  rintro _ _ _ _ ⟨rfl, rfl, rfl, rfl⟩
  dsimp only [Option.toList, List.cons_append, List.nil_append]
  rw [e5]
  refine s_Ent_serves_5 ?_
  refine s_Ent_serves_6 ?_
  refine s_Ent_serves_7 (by first | rfl | assumption | (simp [*]; done)) (by first | rfl | assumption | (simp [*]; done)) ?_
  refine s_Ent_serves_10 (b1 := 0) (b2 := b) (by exact e8) (by exact w1) (ex_up (by omega) (sp_lifetime (d := d) y1)) ?_ (by omega)
  rintro _ _ _ _ ⟨rfl, rfl, rfl, rfl⟩
  dsimp only [Option.toList, List.cons_append, List.nil_append]
  refine s_Ent_serves_13 ?_
  refine s_Ent_serves_15 ?_
  refine s_Ent_serves_16 (by first | rfl | assumption | (simp [*]; done)) (by first | rfl | assumption | (simp [*]; done)) ?_
  refine s_Ent_serves_19 ?_
  refine s_Ent_serves_20 (b1 := 0) (b2 := b) (by exact e8) (by exact w1) (ex_up (by omega) (sp_has2 (d := d) 0 rfl y1 (by decide))) ?_ (by omega)
  rintro _ _ _ _ ⟨rfl, rfl, rfl, rfl⟩
  dsimp only [Option.toList, List.cons_append, List.nil_append]
  refine s_Ent_serves_23 (fun h23 => ?_) (fun h23 => ?_)
  · refine s_Ent_serves_34 ?_
    refine s_Ent_serves_35 (by first | rfl | decide | assumption) ?_
    have ee := e01
    simp only [e01] at h23
    rw [if_neg (by rw [hh]; exact fun q => h23 q.1.1)]
    exact ⟨rfl, rfl, rfl, rfl⟩
  · refine s_Ent_serves_26 ?_
    refine s_Ent_serves_27 ?_
    refine s_Ent_serves_28 (b1 := 0) (b2 := b) (by first | rfl | assumption | (simp [*]; done)) (by first | rfl | assumption | (simp [*]; done)) (ex_up (by omega) (sp_has2 (d := d) 0 rfl v1 (by decide))) ?_ (by omega)
    rintro _ _ _ _ ⟨rfl, rfl, rfl, rfl⟩
    dsimp only [Option.toList, List.cons_append, List.nil_append]
    refine s_Ent_serves_31 (fun h31 => ?_) (fun h31 => ?_)
    · refine s_Ent_serves_36 ?_
      refine s_Ent_serves_37 (by first | rfl | assumption | (simp [*]; done)) (by first | rfl | assumption | (simp [*]; done)) ?_
      refine s_Ent_serves_40 (b1 := 0) (b2 := b) (by exact e8) (by exact w1) (sp_hasLifetime y1) ?_ (by omega)
      rintro _ _ _ _ ⟨rfl, rfl, rfl, rfl⟩
      dsimp only [Option.toList, List.cons_append, List.nil_append]
      refine s_Ent_serves_43 (fun h43 => ?_) (fun h43 => ?_)
      · refine s_Ent_serves_52 ?_
        refine s_Ent_serves_53 (by first | rfl | decide | assumption) ?_
        have ee := e01
        simp only [e01] at h23 h31 h43
        rw [if_neg (by rw [hh]; exact fun q => q.2.1 h43)]
        exact ⟨rfl, rfl, rfl, rfl⟩
      · refine s_Ent_serves_46 ?_
        refine s_Ent_serves_47 ?_
        refine s_Ent_serves_49 (fun h49 => ?_) (fun h49 => ?_)
        · refine s_Ent_serves_54 ?_
          refine s_Ent_serves_55 ?_
          refine s_Ent_serves_56 (b1 := 0) (b2 := b) (by first | rfl | assumption | (simp [*]; done)) (by first | rfl | assumption | (simp [*]; done)) (ex_up (by omega) (sp_has2 (d := d) 4 rfl v1 (by decide))) ?_ (by omega)
          rintro _ _ _ _ ⟨rfl, rfl, rfl, rfl⟩
          dsimp only [Option.toList, List.cons_append, List.nil_append]
          refine s_Ent_serves_59 (fun h59 => ?_) (fun h59 => ?_)
          · refine s_Ent_serves_73 ?_
            refine s_Ent_serves_74 ?_
            refine s_Ent_serves_76 (b1 := 0) (b2 := b) (by first | rfl | assumption | (simp [*]; done)) (by first | rfl | assumption | (simp [*]; done)) (ex_up (by omega) (sp_has2 (d := d) 6 rfl v1 (by decide))) ?_ (by omega)
            rintro _ _ _ _ ⟨rfl, rfl, rfl, rfl⟩
            dsimp only [Option.toList, List.cons_append, List.nil_append]
            refine s_Ent_serves_79 (fun h79 => ?_) (fun h79 => ?_)
            · refine s_Ent_serves_95 ?_
              refine s_Ent_serves_96 ?_
              refine s_Ent_serves_100 (by first | rfl | decide | assumption) ?_
              have ee := e01
              simp only [e01] at h23 h31 h43 h59 h79
              rw [if_pos (hh.mpr ⟨⟨h23, h31⟩, h43, h49, (Or.inl h59), (Or.inl h79)⟩)]
              exact ⟨rfl, rfl, rfl, rfl⟩
            · refine s_Ent_serves_82 ?_
              refine s_Ent_serves_83 ?_
              refine s_Ent_serves_84 ?_
              refine s_Ent_serves_86 (b1 := 0) (b2 := b) (by first | rfl | assumption | (simp [*]; done)) (by first | rfl | assumption | (simp [*]; done)) (ex_up (by omega) (sp_number2 (d := d) 6 rfl v1 (by decide))) ?_ (by omega)
              rintro _ _ _ _ ⟨rfl, rfl, rfl, rfl⟩
              dsimp only [Option.toList, List.cons_append, List.nil_append]
              refine s_Ent_serves_89 ?_
              refine s_Ent_serves_90 ?_
              refine s_Ent_serves_92 (fun h92 => ?_) (fun h92 => ?_)
              · refine s_Ent_serves_99 ?_
                refine s_Ent_serves_100 (by first | rfl | decide | assumption) ?_
                have ee := e01
                simp only [e01] at h23 h31 h43 h59 h79
                rw [if_neg (by rw [hh]; exact fun q => q.2.2.2.2.elim h79 (fun r => r h92))]
                exact ⟨rfl, rfl, rfl, rfl⟩
              · refine s_Ent_serves_95 ?_
                refine s_Ent_serves_96 ?_
                refine s_Ent_serves_100 (by first | rfl | decide | assumption) ?_
                have ee := e01
                simp only [e01] at h23 h31 h43 h59 h79
                rw [if_pos (hh.mpr ⟨⟨h23, h31⟩, h43, h49, (Or.inl h59), (Or.inr h92)⟩)]
                exact ⟨rfl, rfl, rfl, rfl⟩
          · refine s_Ent_serves_62 ?_
            refine s_Ent_serves_63 ?_
            refine s_Ent_serves_64 ?_
            refine s_Ent_serves_65 (b1 := 0) (b2 := b) (by first | rfl | assumption | (simp [*]; done)) (by first | rfl | assumption | (simp [*]; done)) (ex_up (by omega) (sp_number2 (d := d) 4 rfl v1 (by decide))) ?_ (by omega)
            rintro _ _ _ _ ⟨rfl, rfl, rfl, rfl⟩
            dsimp only [Option.toList, List.cons_append, List.nil_append]
            refine s_Ent_serves_68 (fun h68 => ?_) (fun h68 => ?_)
            · refine s_Ent_serves_73 ?_
              refine s_Ent_serves_74 ?_
              refine s_Ent_serves_76 (b1 := 0) (b2 := b) (by first | rfl | assumption | (simp [*]; done)) (by first | rfl | assumption | (simp [*]; done)) (ex_up (by omega) (sp_has2 (d := d) 6 rfl v1 (by decide))) ?_ (by omega)
              rintro _ _ _ _ ⟨rfl, rfl, rfl, rfl⟩
              dsimp only [Option.toList, List.cons_append, List.nil_append]
              refine s_Ent_serves_79 (fun h79 => ?_) (fun h79 => ?_)
              · refine s_Ent_serves_95 ?_
                refine s_Ent_serves_96 ?_
                refine s_Ent_serves_100 (by first | rfl | decide | assumption) ?_
                have ee := e01
                simp only [e01] at h23 h31 h43 h59 h79
                rw [if_pos (hh.mpr ⟨⟨h23, h31⟩, h43, h49, (Or.inr (Int32.not_lt.mpr h68)), (Or.inl h79)⟩)]
                exact ⟨rfl, rfl, rfl, rfl⟩
              · refine s_Ent_serves_82 ?_
                refine s_Ent_serves_83 ?_
                refine s_Ent_serves_84 ?_
                refine s_Ent_serves_86 (b1 := 0) (b2 := b) (by first | rfl | assumption | (simp [*]; done)) (by first | rfl | assumption | (simp [*]; done)) (ex_up (by omega) (sp_number2 (d := d) 6 rfl v1 (by decide))) ?_ (by omega)
                rintro _ _ _ _ ⟨rfl, rfl, rfl, rfl⟩
                dsimp only [Option.toList, List.cons_append, List.nil_append]
                refine s_Ent_serves_89 ?_
                refine s_Ent_serves_90 ?_
                refine s_Ent_serves_92 (fun h92 => ?_) (fun h92 => ?_)
                · refine s_Ent_serves_99 ?_
                  refine s_Ent_serves_100 (by first | rfl | decide | assumption) ?_
                  have ee := e01
                  simp only [e01] at h23 h31 h43 h59 h79
                  rw [if_neg (by rw [hh]; exact fun q => q.2.2.2.2.elim h79 (fun r => r h92))]
                  exact ⟨rfl, rfl, rfl, rfl⟩
                · refine s_Ent_serves_95 ?_
                  refine s_Ent_serves_96 ?_
                  refine s_Ent_serves_100 (by first | rfl | decide | assumption) ?_
                  have ee := e01
                  simp only [e01] at h23 h31 h43 h59 h79
                  rw [if_pos (hh.mpr ⟨⟨h23, h31⟩, h43, h49, (Or.inr (Int32.not_lt.mpr h68)), (Or.inr h92)⟩)]
                  exact ⟨rfl, rfl, rfl, rfl⟩
            · refine s_Ent_serves_71 ?_
              refine s_Ent_serves_72 (by first | rfl | decide | assumption) ?_
              have ee := e01
              simp only [e01] at h23 h31 h43 h59
              rw [if_neg (by rw [hh]; exact fun q => q.2.2.2.1.elim h59 (fun r => h68 (Int32.not_lt.mp r)))]
              exact ⟨rfl, rfl, rfl, rfl⟩
        · refine s_Ent_serves_52 ?_
          refine s_Ent_serves_53 (by first | rfl | decide | assumption) ?_
          have ee := e01
          simp only [e01] at h23 h31 h43
          rw [if_neg (by rw [hh]; exact fun q => h49 q.2.2.1)]
          exact ⟨rfl, rfl, rfl, rfl⟩
    · refine s_Ent_serves_34 ?_
      refine s_Ent_serves_35 (by first | rfl | decide | assumption) ?_
      have ee := e01
      simp only [e01] at h23 h31
      rw [if_neg (by rw [hh]; exact fun q => h31 q.1.2)]
      exact ⟨rfl, rfl, rfl, rfl⟩
