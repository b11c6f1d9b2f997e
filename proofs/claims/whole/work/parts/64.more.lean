/-! New requests and entries: more names -/
def gx (g g' : GH) : Prop := (∀ r, r ≤ g.2.2.1 → g'.2.1 r = g.2.1 r) ∧ g.2.2.1 ≤ g'.2.2.1 ∧ (∀ k, k ≤ g.2.2.2 → g'.1 k = g.1 k) ∧ g.2.2.2 ≤ g'.2.2.2
section RN
variable {P : Nat → Nat → Prop} {K K' : ex_K} {I I' : ex_I} {F F' : ex_F} {a : Nat → Nat} {g g' : GH} {s s' : MS} {z t : Nat}
theorem gx_rfl : gx g g := ⟨fun _ _ => rfl, Nat.le_refl _, fun _ _ => rfl, Nat.le_refl _⟩
theorem Er_g (h : gx g g') {p : Nat} {row : Nat → Int32} (he : Er K I F g p row) : Er K I F g' p row := by
  obtain ⟨e1, k, e2, e3, e4, e5⟩ := he
  exact ⟨e1, k, e2, e3, Nat.le_trans e4 h.2.2.2, by rw [h.2.2.1 k e4]; exact e5⟩
theorem Rq_g (h : gx g g') {p : Nat} {w : Nat → Int32} (hr : Rq K I F g.1 g.2.2.2 p w) : Rq K I F g'.1 g'.2.2.2 p w := by
  obtain ⟨r1, r2, r3, r4, r5, r6, r7, r8, r9⟩ := hr
  refine ⟨r1, r2, r3, r4, r5, r6, r7, ?_, r9⟩
  rcases r8 with e | ⟨k, e1, e2, e3, e4, e5, e6⟩
  · exact Or.inl e
  · exact Or.inr ⟨k, e1, e2, Nat.le_trans e3 h.2.2.2, by rw [h.2.2.1 k e3]; exact e4, by rw [h.2.2.1 k e3]; exact e5, by rw [h.2.2.1 k e3]; exact e6⟩
theorem Rw_g (h : gx g g') {p : Nat} {w : Nat → Int32} (hr : Rw K I F g p w) : Rw K I F g' p w := by
  obtain ⟨r1, r2, r3, r4, r, r5, r6, r7, r8⟩ := hr
  exact ⟨Rq_g h r1, r2, r3, r4, r, r5, r6, Nat.le_trans r7 h.2.1, by rw [h.1 r r7]; exact r8⟩
theorem c_q_g (h : gx g g') {cn qa : Nat} {Q : List (Nat → Int32)} (hc : c_q K I F g cn qa Q) : c_q K I F g' cn qa Q := by
  obtain ⟨L, q1, q2⟩ := hc
  exact ⟨L, f2_mono (fun p _ w hr => Rw_g h hr) q1, q2⟩
theorem c_cn_g (h : gx g g') {n b l d : Int32} {Q : List (Nat → Int32)} (hc : c_cn K I F a g t n b l d Q) : c_cn K I F a g' t n b l d Q := ⟨hc.1, c_q_g h hc.2.1, hc.2.2⟩
theorem c_st_g (h : gx g g') (hc : c_st K I F a g s) : c_st K I F a g' s := by
  obtain ⟨S, c, e1, e2, e3⟩ := hc
  exact ⟨S, c, e1, e2, f2_mono (fun p _ row hr => Er_g h hr) e3⟩
def gN (g : GH) (p : Nat) : GH := (g.1, fun r => if r = g.2.2.1 + 1 then p else g.2.1 r, g.2.2.1 + 1, g.2.2.2)
theorem gx_N {p : Nat} : gx g (gN g p) := ⟨fun r hr => if_neg (by omega), Nat.le_succ _, fun _ _ => rfl, Nat.le_refl _⟩
def nPl (a : Nat → Nat) : List (Nat × Nat) := [(110, a 0), (34, a 11)]
theorem m_next_e (hR : Rc K I F a g z s) : s.1 820 0 + 1 = nI (g.2.2.1 + 1) := by
  rw [hR.2.2.2.2.2.2.2.2.2.1, nI_1]
/-- a request is made and kept -/
theorem Rc_next {p : Nat} (hR : Rc K I F a g z s) (hM : g.2.2.1 + 1 < 2 ^ 30) (h : xw (lP (nPl a)) K I F K' I' F') (kp : (K' p).1 = 7) (n1 : I' 484 p 0 = nI (g.2.2.1 + 1)) (z1 : I' 492 p 0 = 0) (z2 : I' 493 p 0 = 0) (z3 : I' 494 p 0 = 0) (z4 : I' 495 p 0 = 0)
    (hl : ∀ j, F' 34 (a 11) j = if j = sl (g.2.2.1 + 1) then some p else F 34 (a 11) j) (hn : I' 110 (a 0) 0 = nI (g.2.2.1 + 1)) : Rc K' I' F' a (gN g p) z (m_next s) := by
  have hi : imm (lP (nPl a)) := im_l (by simp [nPl, xmut])
  have hm := m_next_e hR
  obtain ⟨r1, r2, r3, r4, r5, r6, r7, r8, r9, r10⟩ := hR
  have n0 : ∀ f q, f ≠ 110 → f ≠ 34 → ¬ lP (nPl a) f q := fun f q h1 h2 => by simp [lP, nPl, h1, h2]
  have q2 : ∀ j, (m_next s).2 j = s.2 j := fun j => by unfold m_next; rw [m_rep_2]; rfl
  have q1 : ∀ k, k ∉ [17, 18, 19, 20, 820] → (m_next s).1 k = s.1 k := fun k hk => by
    unfold m_next
    rw [m_rep_1 _ _ _ _ _ _ (fun w => hk (List.mem_append_left [820] w)), cw_ne _ _ _ (fun w => hk (by rw [w]; decide))]
  have qM : (m_next s).1 820 0 = nI (g.2.2.1 + 1) := by
    unfold m_next
    rw [m_rep_1 _ _ _ _ _ _ (by decide), cw_at, hm]
    exact if_pos rfl
  have gne : ∀ r, r ≤ g.2.2.1 → (gN g p).2.1 r = g.2.1 r := fun r hr => if_neg (by omega)
  have gp : (gN g p).2.1 (g.2.2.1 + 1) = p := if_pos rfl
  refine ⟨fx_x h hi r1, ?_, ?_, ?_, ?_, fun u hu hz => ?_, fun u hu hz => ?_, ?_, ?_, ?_⟩
  · have := c_dr_x h r1 (n0 _ _ (by decide) (by decide)) (n0 _ _ (by decide) (by decide)) r2
    unfold c_dr at this ⊢
    rw [q1 3 (by decide), q1 808 (by decide)]
    exact this
  · have := c_st_g (gx_N (p := p)) (c_st_x h hi (n0 _ _ (by decide) (by decide)) (n0 _ _ (by decide) (by decide)) (n0 _ _ (by decide) (by decide)) (fun _ => n0 _ _ (by decide) (by decide)) (fun _ => n0 _ _ (by decide) (by decide)) r3)
    unfold c_st at this ⊢
    rw [q1 804 (by decide), q2 14]
    exact this
  · rw [q2 31]
    exact c_uw_x h hi (n0 _ _ (by decide) (by decide)) (n0 _ _ (by decide) (by decide)) r4
  · have := c_rs_x h hi r1 (n0 _ _ (by decide) (by decide)) r5
    unfold c_rs at this ⊢
    rw [q1 8 (by decide), q1 9 (by decide), q1 10 (by decide), q1 11 (by decide)]
    exact this
  · have n : 300 + u ∉ [17, 18, 19, 20, 820] := by simp; omega
    rw [q1 28 (by decide), q1 29 (by decide), q1 (300 + u) n]
    exact c_or_x h hi r1 hu (n0 _ _ (by decide) (by decide)) (n0 _ _ (by decide) (by decide)) (n0 _ _ (by decide) (by decide)) (r6 u hu hz)
  · rw [q1 24 (by decide), q1 25 (by decide), q1 26 (by decide), q1 27 (by decide), q2 (100 + u)]
    have m2 : ¬ lP (nPl a) 34 (a (40 + u)) := by
      have := r1.2.2.2.2 u hu
      simp [lP, nPl, this]
    exact c_cn_g gx_N (c_cn_x h hi r1 hu ⟨n0 _ _ (by decide) (by decide), n0 _ _ (by decide) (by decide), n0 _ _ (by decide) (by decide), n0 _ _ (by decide) (by decide), n0 _ _ (by decide) (by decide), n0 _ _ (by decide) (by decide), n0 _ _ (by decide) (by decide), m2⟩ (nqP_all (fun _ => n0 _ _ (by decide) (by decide)) (fun _ => n0 _ _ (by decide) (by decide)) (fun _ => n0 _ _ (by decide) (by decide)) (fun _ => n0 _ _ (by decide) (by decide)) _) (r7 u hu hz))
  · refine ⟨fun r a1 a2 => ?_, fun r a1 a2 a3 => ?_⟩
    · by_cases e : r = g.2.2.1 + 1
      · subst e
        rw [gp]
        exact ⟨kp, n1⟩
      · have a2' : r ≤ g.2.2.1 + 1 := a2
        rw [gne r (by omega)]
        obtain ⟨b1, b2⟩ := r8.1 r a1 (by omega)
        exact ⟨xw_K h (by decide) b1, by rw [xw_i h (by decide) b1 (n0 _ _ (by decide) (by decide))]; exact b2⟩
    · have a2' : r ≤ g.2.2.1 + 1 := a2
      have a3' : g.2.2.1 + 1 < r + 16 := a3
      have hcond : (cw s 820 0 (s.1 820 0 + 1)).1 820 0 - 16 < s.1 820 0 + 1 := by
        rw [cw_at, hm]
        show (if (0 : Nat) = 0 then nI (g.2.2.1 + 1) else s.1 820 0) - 16 < nI (g.2.2.1 + 1)
        rw [if_pos rfl]
        exact (sl_win (by omega) (by omega)).mpr (by omega)
      rw [hl]
      unfold m_next m_rep
      rw [if_pos hcond, hm]
      by_cases e : r = g.2.2.1 + 1
      · subst e
        rw [gp, if_pos rfl]
        refine ⟨rfl, ?_, ?_, ?_, ?_⟩
        · rw [z1, cw_ne _ _ _ (by decide), cw_ne _ _ _ (by decide), cw_ne _ _ _ (by decide), cw_at]
          exact (if_pos rfl).symm
        · rw [z2, cw_ne _ _ _ (by decide), cw_ne _ _ _ (by decide), cw_at, cw_ne _ _ _ (by decide)]
          exact (if_pos rfl).symm
        · rw [z3, cw_ne _ _ _ (by decide), cw_at, cw_ne _ _ _ (by decide), cw_ne _ _ _ (by decide)]
          exact (if_pos rfl).symm
        · rw [z4, cw_at, cw_ne _ _ _ (by decide), cw_ne _ _ _ (by decide), cw_ne _ _ _ (by decide)]
          exact (if_pos rfl).symm
      · have b1 := (r8.1 r a1 (by omega)).1
        obtain ⟨c1, c2, c3, c4, c5⟩ := r8.2 r a1 (by omega) (by omega)
        have ns : sl r ≠ sl (g.2.2.1 + 1) := by rw [sl_eq, sl_eq]; omega
        have nu : ∀ (X : Nat → Int32) (x : Int32), upd1 X (nI (g.2.2.1 + 1) &&& 15).toNatClampNeg x (sl r) = X (sl r) := fun X x => if_neg ns
        rw [if_neg ns, gne r (by omega)]
        refine ⟨c1, ?_, ?_, ?_, ?_⟩
        · rw [xw_i h (by decide) b1 (n0 _ _ (by decide) (by decide)), c2, cw_ne _ _ _ (by decide), cw_ne _ _ _ (by decide), cw_ne _ _ _ (by decide), cw_at, nu, cw_ne _ _ _ (by decide)]
        · rw [xw_i h (by decide) b1 (n0 _ _ (by decide) (by decide)), c3, cw_ne _ _ _ (by decide), cw_ne _ _ _ (by decide), cw_at, cw_ne _ _ _ (by decide), nu, cw_ne _ _ _ (by decide)]
        · rw [xw_i h (by decide) b1 (n0 _ _ (by decide) (by decide)), c4, cw_ne _ _ _ (by decide), cw_at, cw_ne _ _ _ (by decide), cw_ne _ _ _ (by decide), nu, cw_ne _ _ _ (by decide)]
        · rw [xw_i h (by decide) b1 (n0 _ _ (by decide) (by decide)), c5, cw_at, cw_ne _ _ _ (by decide), cw_ne _ _ _ (by decide), cw_ne _ _ _ (by decide), nu, cw_ne _ _ _ (by decide)]
  · refine ⟨?_, ?_, ?_⟩
    · rw [q1 805 (by decide), xw_i h (by decide) r1.1.1 (n0 _ _ (by decide) (by decide))]; exact r9.1
    · rw [q1 806 (by decide), xw_i h (by decide) r1.1.1 (n0 _ _ (by decide) (by decide))]; exact r9.2.1
    · rw [qM, hn]
  · refine ⟨qM, hM, ?_, r10.2.2.2.1, fun k k1 k2 => ⟨xw_K h (by decide) (r10.2.2.2.2 k k1 k2).1, (r10.2.2.2.2 k k1 k2).2⟩⟩
    rw [q1 817 (by decide)]
    exact r10.2.2.1
/-- the store: more names -/
def stP : Nat → Nat → Prop := fun f _ => f = 422 ∨ f = 423 ∨ f = 35
theorem im_st : imm stP := fun f q h => by rcases h with rfl | rfl | rfl <;> decide
theorem Rc_st2 {L : List (Nat → Int32)} {x : Int32} (hR : Rc K I F a g z s) (h : xw stP K I F K' I' F') (hx : gx g g') (hM : g'.2.2.1 = g.2.2.1) (hc : c_st K' I' F' a g' (tu (cw s 817 0 x) 14 L)) (hg : c_gh K' g' (tu (cw s 817 0 x) 14 L)) : Rc K' I' F' a g' z (tu (cw s 817 0 x) 14 L) := by
  have hi := im_st
  have n0 : ∀ f q, f ≠ 422 → f ≠ 423 → f ≠ 35 → ¬ stP f q := fun f q h1 h2 h3 w => by rcases w with w | w | w <;> contradiction
  obtain ⟨r1, r2, r3, r4, r5, r6, r7, r8, r9, r10⟩ := hR
  refine ⟨fx_x h hi r1, c_dr_x h r1 (n0 _ _ (by decide) (by decide) (by decide)) (n0 _ _ (by decide) (by decide) (by decide)) r2, hc, ?_, c_rs_x h hi r1 (n0 _ _ (by decide) (by decide) (by decide)) r5, fun u hu hz => ?_, fun u hu hz => ?_, ?_, c_sc_x h r1 (n0 _ _ (by decide) (by decide) (by decide)) (n0 _ _ (by decide) (by decide) (by decide)) (n0 _ _ (by decide) (by decide) (by decide)) r9, hg⟩
  · rw [tu_ne _ _ (by decide)]
    exact c_uw_x h hi (n0 _ _ (by decide) (by decide) (by decide)) (n0 _ _ (by decide) (by decide) (by decide)) r4
  · have e : (tu (cw s 817 0 x) 14 L).1 (300 + u) = s.1 (300 + u) := cw_ne _ _ _ (by omega)
    rw [e]
    exact c_or_x h hi r1 hu (n0 _ _ (by decide) (by decide) (by decide)) (n0 _ _ (by decide) (by decide) (by decide)) (n0 _ _ (by decide) (by decide) (by decide)) (r6 u hu hz)
  · rw [tu_ne _ _ (by omega)]
    exact c_cn_g hx (c_cn_x h hi r1 hu ⟨n0 _ _ (by decide) (by decide) (by decide), n0 _ _ (by decide) (by decide) (by decide), n0 _ _ (by decide) (by decide) (by decide), n0 _ _ (by decide) (by decide) (by decide), n0 _ _ (by decide) (by decide) (by decide), n0 _ _ (by decide) (by decide) (by decide), n0 _ _ (by decide) (by decide) (by decide), n0 _ _ (by decide) (by decide) (by decide)⟩ (nqP_all (fun _ => n0 _ _ (by decide) (by decide) (by decide)) (fun _ => n0 _ _ (by decide) (by decide) (by decide)) (fun _ => n0 _ _ (by decide) (by decide) (by decide)) (fun _ => n0 _ _ (by decide) (by decide) (by decide)) _) (r7 u hu hz))
  · have := c_lt_x h hi r1 (n0 _ _ (by decide) (by decide) (by decide)) (fun _ _ => ⟨n0 _ _ (by decide) (by decide) (by decide), n0 _ _ (by decide) (by decide) (by decide), n0 _ _ (by decide) (by decide) (by decide), n0 _ _ (by decide) (by decide) (by decide)⟩) r8
    refine ⟨fun r a1 a2 => ?_, fun r a1 a2 a3 => ?_⟩
    · rw [hM] at a2
      rw [hx.1 r a2]
      exact this.1 r a1 a2
    · rw [hM] at a2 a3
      rw [hx.1 r a2]
      exact this.2 r a1 a2 a3
/-- the store: no new name -/
theorem Rc_st1 {L : List (Nat → Int32)} (hR : Rc K I F a g z s) (h : xw stP K I F K' I' F') (hc : c_st K' I' F' a g (tu s 14 L)) : Rc K' I' F' a g z (tu s 14 L) := by
  have n0 : ∀ f q, f ≠ 422 → f ≠ 423 → f ≠ 35 → ¬ stP f q := fun f q h1 h2 h3 w => by rcases w with w | w | w <;> contradiction
  refine Rc_gen hR h im_st (Or.inl ⟨⟨n0 _ _ (by decide) (by decide) (by decide), n0 _ _ (by decide) (by decide) (by decide)⟩, rfl, rfl⟩) (Or.inr hc) (Or.inl ⟨⟨n0 _ _ (by decide) (by decide) (by decide), n0 _ _ (by decide) (by decide) (by decide)⟩, tu_ne _ _ (by decide)⟩) (Or.inl ⟨n0 _ _ (by decide) (by decide) (by decide), rfl, rfl, rfl, rfl⟩) (fun u hu _ => Or.inl ⟨⟨n0 _ _ (by decide) (by decide) (by decide), n0 _ _ (by decide) (by decide) (by decide), n0 _ _ (by decide) (by decide) (by decide)⟩, rfl, rfl, rfl⟩) (fun u hu hz => Or.inl ⟨⟨n0 _ _ (by decide) (by decide) (by decide), n0 _ _ (by decide) (by decide) (by decide), n0 _ _ (by decide) (by decide) (by decide), n0 _ _ (by decide) (by decide) (by decide), n0 _ _ (by decide) (by decide) (by decide), n0 _ _ (by decide) (by decide) (by decide), n0 _ _ (by decide) (by decide) (by decide), n0 _ _ (by decide) (by decide) (by decide)⟩, nqP_all (fun _ => n0 _ _ (by decide) (by decide) (by decide)) (fun _ => n0 _ _ (by decide) (by decide) (by decide)) (fun _ => n0 _ _ (by decide) (by decide) (by decide)) (fun _ => n0 _ _ (by decide) (by decide) (by decide)) _, rfl, rfl, rfl, rfl, tu_ne _ _ (by omega)⟩) (Or.inl ⟨n0 _ _ (by decide) (by decide) (by decide), fun _ _ => ⟨n0 _ _ (by decide) (by decide) (by decide), n0 _ _ (by decide) (by decide) (by decide), n0 _ _ (by decide) (by decide) (by decide), n0 _ _ (by decide) (by decide) (by decide)⟩, rfl, rfl, rfl, rfl⟩) (Or.inl ⟨⟨n0 _ _ (by decide) (by decide) (by decide), n0 _ _ (by decide) (by decide) (by decide), n0 _ _ (by decide) (by decide) (by decide)⟩, rfl, rfl, rfl⟩) ⟨rfl, rfl⟩
end RN
theorem f2_fix {α β : Type} {R : α → β → Prop} {p : α → Bool} {q : β → Bool} (hpq : ∀ a b, R a b → p a = q b) : ∀ {l : List α} {m : List β} (i : Nat), f2 R l m → fix p l i = fix q m i := by
  intro l
  induction l with
  | nil =>
    intro m i h
    cases m with
    | nil => rfl
    | cons b m => exact h.elim
  | cons x l ih =>
    intro m i h
    cases m with
    | nil => exact h.elim
    | cons y m => rw [fix, fix, hpq x y h.1, ih (i + 1) h.2]
theorem find_fix {α : Type} (p : α → Bool) : ∀ (l : List α), l.find? p = (fix p l 0).bind (fun i => l[i]?) := by
  have gen : ∀ (l : List α) (i : Nat) (pre : List α), pre.length = i → l.find? p = (fix p l i).bind (fun j => (pre ++ l)[j]?) := by
    intro l
    induction l with
    | nil => intro i pre _; rfl
    | cons x l ih =>
      intro i pre hp
      by_cases hx : p x = true
      · rw [List.find?_cons_of_pos hx, fix, if_pos hx]
        simp [← hp]
      · rw [List.find?_cons_of_neg hx, fix, if_neg hx, ih (i + 1) (pre ++ [x]) (by simp [hp])]
        simp
  intro l
  exact gen l 0 [] rfl
