/-! One change, all parts: each part is left alone or told anew -/
def lP (L : List (Nat × Nat)) : Nat → Nat → Prop := fun f q => (f, q) ∈ L
theorem im_l {L : List (Nat × Nat)} (h : ∀ x, x ∈ L → x.1 ∈ xmut) : imm (lP L) := fun f q z => h (f, q) z
section RG
variable {P : Nat → Nat → Prop} {K K' : ex_K} {I I' : ex_I} {F F' : ex_F} {a : Nat → Nat} {g : GH} {s s' : MS} {z t : Nat}
theorem Rc_gen (hR : Rc K I F a g z s) (h : xw P K I F K' I' F') (hi : imm P)
    (dr : ((¬ P 22 (a 2) ∧ ¬ P 229 (a 1)) ∧ s'.1 3 = s.1 3 ∧ s'.1 808 = s.1 808) ∨ c_dr I' a s')
    (st : ((¬ P 422 (a 3) ∧ ¬ P 423 (a 3) ∧ ¬ P 35 (a 4) ∧ ∀ p, ¬ P 360 p ∧ ¬ P 361 p) ∧ s'.1 804 = s.1 804 ∧ s'.2 14 = s.2 14) ∨ c_st K' I' F' a g s')
    (uw : ((¬ P 613 (a 5) ∧ ¬ P 36 (a 6)) ∧ s'.2 31 = s.2 31) ∨ c_uw K' I' F' a (s'.2 31))
    (rs : (¬ P 31 (a 8) ∧ s'.1 8 = s.1 8 ∧ s'.1 9 = s.1 9 ∧ s'.1 10 = s.1 10 ∧ s'.1 11 = s.1 11) ∨ c_rs K' I' F' a s')
    (og : ∀ t, t < 3 → t + 10 ≠ z → ((¬ P 676 (a (20 + t)) ∧ ¬ P 677 (a (20 + t)) ∧ ¬ P 678 (a (20 + t))) ∧ s'.1 28 t = s.1 28 t ∧ s'.1 29 t = s.1 29 t ∧ s'.1 (300 + t) = s.1 (300 + t)) ∨ c_or K' I' F' a t (s'.1 28 t) (s'.1 29 t) (s'.1 (300 + t)))
    (cn : ∀ t, t < 3 → t ≠ z → (cnP P (a (30 + t)) (a (40 + t)) ∧ nqP P K I (s.2 (100 + t)) ∧ s'.1 24 t = s.1 24 t ∧ s'.1 25 t = s.1 25 t ∧ s'.1 26 t = s.1 26 t ∧ s'.1 27 t = s.1 27 t ∧ s'.2 (100 + t) = s.2 (100 + t)) ∨ c_cn K' I' F' a g t (s'.1 24 t) (s'.1 25 t) (s'.1 26 t) (s'.1 27 t) (s'.2 (100 + t)))
    (lt : (¬ P 34 (a 11) ∧ (∀ p, (K p).1 = 7 → ¬ P 492 p ∧ ¬ P 493 p ∧ ¬ P 494 p ∧ ¬ P 495 p) ∧ s'.1 17 = s.1 17 ∧ s'.1 18 = s.1 18 ∧ s'.1 19 = s.1 19 ∧ s'.1 20 = s.1 20) ∨ c_lt K' I' F' a g s')
    (sc : ((¬ P 108 (a 0) ∧ ¬ P 109 (a 0) ∧ ¬ P 110 (a 0)) ∧ s'.1 805 0 = s.1 805 0 ∧ s'.1 806 0 = s.1 806 0 ∧ s'.1 820 0 = s.1 820 0) ∨ c_sc I' a s')
    (gh : s'.1 820 0 = s.1 820 0 ∧ s'.1 817 0 = s.1 817 0) : Rc K' I' F' a g z s' := by
  obtain ⟨r1, r2, r3, r4, r5, r6, r7, r8, r9, r10⟩ := hR
  refine ⟨fx_x h hi r1, ?_, ?_, ?_, ?_, fun u hu hz => ?_, fun u hu hz => ?_, ?_, ?_, ?_⟩
  · rcases dr with ⟨⟨p1, p2⟩, e1, e2⟩ | e
    · have := c_dr_x h r1 p1 p2 r2
      unfold c_dr at this ⊢
      rw [e1, e2]
      exact this
    · exact e
  · rcases st with ⟨⟨p1, p2, p3, p4⟩, e1, e2⟩ | e
    · have := c_st_x h hi p1 p2 p3 (fun p => (p4 p).1) (fun p => (p4 p).2) r3
      unfold c_st at this ⊢
      rw [e1, e2]
      exact this
    · exact e
  · rcases uw with ⟨⟨p1, p2⟩, e1⟩ | e
    · rw [e1]
      exact c_uw_x h hi p1 p2 r4
    · exact e
  · rcases rs with ⟨p1, e1, e2, e3, e4⟩ | e
    · have := c_rs_x h hi r1 p1 r5
      unfold c_rs at this ⊢
      rw [e1, e2, e3, e4]
      exact this
    · exact e
  · rcases og u hu hz with ⟨⟨p1, p2, p3⟩, e1, e2, e3⟩ | e
    · rw [e1, e2, e3]
      exact c_or_x h hi r1 hu p1 p2 p3 (r6 u hu hz)
    · exact e
  · rcases cn u hu hz with ⟨p1, p2, e1, e2, e3, e4, e5⟩ | e
    · rw [e1, e2, e3, e4, e5]
      exact c_cn_x h hi r1 hu p1 p2 (r7 u hu hz)
    · exact e
  · rcases lt with ⟨p1, p2, e1, e2, e3, e4⟩ | e
    · have := c_lt_x h hi r1 p1 p2 r8
      unfold c_lt at this ⊢
      rw [e1, e2, e3, e4]
      exact this
    · exact e
  · rcases sc with ⟨⟨p1, p2, p3⟩, e1, e2, e3⟩ | e
    · have := c_sc_x h r1 p1 p2 p3 r9
      unfold c_sc at this ⊢
      rw [e1, e2, e3]
      exact this
    · exact e
  · have := c_gh_x h r10
    unfold c_gh at this ⊢
    rw [gh.1, gh.2]
    exact this
/-- a message is sent -/
theorem Rc_sent {p : Nat} {U : List Nat} {row : Nat → Int32} (hR : Rc K I F a g z s) (hu : uw_rep K I F (a 5) (a 6) U) (hU : f2 (Ms K I F) U (s.2 31)) (hl : U.length < 16) (hp : Ms K I F p row) :
    Rc K (ex_ui I 613 (a 5) 0 (nI (U.length + 1))) (ex_uf F 36 (a 6) U.length (some p)) a g z (tu s 31 (m_snd (s.2 31) row)) ∧ xi K I F K (ex_ui I 613 (a 5) 0 (nI (U.length + 1))) (ex_uf F 36 (a 6) U.length (some p)) := by
  have x1 : xw (uP a) K I F K (ex_ui I 613 (a 5) 0 (nI (U.length + 1))) F := xw_ui (Or.inl ⟨rfl, rfl⟩)
  have x2 : xw (uP a) K (ex_ui I 613 (a 5) 0 (nI (U.length + 1))) F K (ex_ui I 613 (a 5) 0 (nI (U.length + 1))) (ex_uf F 36 (a 6) U.length (some p)) := xw_uf (Or.inr ⟨rfl, rfl⟩)
  have x := xw_trans x1 x2
  refine ⟨Rc_uw hR x ⟨U ++ [p], uw_sent hu hl hp.1, ?_⟩, xi_of x im_u⟩
  have hl2 := f2_len hU
  unfold m_snd
  rw [if_pos (by omega)]
  exact f2_app (f2_mono (fun p _ row hr => Ms_x x im_u hr) hU) ⟨Ms_x x im_u hp, trivial⟩
theorem m_snd_no {U : List (Nat → Int32)} (row : Nat → Int32) (h : U.length = 16) : m_snd U row = U := if_neg (by omega)
end RG
