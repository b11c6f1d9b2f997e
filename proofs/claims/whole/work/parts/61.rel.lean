/-! The class beside the state: a names its cells, g the entries by name and the requests by number -/
abbrev GH : Type := (Nat → Nat) × (Nat → Nat) × Nat × Nat
def cn_none : Nat → Int32 := fun j => match j with
  | 0 => 0
  | _ => -1
def fx_t (K : ex_K) (I : ex_I) (F : ex_F) (a : Nat → Nat) (t : Nat) : Prop :=
  F 32 (a 9) t = some (a (20 + t)) ∧ (K (a (20 + t))).1 = 10 ∧ F 33 (a 10) t = some (a (30 + t)) ∧ (K (a (30 + t))).1 = 11 ∧ I 740 (a (30 + t)) 0 = nI t ∧ F 741 (a (30 + t)) 0 = some (a (50 + t)) ∧ Ms K I F (a (50 + t)) (prow (nI t)) ∧ F 742 (a (30 + t)) 0 = some (a (40 + t)) ∧ K (a (40 + t)) = (34, 4)
def fa (a : Nat → Nat) : Prop := (∀ t u, t < 3 → u < 3 → t ≠ u → a (20 + t) ≠ a (20 + u) ∧ a (30 + t) ≠ a (30 + u) ∧ a (40 + t) ≠ a (40 + u)) ∧ ∀ t, t < 3 → a (40 + t) ≠ a 11
def fx_a (K : ex_K) (F : ex_F) (a : Nat → Nat) : Prop := (K (a 0)).1 = 1 ∧ F 100 (a 0) 0 = some (a 1) ∧ F 101 (a 0) 0 = some (a 3) ∧ F 102 (a 0) 0 = some (a 5) ∧ F 103 (a 0) 0 = some (a 7) ∧ F 104 (a 0) 0 = some (a 8) ∧ F 105 (a 0) 0 = some (a 9) ∧ F 106 (a 0) 0 = some (a 10) ∧ F 107 (a 0) 0 = some (a 11)
def fx_b (K : ex_K) (I : ex_I) (F : ex_F) (a : Nat → Nat) : Prop := dr_ok K F (a 1) (a 2) ∧ K (a 8) = (31, 8) ∧ K (a 9) = (32, 3) ∧ K (a 10) = (33, 3) ∧ K (a 11) = (34, 16) ∧ Rs K I F (a 7) 0 0 0 cn_none
def fx_ok (K : ex_K) (I : ex_I) (F : ex_F) (a : Nat → Nat) : Prop := fx_a K F a ∧ fx_b K I F a ∧ (∀ t, t < 3 → fx_t K I F a t) ∧ fa a
def sl (r : Nat) : Nat := (nI r &&& 15).toNatClampNeg
def c_dr (I : ex_I) (a : Nat → Nat) (s : MS) : Prop := I 22 (a 2) = s.1 3 ∧ I 229 (a 1) 0 = s.1 808 0 ∧ ∃ n, s.1 808 0 = nI n ∧ n ≤ 40
def Er (K : ex_K) (I : ex_I) (F : ex_F) (g : GH) (p : Nat) (row : Nat → Int32) : Prop := En K I F p row ∧ ∃ k, row 0 = nI k ∧ 1 ≤ k ∧ k ≤ g.2.2.2 ∧ g.1 k = p
def c_st (K : ex_K) (I : ex_I) (F : ex_F) (a : Nat → Nat) (g : GH) (s : MS) : Prop := ∃ S c, s.1 804 0 = nI c ∧ st_rep K I F (a 3) (a 4) c S ∧ f2 (Er K I F g) S (s.2 14)
def c_uw (K : ex_K) (I : ex_I) (F : ex_F) (a : Nat → Nat) (L : List (Nat → Int32)) : Prop := ∃ U, uw_rep K I F (a 5) (a 6) U ∧ f2 (Ms K I F) U L
def c_rs (K : ex_K) (I : ex_I) (F : ex_F) (a : Nat → Nat) (s : MS) : Prop := ∀ p, p < 8 → ∃ q, F 31 (a 8) p = some q ∧ ((s.1 8 p = 0 ∧ q = a 7) ∨ (¬ s.1 8 p = 0 ∧ Rs K I F q (s.1 8 p) (s.1 9 p) (s.1 10 p) (fun j => s.1 11 (4 * p + j))))
def c_or (K : ex_K) (I : ex_I) (F : ex_F) (a : Nat → Nat) (t : Nat) (x y : Int32) (row : Nat → Int32) : Prop := I 676 (a (20 + t)) 0 = (if x = 0 then 1 else 0) ∧ I 677 (a (20 + t)) 0 = y ∧ (¬ y = 0 → ∃ p, F 678 (a (20 + t)) 0 = some p ∧ Ms K I F p row)
def Rw (K : ex_K) (I : ex_I) (F : ex_F) (g : GH) (p : Nat) (w : Nat → Int32) : Prop := Rq K I F g.1 g.2.2.2 p w ∧ I 493 p 0 = 0 ∧ I 494 p 0 = 0 ∧ I 495 p 0 = 0 ∧ ∃ r, w 0 = nI r ∧ 1 ≤ r ∧ r ≤ g.2.2.1 ∧ g.2.1 r = p
def c_q (K : ex_K) (I : ex_I) (F : ex_F) (g : GH) (cn qa : Nat) (Q : List (Nat → Int32)) : Prop := ∃ P, f2 (Rw K I F g) P Q ∧ I 743 cn 0 = nI Q.length ∧ Q.length ≤ 4 ∧ (∀ i p, P[i]? = some p → F 34 qa i = some p) ∧ ∀ j y, F 34 qa j = some y → (K y).1 = 7
/-- what is under work -/
def c_w (K : ex_K) (I : ex_I) (F : ex_F) (cn t : Nat) (n b : Int32) (Q : List (Nat → Int32)) : Prop := (Q = [] → F 745 cn 0 = none) ∧ (∀ w Q', Q = w :: Q' → I 746 cn 0 = b ∧ ∃ p, F 745 cn 0 = some p ∧ Ms K I F p (rqr (nI t) n w))
def c_n (I : ex_I) (cn : Nat) (n b l d : Int32) (Q : List (Nat → Int32)) : Prop := I 748 cn 0 = d ∧ I 744 cn 0 = n ∧ (d = 0 → I 747 cn 0 = l) ∧ (¬ d = 0 → I 749 cn 0 = b ∧ Q = [])
def c_cn (K : ex_K) (I : ex_I) (F : ex_F) (a : Nat → Nat) (g : GH) (t : Nat) (n b l d : Int32) (Q : List (Nat → Int32)) : Prop := c_n I (a (30 + t)) n b l d Q ∧ c_q K I F g (a (30 + t)) (a (40 + t)) Q ∧ c_w K I F (a (30 + t)) t n b Q
def c_lt (K : ex_K) (I : ex_I) (F : ex_F) (a : Nat → Nat) (g : GH) (s : MS) : Prop := (∀ r, 1 ≤ r → r ≤ g.2.2.1 → (K (g.2.1 r)).1 = 7 ∧ I 484 (g.2.1 r) 0 = nI r) ∧ ∀ r, 1 ≤ r → r ≤ g.2.2.1 → g.2.2.1 < r + 16 → F 34 (a 11) (sl r) = some (g.2.1 r) ∧ I 492 (g.2.1 r) 0 = s.1 17 (sl r) ∧ I 493 (g.2.1 r) 0 = s.1 18 (sl r) ∧ I 494 (g.2.1 r) 0 = s.1 19 (sl r) ∧ I 495 (g.2.1 r) 0 = s.1 20 (sl r)
def c_sc (I : ex_I) (a : Nat → Nat) (s : MS) : Prop := I 108 (a 0) 0 = s.1 805 0 ∧ I 109 (a 0) 0 = s.1 806 0 ∧ I 110 (a 0) 0 = s.1 820 0
def c_gh (K : ex_K) (g : GH) (s : MS) : Prop := s.1 820 0 = nI g.2.2.1 ∧ g.2.2.1 < 2 ^ 30 ∧ s.1 817 0 = nI g.2.2.2 ∧ g.2.2.2 < 2 ^ 30 ∧ ∀ k, 1 ≤ k → k ≤ g.2.2.2 → (K (g.1 k)).1 = 5 ∧ ∀ j, 1 ≤ j → j ≤ g.2.2.2 → g.1 j = g.1 k → j = k
/-- z: the connection that is left open, or 10 + the origin (3: none) -/
def Rc (K : ex_K) (I : ex_I) (F : ex_F) (a : Nat → Nat) (g : GH) (z : Nat) (s : MS) : Prop :=
  fx_ok K I F a ∧ c_dr I a s ∧ c_st K I F a g s ∧ c_uw K I F a (s.2 31) ∧ c_rs K I F a s ∧ (∀ t, t < 3 → t + 10 ≠ z → c_or K I F a t (s.1 28 t) (s.1 29 t) (s.1 (300 + t))) ∧ (∀ t, t < 3 → t ≠ z → c_cn K I F a g t (s.1 24 t) (s.1 25 t) (s.1 26 t) (s.1 27 t) (s.2 (100 + t))) ∧ c_lt K I F a g s ∧ c_sc I a s ∧ c_gh K g s
section RX
variable {P : Nat → Nat → Prop} {K K' : ex_K} {I I' : ex_I} {F F' : ex_F} {a : Nat → Nat} {g : GH} {s : MS} {z t : Nat}
theorem xw_i (h : xw P K I F K' I' F') {c k : Nat} (hk : k ≠ 0) (ha : (K c).1 = k) {f : Nat} (hf : ¬ P f c) : I' f c = I f c := ((h c (by rw [ha]; exact hk)).2 f hf).1
theorem xw_f (h : xw P K I F K' I' F') {c k : Nat} (hk : k ≠ 0) (ha : (K c).1 = k) {f : Nat} (hf : ¬ P f c) : F' f c = F f c := ((h c (by rw [ha]; exact hk)).2 f hf).2
theorem xw_k (h : xw P K I F K' I' F') {c : Nat} {k : Nat × Nat} (hk : k.1 ≠ 0) (ha : K c = k) : K' c = k := by rw [(h c (by rw [ha]; exact hk)).1, ha]
theorem im_n (hP : imm P) {f c : Nat} (h : f ∉ xmut) : ¬ P f c := fun z => h (hP f c z)
theorem fx_t_x (h : xw P K I F K' I' F') (hP : imm P) (k9 : (K (a 9)).1 = 32) (k10 : (K (a 10)).1 = 33) (hf : fx_t K I F a t) : fx_t K' I' F' a t := by
  obtain ⟨f1, f2, f3, f4, f5, f6, f7, f8, f9⟩ := hf
  refine ⟨?_, xw_K h (by decide) f2, ?_, xw_K h (by decide) f4, ?_, ?_, Ms_x h hP f7, ?_, xw_k h (by decide) f9⟩
  · rw [xw_f h (by decide) k9 (im_n hP (by decide))]; exact f1
  · rw [xw_f h (by decide) k10 (im_n hP (by decide))]; exact f3
  · rw [xw_i h (by decide) f4 (im_n hP (by decide))]; exact f5
  · rw [xw_f h (by decide) f4 (im_n hP (by decide))]; exact f6
  · rw [xw_f h (by decide) f4 (im_n hP (by decide))]; exact f8
theorem fx_x (h : xw P K I F K' I' F') (hP : imm P) (hf : fx_ok K I F a) : fx_ok K' I' F' a := by
  obtain ⟨⟨x0, x1, x2, x3, x4, x5, x6, x7, x8⟩, ⟨⟨d1, d2, d3⟩, y2, y3, y4, y5, y6⟩, ht, hn⟩ := hf
  refine ⟨⟨xw_K h (by decide) x0, ?_, ?_, ?_, ?_, ?_, ?_, ?_, ?_⟩, ⟨⟨xw_K h (by decide) d1, ?_, xw_k h (by decide) d3⟩, xw_k h (by decide) y2, xw_k h (by decide) y3, xw_k h (by decide) y4, xw_k h (by decide) y5, Rs_x h hP y6⟩, fun t h3 => fx_t_x h hP (by rw [y3]) (by rw [y4]) (ht t h3), hn⟩
  · rw [xw_f h (by decide) x0 (im_n hP (by decide))]; exact x1
  · rw [xw_f h (by decide) x0 (im_n hP (by decide))]; exact x2
  · rw [xw_f h (by decide) x0 (im_n hP (by decide))]; exact x3
  · rw [xw_f h (by decide) x0 (im_n hP (by decide))]; exact x4
  · rw [xw_f h (by decide) x0 (im_n hP (by decide))]; exact x5
  · rw [xw_f h (by decide) x0 (im_n hP (by decide))]; exact x6
  · rw [xw_f h (by decide) x0 (im_n hP (by decide))]; exact x7
  · rw [xw_f h (by decide) x0 (im_n hP (by decide))]; exact x8
  · rw [xw_f h (by decide) d1 (im_n hP (by decide))]; exact d2
theorem c_dr_x (h : xw P K I F K' I' F') (hf : fx_ok K I F a) (h1 : ¬ P 22 (a 2)) (h2 : ¬ P 229 (a 1)) (hc : c_dr I a s) : c_dr I' a s := by
  obtain ⟨d1, d2, d3⟩ := hf.2.1.1
  refine ⟨?_, ?_, hc.2.2⟩
  · rw [xw_i h (k := 22) (by decide) (by rw [d3]) h1]; exact hc.1
  · rw [xw_i h (by decide) d1 h2]; exact hc.2.1
theorem c_sc_x (h : xw P K I F K' I' F') (hf : fx_ok K I F a) (h1 : ¬ P 108 (a 0)) (h2 : ¬ P 109 (a 0)) (h3 : ¬ P 110 (a 0)) (hc : c_sc I a s) : c_sc I' a s := by
  have x0 := hf.1.1
  refine ⟨?_, ?_, ?_⟩
  · rw [xw_i h (by decide) x0 h1]; exact hc.1
  · rw [xw_i h (by decide) x0 h2]; exact hc.2.1
  · rw [xw_i h (by decide) x0 h3]; exact hc.2.2
theorem c_gh_x (h : xw P K I F K' I' F') (hc : c_gh K g s) : c_gh K' g s :=
  ⟨hc.1, hc.2.1, hc.2.2.1, hc.2.2.2.1, fun k h1 h2 => ⟨xw_K h (by decide) (hc.2.2.2.2 k h1 h2).1, (hc.2.2.2.2 k h1 h2).2⟩⟩
theorem c_uw_x (h : xw P K I F K' I' F') (hP : imm P) (h1 : ¬ P 613 (a 5)) (h2 : ¬ P 36 (a 6)) {L : List (Nat → Int32)} (hc : c_uw K I F a L) : c_uw K' I' F' a L := by
  obtain ⟨U, ⟨u1, u2, u3, u4, u5, u6, u7⟩, hU⟩ := hc
  have e6 : F' 36 (a 6) = F 36 (a 6) := xw_f h (k := 36) (by decide) (by rw [u3]) h2
  refine ⟨U, ⟨xw_K h (by decide) u1, ?_, xw_k h (by decide) u3, ?_, u5, ?_, ?_⟩, f2_mono (fun p _ row hr => Ms_x h hP hr) hU⟩
  · rw [xw_f h (by decide) u1 (im_n hP (by decide))]; exact u2
  · rw [xw_i h (by decide) u1 h1]; exact u4
  · rw [e6]; exact u6
  · rw [e6]; exact fun j y hy => xw_K h (by decide) (u7 j y hy)
theorem ent_ok_x (h : xw P K I F K' I' F') (hP : imm P) {p : Nat} (he : ent_ok K I F p) : ent_ok K' I' F' p ∧ szN I' F' p = szN I F p := by
  obtain ⟨e1, q, n, e2, e3, e4, e5⟩ := he
  have f1 : F' 358 p = F 358 p := xw_f h (by decide) e1 (im_n hP (by decide))
  have f2 : I' 293 q = I 293 q := xw_i h (by decide) e3 (im_n hP (by decide))
  refine ⟨⟨xw_K h (by decide) e1, q, n, by rw [f1]; exact e2, xw_K h (by decide) e3, by rw [f2]; exact e4, e5⟩, ?_⟩
  unfold szN
  rw [f1, e2, Option.getD_some, f2]
theorem map_eq_of {g1 g2 : Nat → Nat} : ∀ S : List Nat, (∀ p, p ∈ S → g1 p = g2 p) → S.map g1 = S.map g2 := by
  intro S
  induction S with
  | nil => intro _; rfl
  | cons x S ih =>
    intro hS
    rw [List.map_cons, List.map_cons, hS x List.mem_cons_self, ih (fun p hp => hS p (List.mem_cons_of_mem _ hp))]
theorem st_rep_x (h : xw P K I F K' I' F') (hP : imm P) {st rw c : Nat} {S : List Nat} (h1 : ¬ P 422 st) (h2 : ¬ P 423 st) (h3 : ¬ P 35 rw) (hs : st_rep K I F st rw c S) : st_rep K' I' F' st rw c S := by
  obtain ⟨u1, u2, u3, u4, u5, u6, u7, u8, u9, u10, u11⟩ := hs
  have e6 : F' 35 rw = F 35 rw := xw_f h (k := 35) (by decide) (by rw [u3]) h3
  have em : S.map (szN I' F') = S.map (szN I F) := map_eq_of S (fun p hp => (ent_ok_x h hP (u9 p hp)).2)
  refine ⟨xw_K h (by decide) u1, ?_, xw_k h (show (35 : Nat) ≠ 0 by decide) u3, ?_, u5, ?_, ?_, ?_, fun p hp => (ent_ok_x h hP (u9 p hp)).1, ?_, ?_⟩
  · rw [xw_f h (by decide) u1 (im_n hP (by decide))]; exact u2
  · rw [xw_i h (by decide) u1 (im_n hP (by decide))]; exact u4
  · rw [xw_i h (by decide) u1 h2]; exact u6
  · rw [e6]; exact u7
  · rw [e6]; exact fun j y hy => xw_K h (by decide) (u8 j y hy)
  · rw [em, xw_i h (by decide) u1 h1]; exact u10
  · rw [em]; exact u11
theorem Er_x (h : xw P K I F K' I' F') (hP : imm P) {p : Nat} {row : Nat → Int32} (h1 : ¬ P 360 p) (h2 : ¬ P 361 p) (he : Er K I F g p row) : Er K' I' F' g p row := ⟨En_x h hP h1 h2 he.1, he.2⟩
theorem c_st_x (h : xw P K I F K' I' F') (hP : imm P) (h1 : ¬ P 422 (a 3)) (h2 : ¬ P 423 (a 3)) (h3 : ¬ P 35 (a 4)) (h4 : ∀ p, ¬ P 360 p) (h5 : ∀ p, ¬ P 361 p) (hc : c_st K I F a g s) : c_st K' I' F' a g s := by
  obtain ⟨S, c, e1, e2, e3⟩ := hc
  exact ⟨S, c, e1, st_rep_x h hP h1 h2 h3 e2, f2_mono (fun p _ row hr => Er_x h hP (h4 p) (h5 p) hr) e3⟩
theorem c_rs_x (h : xw P K I F K' I' F') (hP : imm P) (hf : fx_ok K I F a) (h1 : ¬ P 31 (a 8)) (hc : c_rs K I F a s) : c_rs K' I' F' a s := by
  intro p hp
  obtain ⟨q, q1, q2⟩ := hc p hp
  refine ⟨q, ?_, ?_⟩
  · rw [xw_f h (k := 31) (by decide) (by rw [hf.2.1.2.1]) h1]; exact q1
  · rcases q2 with e | ⟨e1, e2⟩
    · exact Or.inl e
    · exact Or.inr ⟨e1, Rs_x h hP e2⟩
theorem c_or_x (h : xw P K I F K' I' F') (hP : imm P) (hf : fx_ok K I F a) (ht : t < 3) (h1 : ¬ P 676 (a (20 + t))) (h2 : ¬ P 677 (a (20 + t))) (h3 : ¬ P 678 (a (20 + t))) {x y : Int32} {row : Nat → Int32} (hc : c_or K I F a t x y row) : c_or K' I' F' a t x y row := by
  have k1 := (hf.2.2.1 t ht).2.1
  refine ⟨?_, ?_, fun hy => ?_⟩
  · rw [xw_i h (by decide) k1 h1]; exact hc.1
  · rw [xw_i h (by decide) k1 h2]; exact hc.2.1
  · obtain ⟨p, p1, p2⟩ := hc.2.2 hy
    exact ⟨p, by rw [xw_f h (by decide) k1 h3]; exact p1, Ms_x h hP p2⟩
theorem Rw_x (h : xw P K I F K' I' F') (hP : imm P) {p : Nat} {w : Nat → Int32} (h1 : ¬ P 491 p) (h2 : ¬ P 493 p) (h3 : ¬ P 494 p) (h4 : ¬ P 495 p) (hr : Rw K I F g p w) : Rw K' I' F' g p w := by
  have k1 := hr.1.1
  refine ⟨Rq_x h hP h1 hr.1, ?_, ?_, ?_, hr.2.2.2.2⟩
  · rw [xw_i h (by decide) k1 h2]; exact hr.2.1
  · rw [xw_i h (by decide) k1 h3]; exact hr.2.2.1
  · rw [xw_i h (by decide) k1 h4]; exact hr.2.2.2.1
theorem f2_monor {α β : Type} {R R' : α → β → Prop} : ∀ {l : List α} {m : List β}, (∀ a, a ∈ l → ∀ b, b ∈ m → R a b → R' a b) → f2 R l m → f2 R' l m := by
  intro l
  induction l with
  | nil =>
    intro m hm h
    cases m with
    | nil => trivial
    | cons b m => exact h.elim
  | cons x l ih =>
    intro m hm h
    cases m with
    | nil => exact h.elim
    | cons y m => exact ⟨hm x List.mem_cons_self y List.mem_cons_self h.1, ih (fun a ha b hb => hm a (List.mem_cons_of_mem _ ha) b (List.mem_cons_of_mem _ hb)) h.2⟩
/-- the requests of a queue are left alone -/
def nqP (P : Nat → Nat → Prop) (K : ex_K) (I : ex_I) (Q : List (Nat → Int32)) : Prop := ∀ p w, (K p).1 = 7 → w ∈ Q → I 484 p 0 = w 0 → ¬ P 491 p ∧ ¬ P 493 p ∧ ¬ P 494 p ∧ ¬ P 495 p
theorem nqP_all (h1 : ∀ p, ¬ P 491 p) (h2 : ∀ p, ¬ P 493 p) (h3 : ∀ p, ¬ P 494 p) (h4 : ∀ p, ¬ P 495 p) (Q : List (Nat → Int32)) : nqP P K I Q := fun p _ _ _ _ => ⟨h1 p, h2 p, h3 p, h4 p⟩
theorem c_q_x (h : xw P K I F K' I' F') (hP : imm P) {cn qa : Nat} (kc : (K cn).1 = 11) (kq : (K qa).1 = 34) (h1 : ¬ P 743 cn) (h2 : ¬ P 34 qa) {Q : List (Nat → Int32)} (hq : nqP P K I Q) (hc : c_q K I F g cn qa Q) : c_q K' I' F' g cn qa Q := by
  obtain ⟨L, q1, q2, q3, q4, q5⟩ := hc
  have e : F' 34 qa = F 34 qa := xw_f h (by decide) kq h2
  refine ⟨L, f2_monor (fun p _ w hw hr => ?_) q1, ?_, q3, ?_, ?_⟩
  · obtain ⟨a1, a2, a3, a4⟩ := hq p w hr.1.1 hw hr.1.2.1
    exact Rw_x h hP a1 a2 a3 a4 hr
  · rw [xw_i h (by decide) kc h1]; exact q2
  · rw [e]; exact q4
  · rw [e]; exact fun j y hy => xw_K h (by decide) (q5 j y hy)
theorem c_w_x (h : xw P K I F K' I' F') (hP : imm P) {cn : Nat} (kc : (K cn).1 = 11) (h1 : ¬ P 745 cn) (h2 : ¬ P 746 cn) {n b : Int32} {Q : List (Nat → Int32)} (hc : c_w K I F cn t n b Q) : c_w K' I' F' cn t n b Q := by
  have e : F' 745 cn = F 745 cn := xw_f h (by decide) kc h1
  refine ⟨by rw [e]; exact hc.1, fun w Q' hQ => ?_⟩
  obtain ⟨c1, p, c2, c3⟩ := hc.2 w Q' hQ
  refine ⟨?_, p, by rw [e]; exact c2, Ms_x h hP c3⟩
  rw [xw_i h (by decide) kc h2]; exact c1
theorem c_n_x (h : xw P K I F K' I' F') {cn : Nat} (kc : (K cn).1 = 11) (h1 : ¬ P 748 cn) (h2 : ¬ P 744 cn) (h3 : ¬ P 747 cn) (h4 : ¬ P 749 cn) {n b l d : Int32} {Q : List (Nat → Int32)} (hc : c_n I cn n b l d Q) : c_n I' cn n b l d Q := by
  refine ⟨?_, ?_, fun hd => ?_, fun hd => ⟨?_, (hc.2.2.2 hd).2⟩⟩
  · rw [xw_i h (by decide) kc h1]; exact hc.1
  · rw [xw_i h (by decide) kc h2]; exact hc.2.1
  · rw [xw_i h (by decide) kc h3]; exact hc.2.2.1 hd
  · rw [xw_i h (by decide) kc h4]; exact (hc.2.2.2 hd).1
def cnP (P : Nat → Nat → Prop) (cn qa : Nat) : Prop := ¬ P 743 cn ∧ ¬ P 744 cn ∧ ¬ P 745 cn ∧ ¬ P 746 cn ∧ ¬ P 747 cn ∧ ¬ P 748 cn ∧ ¬ P 749 cn ∧ ¬ P 34 qa
theorem c_cn_x (h : xw P K I F K' I' F') (hP : imm P) (hf : fx_ok K I F a) (ht : t < 3) (h1 : cnP P (a (30 + t)) (a (40 + t))) {n b l d : Int32} {Q : List (Nat → Int32)} (hq : nqP P K I Q) (hc : c_cn K I F a g t n b l d Q) : c_cn K' I' F' a g t n b l d Q := by
  obtain ⟨p1, p2, p3, p4, p5, p6, p7, p8⟩ := h1
  have kc := (hf.2.2.1 t ht).2.2.2.1
  have kq : (K (a (40 + t))).1 = 34 := by rw [(hf.2.2.1 t ht).2.2.2.2.2.2.2.2]
  exact ⟨c_n_x h kc p6 p2 p5 p7 hc.1, c_q_x h hP kc kq p1 p8 hq hc.2.1, c_w_x h hP kc p3 p4 hc.2.2⟩
theorem c_lt_x (h : xw P K I F K' I' F') (hP : imm P) (hf : fx_ok K I F a) (h1 : ¬ P 34 (a 11)) (h2 : ∀ p, (K p).1 = 7 → ¬ P 492 p ∧ ¬ P 493 p ∧ ¬ P 494 p ∧ ¬ P 495 p) (hc : c_lt K I F a g s) : c_lt K' I' F' a g s := by
  have k1 : (K (a 11)).1 = 34 := by rw [hf.2.1.2.2.2.2.1]
  refine ⟨fun r r1 r2 => ?_, fun r r1 r2 r3 => ?_⟩
  · obtain ⟨e1, e2⟩ := hc.1 r r1 r2
    exact ⟨xw_K h (by decide) e1, by rw [xw_i h (by decide) e1 (im_n hP (by decide))]; exact e2⟩
  · have e1 := (hc.1 r r1 r2).1
    obtain ⟨n1, n2, n3, n4⟩ := h2 _ e1
    obtain ⟨c1, c2, c3, c4, c5⟩ := hc.2 r r1 r2 r3
    refine ⟨by rw [xw_f h (by decide) k1 h1]; exact c1, ?_, ?_, ?_, ?_⟩
    · rw [xw_i h (by decide) e1 n1]; exact c2
    · rw [xw_i h (by decide) e1 n2]; exact c3
    · rw [xw_i h (by decide) e1 n3]; exact c4
    · rw [xw_i h (by decide) e1 n4]; exact c5
/-- new cells alone -/
theorem Rc_0 (h : xw (fun _ _ => False) K I F K' I' F') (hR : Rc K I F a g z s) : Rc K' I' F' a g z s := by
  have hP : imm (fun _ _ => False) := fun _ _ h => h.elim
  obtain ⟨r1, r2, r3, r4, r5, r6, r7, r8, r9, r10⟩ := hR
  exact ⟨fx_x h hP r1, c_dr_x h r1 id id r2, c_st_x h hP id id id (fun _ => id) (fun _ => id) r3, c_uw_x h hP id id r4, c_rs_x h hP r1 id r5, fun t ht hz => c_or_x h hP r1 ht id id id (r6 t ht hz), fun t ht hz => c_cn_x h hP r1 ht ⟨id, id, id, id, id, id, id, id⟩ (nqP_all (fun _ => id) (fun _ => id) (fun _ => id) (fun _ => id) _) (r7 t ht hz), c_lt_x h hP r1 id (fun _ _ => ⟨id, id, id, id⟩) r8, c_sc_x h r1 id id id r9, c_gh_x h r10⟩
end RX
