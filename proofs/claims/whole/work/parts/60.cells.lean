/-! The class: what its cells tell, and what leaves that as it is -/
def xmut : List Nat := [108, 109, 110, 22, 229, 360, 361, 422, 423, 35, 491, 492, 493, 494, 495, 613, 36, 676, 677, 678, 743, 744, 745, 746, 747, 748, 749, 34, 31]
/-- old cells stay what they are; P says which places may have changed -/
def xw (P : Nat → Nat → Prop) (K : ex_K) (I : ex_I) (F : ex_F) (K' : ex_K) (I' : ex_I) (F' : ex_F) : Prop :=
  ∀ a, (K a).1 ≠ 0 → K' a = K a ∧ ∀ g, ¬ P g a → I' g a = I g a ∧ F' g a = F g a
theorem xw_rfl {P : Nat → Nat → Prop} {K : ex_K} {I : ex_I} {F : ex_F} : xw P K I F K I F := fun _ _ => ⟨rfl, fun _ _ => ⟨rfl, rfl⟩⟩
theorem xw_mono {P P' : Nat → Nat → Prop} {K K' : ex_K} {I I' : ex_I} {F F' : ex_F} (h : xw P K I F K' I' F') (hp : ∀ g a, (K a).1 ≠ 0 → P g a → P' g a) : xw P' K I F K' I' F' := fun a ha => ⟨(h a ha).1, fun g hg => (h a ha).2 g (fun z => hg (hp g a ha z))⟩
theorem xw_trans {P : Nat → Nat → Prop} {K K' K'' : ex_K} {I I' I'' : ex_I} {F F' F'' : ex_F} (h : xw P K I F K' I' F') (h' : xw P K' I' F' K'' I'' F'') : xw P K I F K'' I'' F'' := fun a ha => by
  have ha' : (K' a).1 ≠ 0 := by rw [(h a ha).1]; exact ha
  refine ⟨((h' a ha').1).trans (h a ha).1, fun g hg => ⟨((h' a ha').2 g hg).1.trans ((h a ha).2 g hg).1, ((h' a ha').2 g hg).2.trans ((h a ha).2 g hg).2⟩⟩
/-- a write, an array replaced, a cell made -/
theorem xw_ui {P : Nat → Nat → Prop} {K : ex_K} {I : ex_I} {F : ex_F} {g a i : Nat} {x : Int32} (h : P g a) : xw P K I F K (ex_ui I g a i x) F := fun q _ => ⟨rfl, fun g' hg => ⟨by
  by_cases e : q = a
  · subst e
    rw [ex_ui_f _ _ _ _ (fun z => hg (by rw [z]; exact h))]
  · rw [ex_ui_ne _ _ _ _ e], rfl⟩⟩
theorem xw_uf {P : Nat → Nat → Prop} {K : ex_K} {I : ex_I} {F : ex_F} {g a i : Nat} {x : Option Nat} (h : P g a) : xw P K I F K I (ex_uf F g a i x) := fun q _ => ⟨rfl, fun g' hg => ⟨rfl, by
  by_cases e : q = a
  · subst e
    rw [ex_uf_f _ _ _ _ (fun z => hg (by rw [z]; exact h))]
  · rw [ex_uf_ne _ _ _ _ e]⟩⟩
theorem xw_wi {P : Nat → Nat → Prop} {K : ex_K} {I : ex_I} {F : ex_F} {g a : Nat} {X : Nat → Int32} (h : P g a) : xw P K I F K (ex_wi I g a X) F := fun q _ => ⟨rfl, fun g' hg => ⟨by
  by_cases e : q = a
  · subst e
    rw [ex_wi_f _ _ _ (fun z => hg (by rw [z]; exact h))]
  · rw [ex_wi_ne _ _ _ e], rfl⟩⟩
theorem xw_wf {P : Nat → Nat → Prop} {K : ex_K} {I : ex_I} {F : ex_F} {g a : Nat} {X : Nat → Option Nat} (h : P g a) : xw P K I F K I (ex_wf F g a X) := fun q _ => ⟨rfl, fun g' hg => ⟨rfl, by
  by_cases e : q = a
  · subst e
    rw [ex_wf_f _ _ _ (fun z => hg (by rw [z]; exact h))]
  · rw [ex_wf_ne _ _ _ e]⟩⟩
theorem xw_new {P : Nat → Nat → Prop} {K : ex_K} {I : ex_I} {F : ex_F} {a kd n : Nat} (fa : (K a).1 = 0) : xw P K I F (ex_nk K a kd n) (ex_ni I a) (ex_nr F a) := fun q hq => by
  have e : q ≠ a := fun z => hq (by rw [z]; exact fa)
  refine ⟨?_, fun g _ => ⟨?_, ?_⟩⟩
  · unfold ex_nk
    rw [if_neg e]
  · unfold ex_ni
    rw [if_neg e]
  · unfold ex_nr
    rw [if_neg e]
/-- the store's changes -/
theorem xw_st {P : Nat → Nat → Prop} {K : ex_K} {I I' : ex_I} {F F' : ex_F} (h : st_fr I F I' F') (h1 : ∀ a, P 422 a) (h2 : ∀ a, P 423 a) (h3 : ∀ a, P 35 a) : xw P K I F K I' F' := fun q _ => ⟨rfl, fun g hg => ⟨by
  rw [h.1 g (fun z => hg (by rw [z]; exact h1 q)) (fun z => hg (by rw [z]; exact h2 q))], by
  rw [h.2 g (fun z => hg (by rw [z]; exact h3 q))]⟩⟩
def imm (P : Nat → Nat → Prop) : Prop := ∀ g a, P g a → g ∈ xmut
theorem xw_I {P : Nat → Nat → Prop} {K K' : ex_K} {I I' : ex_I} {F F' : ex_F} {g a : Nat} (h : xw P K I F K' I' F') (hP : imm P) (ha : (K a).1 ≠ 0) (hg : g ∉ xmut) : I' g a = I g a := ((h a ha).2 g (fun z => hg (hP g a z))).1
theorem xw_F {P : Nat → Nat → Prop} {K K' : ex_K} {I I' : ex_I} {F F' : ex_F} {g a : Nat} (h : xw P K I F K' I' F') (hP : imm P) (ha : (K a).1 ≠ 0) (hg : g ∉ xmut) : F' g a = F g a := ((h a ha).2 g (fun z => hg (hP g a z))).2
theorem xw_K {P : Nat → Nat → Prop} {K K' : ex_K} {I I' : ex_I} {F F' : ex_F} {a k : Nat} (h : xw P K I F K' I' F') (hk : k ≠ 0) (ha : (K a).1 = k) : (K' a).1 = k := by
  rw [(h a (by rw [ha]; exact hk)).1, ha]
def Ctl (K : ex_K) (I : ex_I) (F : ex_F) (p : Nat) (c : Nat → Int32) : Prop := ∃ y, ct_ok K F p y ∧ (∀ j, j < 7 → I 21 y j = -1 ∨ 0 ≤ I 21 y j) ∧ ∀ j, j < 4 → tx_4 (I 21 y) j = c j
def Rs (K : ex_K) (I : ex_I) (F : ex_F) (q : Nat) (v n y : Int32) (c : Nat → Int32) : Prop := (K q).1 = 4 ∧ I 292 q 0 = v ∧ I 293 q 0 = n ∧ I 294 q 0 = y ∧ ∃ z, F 295 q 0 = some z ∧ Ctl K I F z c
def En (K : ex_K) (I : ex_I) (F : ex_F) (p : Nat) (row : Nat → Int32) : Prop := (K p).1 = 5 ∧ I 356 p 0 = row 1 ∧ I 357 p 0 = row 5 ∧ I 359 p 0 = tgr row ∧ I 361 p 0 = row 6 ∧ (∃ q c, F 358 p 0 = some q ∧ Rs K I F q (row 2) (row 3) (row 4) c) ∧ ∃ z, F 360 p 0 = some z ∧ Ctl K I F z (fun j => row (8 + j))
def Rq (K : ex_K) (I : ex_I) (F : ex_F) (en : Nat → Nat) (N p : Nat) (w : Nat → Int32) : Prop := (K p).1 = 7 ∧ I 484 p 0 = w 0 ∧ I 485 p 0 = w 1 ∧ I 486 p 0 = w 2 ∧ I 487 p 0 = w 3 ∧ I 488 p 0 = w 5 ∧ I 489 p 0 = w 4 ∧
  ((w 6 = 0 ∧ w 7 = 0 ∧ F 491 p 0 = none) ∨ (∃ k, w 6 = nI k ∧ 1 ≤ k ∧ k ≤ N ∧ F 491 p 0 = some (en k) ∧ (K (en k)).1 = 5 ∧ I 359 (en k) 0 = w 7)) ∧ ∃ z, F 490 p 0 = some z ∧ (∃ y, ct_ok K F z y) ∧ (w 1 = 1 → Ctl K I F z (fun j => w (8 + j)))
def Ms (K : ex_K) (I : ex_I) (F : ex_F) (p : Nat) (row : Nat → Int32) : Prop := (K p).1 = 8 ∧ I 548 p 0 = row 0 ∧ I 549 p 0 = row 1 ∧ I 550 p 0 = row 2 ∧ I 551 p 0 = row 3 ∧ I 552 p 0 = row 4 ∧ I 555 p 0 = row 14 ∧
  (row 1 = 0 → row 2 = 0 → F 553 p 0 = none) ∧ (row 1 = 0 → ¬ row 2 = 0 → ∃ q, F 553 p 0 = some q ∧ (K q).1 = 7 ∧ I 485 q 0 = row 3 ∧ I 486 q 0 = row 5 ∧ I 487 q 0 = row 6 ∧ I 488 q 0 = row 7) ∧
  (¬ row 1 = 0 → (row 3 = 200 ∨ row 3 = 304) → ∃ q, F 554 p 0 = some q ∧ Rs K I F q (row 9) (row 7) (row 8) (fun j => row (10 + j))) ∧ (¬ row 1 = 0 → ¬ (row 3 = 200 ∨ row 3 = 304) → F 554 p 0 = none)
theorem ct_x {P : Nat → Nat → Prop} {K K' : ex_K} {I I' : ex_I} {F F' : ex_F} (h : xw P K I F K' I' F') (hP : imm P) {z y : Nat} (hc : ct_ok K F z y) : ct_ok K' F' z y ∧ I' 21 y = I 21 y := by
  obtain ⟨c1, c2, c3⟩ := hc
  have z0 : (K z).1 ≠ 0 := by rw [c1]; decide
  have y0 : (K y).1 ≠ 0 := by rw [c3]; decide
  refine ⟨⟨xw_K h (by decide) c1, ?_, ?_⟩, xw_I h hP y0 (by decide)⟩
  · rw [xw_F h hP z0 (by decide)]
    exact c2
  · rw [(h y y0).1]
    exact c3
theorem Ctl_x {P : Nat → Nat → Prop} {K K' : ex_K} {I I' : ex_I} {F F' : ex_F} (h : xw P K I F K' I' F') (hP : imm P) {p : Nat} {c : Nat → Int32} (hc : Ctl K I F p c) : Ctl K' I' F' p c := by
  obtain ⟨y, c1, c2, c3⟩ := hc
  obtain ⟨e1, e2⟩ := ct_x h hP c1
  refine ⟨y, e1, ?_, ?_⟩
  · rw [e2]
    exact c2
  · rw [e2]
    exact c3
theorem Rs_x {P : Nat → Nat → Prop} {K K' : ex_K} {I I' : ex_I} {F F' : ex_F} (h : xw P K I F K' I' F') (hP : imm P) {q : Nat} {v n y : Int32} {c : Nat → Int32} (hr : Rs K I F q v n y c) : Rs K' I' F' q v n y c := by
  obtain ⟨r1, r2, r3, r4, z, r5, r6⟩ := hr
  have q0 : (K q).1 ≠ 0 := by rw [r1]; decide
  refine ⟨xw_K h (by decide) r1, ?_, ?_, ?_, z, ?_, Ctl_x h hP r6⟩
  · rw [xw_I h hP q0 (by decide)]; exact r2
  · rw [xw_I h hP q0 (by decide)]; exact r3
  · rw [xw_I h hP q0 (by decide)]; exact r4
  · rw [xw_F h hP q0 (by decide)]; exact r5
theorem En_x {P : Nat → Nat → Prop} {K K' : ex_K} {I I' : ex_I} {F F' : ex_F} (h : xw P K I F K' I' F') (hP : imm P) {p : Nat} {row : Nat → Int32} (h1 : ¬ P 360 p) (h2 : ¬ P 361 p) (he : En K I F p row) : En K' I' F' p row := by
  obtain ⟨e1, e2, e3, e4, e5, ⟨q, c, e6, e7⟩, z, e8, e9⟩ := he
  have p0 : (K p).1 ≠ 0 := by rw [e1]; decide
  refine ⟨xw_K h (by decide) e1, ?_, ?_, ?_, ?_, ⟨q, c, ?_, Rs_x h hP e7⟩, z, ?_, Ctl_x h hP e9⟩
  · rw [xw_I h hP p0 (by decide)]; exact e2
  · rw [xw_I h hP p0 (by decide)]; exact e3
  · rw [xw_I h hP p0 (by decide)]; exact e4
  · rw [((h p p0).2 361 h2).1]; exact e5
  · rw [xw_F h hP p0 (by decide)]; exact e6
  · rw [((h p p0).2 360 h1).2]; exact e8
theorem Rq_x {P : Nat → Nat → Prop} {K K' : ex_K} {I I' : ex_I} {F F' : ex_F} (h : xw P K I F K' I' F') (hP : imm P) {en : Nat → Nat} {N p : Nat} {w : Nat → Int32} (h1 : ¬ P 491 p) (hr : Rq K I F en N p w) : Rq K' I' F' en N p w := by
  obtain ⟨r1, r2, r3, r4, r5, r6, r7, r8, z, r9, ⟨y, r10⟩, r11⟩ := hr
  have p0 : (K p).1 ≠ 0 := by rw [r1]; decide
  refine ⟨xw_K h (by decide) r1, ?_, ?_, ?_, ?_, ?_, ?_, ?_, z, ?_, ⟨y, (ct_x h hP r10).1⟩, fun e => Ctl_x h hP (r11 e)⟩
  · rw [xw_I h hP p0 (by decide)]; exact r2
  · rw [xw_I h hP p0 (by decide)]; exact r3
  · rw [xw_I h hP p0 (by decide)]; exact r4
  · rw [xw_I h hP p0 (by decide)]; exact r5
  · rw [xw_I h hP p0 (by decide)]; exact r6
  · rw [xw_I h hP p0 (by decide)]; exact r7
  · rcases r8 with ⟨a1, a2, a3⟩ | ⟨k, a1, a2, b2, a3, a4, a5⟩
    · exact Or.inl ⟨a1, a2, by rw [((h p p0).2 491 h1).2]; exact a3⟩
    · exact Or.inr ⟨k, a1, a2, b2, by rw [((h p p0).2 491 h1).2]; exact a3, xw_K h (by decide) a4, by rw [xw_I h hP (by rw [a4]; decide) (by decide)]; exact a5⟩
  · rw [xw_F h hP p0 (by decide)]; exact r9
theorem Ms_x {P : Nat → Nat → Prop} {K K' : ex_K} {I I' : ex_I} {F F' : ex_F} (h : xw P K I F K' I' F') (hP : imm P) {p : Nat} {row : Nat → Int32} (hm : Ms K I F p row) : Ms K' I' F' p row := by
  obtain ⟨m1, m2, m3, m4, m5, m6, m7, m8, m9, m10, m11⟩ := hm
  have p0 : (K p).1 ≠ 0 := by rw [m1]; decide
  refine ⟨xw_K h (by decide) m1, ?_, ?_, ?_, ?_, ?_, ?_, fun a b => ?_, fun a b => ?_, fun a b => ?_, fun a b => ?_⟩
  · rw [xw_I h hP p0 (by decide)]; exact m2
  · rw [xw_I h hP p0 (by decide)]; exact m3
  · rw [xw_I h hP p0 (by decide)]; exact m4
  · rw [xw_I h hP p0 (by decide)]; exact m5
  · rw [xw_I h hP p0 (by decide)]; exact m6
  · rw [xw_I h hP p0 (by decide)]; exact m7
  · rw [xw_F h hP p0 (by decide)]; exact m8 a b
  · obtain ⟨q, q1, q2, q3, q4, q5, q6⟩ := m9 a b
    have q0 : (K q).1 ≠ 0 := by rw [q2]; decide
    exact ⟨q, by rw [xw_F h hP p0 (by decide)]; exact q1, xw_K h (by decide) q2, by rw [xw_I h hP q0 (by decide)]; exact q3, by rw [xw_I h hP q0 (by decide)]; exact q4, by rw [xw_I h hP q0 (by decide)]; exact q5, by rw [xw_I h hP q0 (by decide)]; exact q6⟩
  · obtain ⟨q, q1, q2⟩ := m10 a b
    exact ⟨q, by rw [xw_F h hP p0 (by decide)]; exact q1, Rs_x h hP q2⟩
  · rw [xw_F h hP p0 (by decide)]; exact m11 a b
