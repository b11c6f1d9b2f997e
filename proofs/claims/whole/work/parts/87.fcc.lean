/-! The class: an answer with a resource is settled -/
def gE (g : GH) (e : Nat) : GH := (fun k => if k = g.2.2.2 + 1 then e else g.1 k, g.2.1, g.2.2.1, g.2.2.2 + 1)
theorem gx_E {g : GH} {e : Nat} : gx g (gE g e) := ⟨fun _ _ => rfl, Nat.le_refl _, fun k hk => if_neg (by omega), Nat.le_succ _⟩
/-- an entry is stored -/
theorem Rc_stored {K : ex_K} {I I' : ex_I} {F F' : ex_F} {a : Nat → Nat} {g : GH} {z c e m : Nat} {s : MS} {S : List Nat} {cm : Nat → Int32} {p v : Int32} {P1 : Nat → Bool} (hR : Rc K I F a g z s) (e1 : s.1 804 0 = nI c) (e2 : st_rep K I F (a 3) (a 4) c S) (e3 : f2 (Er K I F g) S (s.2 14)) (hE : En K I F e (srw (s.1 817 0 + 1) p v cm)) (hfr : ∀ k, 1 ≤ k → k ≤ g.2.2.2 → g.1 k ≠ e)
    (hf : st_fr I F I' F') (hs : st_rep K I' F' (a 3) (a 4) c (evi (szN I F) c m (S.filter P1) ++ [e])) (hm : cm 7 = nI m) (hm9 : m ≤ 9) (hp : ∀ p' row, Er K I F g p' row → P1 p' = !drb p v (if cm 8 = 0 then 1 else 0) row) (hN : g.2.2.2 + 1 < 2 ^ 30) : Rc K I' F' a (gE g e) z (m_store s p v cm) := by
  have hg := hR.2.2.2.2.2.2.2.2.2
  have h817 : s.1 817 0 + 1 = nI (g.2.2.2 + 1) := by rw [hg.2.2.1, nI_1]
  have e4 : (m_ev (m_dr s p v (if cm 8 = 0 then 1 else 0)) (cm 7)).2 14 = evr (nI c) (nI m) ((s.2 14).filter (fun row => !drb p v (if cm 8 = 0 then 1 else 0) row)) := by
    unfold m_ev m_dr
    rw [tu_at, tu_at, hm]
    show evr (s.1 804 0) _ _ = _
    rw [e1]
  have es : m_store s p v cm = tu (cw s 817 0 (s.1 817 0 + 1)) 14 (evr (nI c) (nI m) ((s.2 14).filter (fun row => !drb p v (if cm 8 = 0 then 1 else 0) row)) ++ [srw (s.1 817 0 + 1) p v cm]) := by
    unfold m_store m_add
    rw [e4]
    have e5 : (m_ev (m_dr s p v (if cm 8 = 0 then 1 else 0)) (cm 7)).1 817 0 = s.1 817 0 := rfl
    rw [e5]
    unfold m_ev m_dr
    have e6 : ∀ (X : MS) L M N, tu (cw (tu (tu X 14 L) 14 M) 817 0 (s.1 817 0 + 1)) 14 N = tu (cw X 817 0 (s.1 817 0 + 1)) 14 N := fun X L M N => by
      have : cw (tu (tu X 14 L) 14 M) 817 0 (s.1 817 0 + 1) = tu (tu (cw X 817 0 (s.1 817 0 + 1)) 14 L) 14 M := rfl
      rw [this, tu_tu, tu_tu]
    rw [e6]
  rw [es]
  have hS : ∀ q, q ∈ S.filter P1 → ent_ok K I F q := fun q hq => e2.2.2.2.2.2.2.2.2.1 q (List.mem_filter.mp hq).1
  have hsum : ((S.filter P1).map (szN I F)).sum ≤ (S.map (szN I F)).sum := by
    have gen : ∀ M : List Nat, ((M.filter P1).map (szN I F)).sum ≤ (M.map (szN I F)).sum := by
      intro M
      induction M with
      | nil => exact Nat.le_refl _
      | cons x M ih =>
        rw [List.filter_cons]
        split
        · rw [List.map_cons, List.sum_cons, List.map_cons, List.sum_cons]
          omega
        · rw [List.map_cons, List.sum_cons]
          omega
    exact gen S
  have hcap := e2.2.2.2.2.1
  have htot := e2.2.2.2.2.2.2.2.2.2.2
  have fa := f2_ev (cap := c) (n := m) (by omega) (by omega) (f2_filter (q := fun row => !drb p v (if cm 8 = 0 then 1 else 0) row) hp e3) hS (by omega)
  have hi := im_st
  have xs : xw stP K I F K I' F' := xs_of hf
  refine Rc_st2 hR xs gx_E rfl ⟨_, c, e1, hs, ?_⟩ ⟨?_, hg.2.1, ?_, hN, fun k k1 k2 => ?_⟩
  · rw [tu_at]
    refine f2_app (f2_mono (fun p' _ row h => Er_g gx_E (Er_st hf h)) fa) ⟨⟨En_x xs im_st (ns_of (by decide) (by decide) (by decide)) (ns_of (by decide) (by decide) (by decide)) hE, g.2.2.2 + 1, h817, by omega, Nat.le_refl _, if_pos rfl⟩, trivial⟩
  · show (cw s 817 0 (s.1 817 0 + 1)).1 820 0 = _
    rw [cw_ne _ _ _ (by decide)]
    exact hg.1
  · show (cw s 817 0 (s.1 817 0 + 1)).1 817 0 = _
    rw [cw_at, h817]
    exact if_pos rfl
  · have k2' : k ≤ g.2.2.2 + 1 := k2
    have ge : ∀ j, j ≤ g.2.2.2 → (gE g e).1 j = g.1 j := fun j hj => if_neg (by omega)
    have gl : (gE g e).1 (g.2.2.2 + 1) = e := if_pos rfl
    by_cases w : k = g.2.2.2 + 1
    · subst w
      rw [gl]
      refine ⟨hE.1, fun j j1 j2 h => ?_⟩
      have j2' : j ≤ g.2.2.2 + 1 := j2
      by_cases w2 : j = g.2.2.2 + 1
      · exact w2
      · rw [ge j (by omega)] at h
        exact absurd h (hfr j j1 (by omega))
    · rw [ge k (by omega)]
      refine ⟨(hg.2.2.2.2 k k1 (by omega)).1, fun j j1 j2 h => ?_⟩
      have j2' : j ≤ g.2.2.2 + 1 := j2
      by_cases w2 : j = g.2.2.2 + 1
      · subst w2
        rw [gl] at h
        exact absurd h.symm (hfr k k1 (by omega))
      · rw [ge j (by omega)] at h
        exact (hg.2.2.2.2 k k1 (by omega)).2 j j1 (by omega) h
theorem sp_settle200 {Γ : ex_G} {d : Nat} {K : ex_K} {I : ex_I} {F : ex_F} {b : Nat} {t p q mp m : Nat} {a : Nat → Nat} {g : GH} {s : MS} {cm w : Nat → Int32} (hR : Rc K I F a g t s) (hp : Rw K I F g p w) (hx : ∀ u, u < 3 → u ≠ t → ∀ w', w' ∈ s.2 (100 + u) → ¬ w' 0 = w 0) (h3 : cm 3 = 200) (h1 : w 1 = 1) (hm : (K mp).1 = 8) (m3 : I 551 mp 0 = cm 3) (m4 : I 552 mp 0 = cm 4) (m14 : I 555 mp 0 = cm 14) (hq : Rs K I F q (cm 9) (cm 7) (cm 8) (fun j => cm (10 + j))) (hm7 : cm 7 = nI m) (hm1 : 1 ≤ m) (hm9 : m ≤ 9) (h8 : cm 8 = 0 ∨ cm 8 = 1) (hN : g.2.2.2 + 1 < 2 ^ 30) :
    ex_E Γ (d + 4) M_FC_settleFound 0 [some (.inr (some (a 0))), some (.inr (some p)), some (.inr (some mp)), some (.inr (some q)), none] [] K I F (b + 1) (fun r K' I' F' => r = none ∧ ∃ g', gx g g' ∧ xw (sfP p) K I F K' I' F' ∧ Rc K' I' F' a g' t (m_an2 (m_an1 s cm w) cm w)) := by
  obtain ⟨x0, x1, x2, x3, x4, x5, x6, x7, x8⟩ := hR.1.1
  have kp := hp.1.1
  have t0 := hR.2.2.2.2.2.2.2.2.1.1
  have hp0 := hp
  obtain ⟨⟨-, -, -, e6, e7, -, e9, -, zr, er, -, hcr⟩, z3, z4, z5, r, r1, r2, r3, r4⟩ := hp0
  obtain ⟨yr, yr1, yr2, yr3⟩ := hcr h1
  have hq0 := hq
  obtain ⟨q1, q2, q3, q4, zc, q5, y, y1, y2, y3⟩ := hq
  have ea1 : m_an1 s cm w = m_rep s (w 0) (if cm 4 = w 4 then 304 else 200) (cm 4) (s.1 805 0 - cm 14) 2 := by
    unfold m_an1
    rw [if_pos (Or.inl h3), if_neg (show ¬ cm 3 = 304 by rw [h3]; decide), if_pos h3]
  have hal : alw (I 21 y) = stb (cm 10) (cm 11) := by rw [← alw_stb _ y2, y3 0 (by decide), y3 1 (by decide)]
  have hns : I 21 yr 1 = -1 ↔ w 8 &&& 2 = 0 := by rw [show w 8 = tx_4 (I 21 yr) 0 from (yr3 0 (by decide)).symm]; exact tx_bit2.symm
  have kzc := y1.1
  have kzr := yr1.1
  unfold m_an2
  rw [if_pos h3]
  refine s_FC_settleFound_0 ?_
  refine s_FC_settleFound_1 (by first | rfl | assumption | (simp [*]; done)) (by first | rfl | assumption | (simp [*]; done)) ?_
  refine s_FC_settleFound_4 ?_
  refine s_FC_settleFound_6 ?_
  refine s_FC_settleFound_7 (by rfl) (by exact hm) ?_
  refine s_FC_settleFound_10 ?_
  refine s_FC_settleFound_13 (fun h13 => ?_) (fun h13 => absurd h13 (by rw [m3, h3]; decide))
  refine s_FC_settleFound_68 ?_
  refine s_FC_settleFound_69 ?_
  refine s_FC_settleFound_70 (by rfl) (by exact hm) ?_
  refine s_FC_settleFound_73 ?_
  refine s_FC_settleFound_74 (by first | rfl | assumption | (simp [*]; done)) (by first | rfl | assumption | (simp [*]; done)) ?_
  refine s_FC_settleFound_77 ?_
  refine s_FC_settleFound_78 (by rfl) (by exact hm) ?_
  refine s_FC_settleFound_81 ?_
  rw [m14, t0]
  refine s_FC_settleFound_82 ?_
  rw [m4]
  refine s_FC_settleFound_83 (b1 := 0) (b2 := b + 1) (by rfl) (by exact kp) (ex_up (d := d) (by omega) (sp_answerOk kp e9)) ?_ (by omega)
  rintro _ _ I1 _ ⟨rfl, rfl, rfl, xa, a1, a2, a3, a4⟩
  dsimp only [Option.toList, List.cons_append, List.nil_append]
  have na : ∀ f c, f ≠ 492 → f ≠ 493 → f ≠ 494 → f ≠ 495 → ¬ aP p f c := fun f c f1 f2 f3 f4 h => by rcases h with ⟨h | h | h | h, -⟩ <;> contradiction
  have ixa : imm (aP p) := fun f c h => by rcases h with ⟨rfl | rfl | rfl | rfl, -⟩ <;> decide
  have xr : xw (rP g r) K I F K I1 F := by rw [← r4] at xa; exact xa
  have R1 := Rc_rep (c := if cm 4 = w 4 then 304 else 200) (t1 := cm 4) (ag := s.1 805 0 - cm 14) (w := 2) hR r2 r3 xr (by rw [r4]; exact a1) (by rw [r4]; exact a2) (by rw [r4]; exact a3) (by rw [r4]; exact a4) (fun u hu hut w' hw' => by
    rw [← r1]
    exact hx u hu hut w' hw')
  rw [← r1, ← ea1] at R1
  have XB : xw (sfP p) K I F K I1 F := xw_mono xa (fun f c _ h => by simp only [sfP]; exact Or.inr (Or.inr (Or.inr (Or.inr (Or.inr h)))))
  have q804 : (m_an1 s cm w).1 804 0 = s.1 804 0 := by rw [an1_c (by decide)]
  have y1a := ct_x xa ixa y1
  have yra := ct_x xa ixa yr1
  have hq1 := Rs_x xa ixa hq0
  have b6 : I1 486 p 0 = w 2 := by rw [xw_i xa (by decide) kp (na _ _ (by decide) (by decide) (by decide) (by decide))]; exact e6
  have b7 : I1 487 p 0 = w 3 := by rw [xw_i xa (by decide) kp (na _ _ (by decide) (by decide) (by decide) (by decide))]; exact e7
  have b14 : I1 555 mp 0 = cm 14 := by rw [xw_i xa (by decide) hm (na _ _ (by decide) (by decide) (by decide) (by decide))]; exact m14
  have i21 : I1 21 y = I 21 y := y1a.2
  have i21r : I1 21 yr = I 21 yr := yra.2
  generalize m_an1 s cm w = s1 at R1 q804 ⊢
  have hg := R1.2.2.2.2.2.2.2.2.2
  refine s_FC_settleFound_86 ?_
  refine s_FC_settleFound_87 (by first | rfl | assumption | (simp [*]; done)) (by first | rfl | assumption | (simp [*]; done)) ?_
  refine s_FC_settleFound_90 (b1 := 0) (b2 := b + 1) (by exact q5) (by exact kzc) (ex_up (by omega) (sp_allows (d := d) y1a.1)) ?_ (by omega)
  rintro _ _ _ _ ⟨rfl, rfl, rfl, rfl⟩
  dsimp only [Option.toList, List.cons_append, List.nil_append]
  rw [i21, hal]
  refine s_FC_settleFound_93 (fun h93 => ?_) (fun h93 => ?_)
  · refine s_FC_settleFound_134 ?_
    have hz : ¬ stb (cm 10) (cm 11) = true := fun z => by rw [if_pos z] at h93; exact absurd h93 (by decide)
    rw [if_neg (fun z => hz z.1)]
    exact ⟨rfl, g, gx_rfl, XB, R1⟩
  · refine s_FC_settleFound_96 ?_
    refine s_FC_settleFound_97 (by first | rfl | assumption | (simp [*]; done)) (by first | rfl | assumption | (simp [*]; done)) ?_
    refine s_FC_settleFound_100 ?_
    refine s_FC_settleFound_101 (b1 := 0) (b2 := b + 1) (by exact er) (by exact kzr) (ex_up (d := d) (by omega) (sp_has2 1 rfl yra.1 (by decide))) ?_ (by omega)
    rintro _ _ _ _ ⟨rfl, rfl, rfl, rfl⟩
    dsimp only [Option.toList, List.cons_append, List.nil_append]
    rw [i21r]
    refine s_FC_settleFound_104 (fun h104 => ?_) (fun h104 => ?_)
    · refine s_FC_settleFound_134 ?_
      rw [e01] at h104
      rw [if_neg (fun z => h104 (hns.mpr z.2.1))]
      exact ⟨rfl, g, gx_rfl, XB, R1⟩
    · have hz : stb (cm 10) (cm 11) = true := by
        by_cases z : stb (cm 10) (cm 11) = true
        · exact z
        · exact absurd (if_neg z) h93
      rw [e01] at h104
      have hw8 := hns.mp h104
      refine s_FC_settleFound_107 ?_
      refine s_FC_settleFound_108 (by first | rfl | assumption | (simp [*]; done)) (by first | rfl | assumption | (simp [*]; done)) ?_
      refine s_FC_settleFound_111 (fun n111 fn111 => ?_)
      have xn : xw (fun _ _ => False) K I1 F (ex_nk K n111 5 0) (ex_ni I1 n111) (ex_nr F n111) := xw_new fn111
      have i0 : imm (fun _ _ => False) := fun _ _ h => h.elim
      have k5 : (ex_nk K n111 5 0 n111).1 = 5 := by rw [ex_nk_at]
      have hq2 := Rs_x xn i0 hq1
      have c6 : ex_ni I1 n111 486 p 0 = w 2 := by rw [xw_i xn (by decide) kp id]; exact b6
      have c7 : ex_ni I1 n111 487 p 0 = w 3 := by rw [xw_i xn (by decide) kp id]; exact b7
      have c14 : ex_ni I1 n111 555 mp 0 = cm 14 := by rw [xw_i xn (by decide) hm id]; exact b14
      have kp1 : (ex_nk K n111 5 0 p).1 = 7 := xw_K xn (by decide) kp
      have km1 : (ex_nk K n111 5 0 mp).1 = 8 := xw_K xn (by decide) hm
      have mk : ∀ {K' : ex_K} {I' : ex_I} {F' : ex_F}, xw (fun _ c => c = n111) (ex_nk K n111 5 0) (ex_ni I1 n111) (ex_nr F n111) K' I' F' → xw (fun _ _ => False) K I1 F K' I' F' := fun h => xw_made fn111 h
      generalize ex_nk K n111 5 0 = K2 at xn k5 hq2 kp1 km1 mk ⊢
      generalize ex_ni I1 n111 = I2 at xn hq2 c6 c7 c14 mk ⊢
      generalize ex_nr F n111 = F2 at xn hq2 mk ⊢
      have hen := sp_ent (Γ := Γ) (d := d) (b := 0) (x := w 2) (v := w 3) (dt := cm 14) (row := srw (s1.1 817 0 + 1) (w 2) (w 3) cm) k5 hq2 h8 rfl rfl rfl rfl rfl rfl (fun j hj => by rcases (by omega : j = 0 ∨ j = 1 ∨ j = 2 ∨ j = 3) with rfl | rfl | rfl | rfl <;> rfl)
      refine s_FC_settleFound_114 ?_
      refine s_FC_settleFound_115 ?_
      refine s_FC_settleFound_116 (by rfl) (by exact kp1) ?_
      refine s_FC_settleFound_119 ?_
      refine s_FC_settleFound_120 (by rfl) (by exact kp1) ?_
      refine s_FC_settleFound_123 ?_
      refine s_FC_settleFound_124 ?_
      refine s_FC_settleFound_125 (by rfl) (by exact km1) ?_
      rw [c6, c7, c14]
      refine s_FC_settleFound_128 (b1 := 0) (b2 := b) (by first | rfl | assumption | (simp [*]; done)) (ex_up (by omega) hen) ?_ (by omega)
      rintro _ _ I3 F3 ⟨rfl, rfl, x3', hE, h358⟩
      dsimp only [Option.toList, List.cons_append, List.nil_append]
      have xf := mk x3'
      have R2 := Rc_0 xf R1
      obtain ⟨S, c, s1', s2, s3⟩ := R2.2.2.1
      have hq3 := Rs_x xf i0 hq1
      have hok : ent_ok K2 I3 F3 n111 := ⟨hE.1, q, m, h358, hq3.1, by rw [hq3.2.2.1]; exact hm7, hm1, hm9⟩
      have hsz : szN I3 F3 n111 = m := by unfold szN; rw [h358, Option.getD_some, hq3.2.2.1, hm7, nI_clamp (by omega)]
      have e356 : I3 356 n111 0 = w 2 := hE.2.1
      have e357 : I3 357 n111 0 = w 3 := hE.2.2.1
      have e294 : I3 294 q 0 = cm 8 := hq3.2.2.2.1
      have hadd := sp_sadd (Γ := Γ) (d := d) (b := 0) s2 hok h358 (by rw [e294]; exact h8) hsz
      rw [e356, e357, e294] at hadd
      have hcap := s2.2.2.2.2.1
      have hfr : ∀ k, 1 ≤ k → k ≤ g.2.2.2 → g.1 k ≠ n111 := fun k k1 k2 e => by
        have := (hg.2.2.2.2 k k1 k2).1
        rw [e, fn111] at this
        exact absurd this (by decide)
      have x2' : F3 101 (a 0) 0 = some (a 3) := R2.1.1.2.2.1
      have x2b : F 101 (a 0) 0 = some (a 3) := x2
      refine s_FC_settleFound_131 (b1 := 0) (b2 := b) (by exact x2) (by exact s2.1) (ex_up (by omega) hadd) ?_ (by omega)
      rintro _ _ I4 F4 ⟨rfl, rfl, f4, g4⟩
      dsimp only [Option.toList, List.cons_append, List.nil_append]
      refine s_FC_settleFound_134 ?_
      have XC : xw (sfP p) K I F K2 I4 F4 := xw_trans XB (xw_trans (xw_mono xf (fun _ _ _ h => h.elim)) (sf_st (xs_of f4)))
      by_cases hc : c < m
      · rw [if_pos hc] at g4
        have hlt : s1.1 804 0 < cm 7 := by rw [s1', hm7]; exact nI_lt hc (by omega)
        rw [q804] at hlt
        refine ⟨rfl, g, gx_rfl, XC, ?_⟩
        rw [if_neg (fun z => z.2.2 (by rw [q804]; exact hlt))]
        have R3 := Rc_st1 (L := s1.2 14) R2 (xs_of f4) ⟨S, c, s1', g4, by rw [tu_at]; exact f2_mono (fun p _ row h => Er_st f4 h) s3⟩
        rw [tu_id] at R3
        exact R3
      · rw [if_neg hc] at g4
        have hlt : ¬ s1.1 804 0 < cm 7 := by rw [s1', hm7]; exact nI_nlt (by omega) (by omega)
        refine ⟨rfl, gE g n111, gx_E, XC, ?_⟩
        rw [if_pos ⟨hz, hw8, hlt⟩]
        by_cases hv : cm 8 = 0
        · rw [if_pos hv] at g4
          exact Rc_stored R2 s1' s2 s3 hE hfr f4 g4 hm7 hm9 (fun p' row h => by rw [mE_path _ h, if_pos hv]; rfl) hN
        · rw [if_neg hv] at g4
          exact Rc_stored R2 s1' s2 s3 hE hfr f4 g4 hm7 hm9 (fun p' row h => by rw [mE_mtb _ _ h, if_neg hv]; rfl) hN
