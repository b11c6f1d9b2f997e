/-! The class: a message comes to an origin -/
theorem Rc_oo {K : ex_K} {I : ex_I} {F : ex_F} {a : Nat → Nat} {g : GH} {t : Nat} {s : MS} (hR : Rc K I F a g 3 s) : Rc K I F a g (t + 10) s := by
  obtain ⟨r1, r2, r3, r4, r5, r6, r7, r8, r9, r10⟩ := hR
  exact ⟨r1, r2, r3, r4, r5, fun u hu _ => r6 u hu (by omega), fun u hu _ => r7 u hu (by omega), r8, r9, r10⟩
theorem Rc_oc {K : ex_K} {I : ex_I} {F : ex_F} {a : Nat → Nat} {g : GH} {t : Nat} {s : MS} (hR : Rc K I F a g (t + 10) s) (hc : c_or K I F a t (s.1 28 t) (s.1 29 t) (s.1 (300 + t))) : Rc K I F a g 3 s := by
  obtain ⟨r1, r2, r3, r4, r5, r6, r7, r8, r9, r10⟩ := hR
  refine ⟨r1, r2, r3, r4, r5, fun u hu _ => ?_, fun u hu _ => r7 u hu (by omega), r8, r9, r10⟩
  by_cases e : u = t
  · subst e
    exact hc
  · exact r6 u hu (by omega)
theorem Rc_oh {K K' : ex_K} {I I' : ex_I} {F F' : ex_F} {a : Nat → Nat} {g : GH} {t : Nat} {s s' : MS} (hR : Rc K I F a g (t + 10) s) (ht : t < 3) (h : xw (lP [(677, a (20 + t)), (678, a (20 + t))]) K I F K' I' F') (h1 : ∀ k, k ≠ 29 → k ≠ 300 + t → s'.1 k = s.1 k) (h2 : ∀ u, u ≠ t → s'.1 29 u = s.1 29 u) (h3 : s'.2 = s.2) : Rc K' I' F' a g (t + 10) s' := by
  have hi : imm (lP [(677, a (20 + t)), (678, a (20 + t))]) := im_l (by simp [xmut])
  refine Rc_gen hR h hi (Or.inl ⟨⟨by simp [lP], by simp [lP]⟩, h1 3 (by decide) (by omega), h1 808 (by decide) (by omega)⟩) (Or.inl ⟨⟨by simp [lP], by simp [lP], by simp [lP], fun _ => ⟨by simp [lP], by simp [lP]⟩⟩, h1 804 (by decide) (by omega), by rw [h3]⟩) (Or.inl ⟨⟨by simp [lP], by simp [lP]⟩, by rw [h3]⟩) (Or.inl ⟨by simp [lP], h1 8 (by decide) (by omega), h1 9 (by decide) (by omega), h1 10 (by decide) (by omega), h1 11 (by decide) (by omega)⟩) (fun u hu hz => ?_) (fun u hu hz => Or.inl ⟨by simp [cnP, lP], nqP_all (fun _ => by simp [lP]) (fun _ => by simp [lP]) (fun _ => by simp [lP]) (fun _ => by simp [lP]) _, by rw [h1 24 (by decide) (by omega)], by rw [h1 25 (by decide) (by omega)], by rw [h1 26 (by decide) (by omega)], by rw [h1 27 (by decide) (by omega)], by rw [h3]⟩) (Or.inl ⟨by simp [lP], fun _ _ => ⟨by simp [lP], by simp [lP], by simp [lP], by simp [lP]⟩, h1 17 (by decide) (by omega), h1 18 (by decide) (by omega), h1 19 (by decide) (by omega), h1 20 (by decide) (by omega)⟩) (Or.inl ⟨⟨by simp [lP], by simp [lP], by simp [lP]⟩, by rw [h1 805 (by decide) (by omega)], by rw [h1 806 (by decide) (by omega)], by rw [h1 820 (by decide) (by omega)]⟩) ⟨by rw [h1 820 (by decide) (by omega)], by rw [h1 817 (by decide) (by omega)]⟩
  have na := (hR.1.2.2.2.1 u t hu ht (by omega)).1
  exact Or.inl ⟨⟨by simp [lP], by simp [lP, na], by simp [lP, na]⟩, by rw [h1 28 (by decide) (by omega)], h2 u (by omega), h1 _ (by omega) (by omega)⟩
theorem sp_cto {Γ : ex_G} {d : Nat} {K : ex_K} {I : ex_I} {F : ex_F} {b : Nat} {t p mp : Nat} {a : Nat → Nat} {g : GH} {s : MS} {cm : Nat → Int32} (hR : Rc K I F a g 3 s) (hM : Ms K I F mp cm) (ht : t < 3) (hc0 : cm 0 = nI t) (h1 : cm 1 = 0) (hp : ¬ cm 2 = 0 → p < 8 ∧ cm 5 = nI p ∧ (cm 3 = 1 ∨ cm 3 = 2 ∨ cm 3 = 3)) {N bb zz : Nat} (hJ : J N bb zz s) (hN : N ≤ 1000) :
    ex_E Γ (d + 4) M_FC_comeToOrigin 0 [some (.inr (some (a 0))), some (.inr (some mp)), none] [] K I F (b + 2) (fun r K' I' F' => r = none ∧ Rc K' I' F' a g 3 (m_ato s t p cm)) := by
  obtain ⟨x0, x1, x2, x3, x4, x5, x6, x7, x8⟩ := hR.1.1
  obtain ⟨t1, t2, -⟩ := hR.1.2.2.1 t ht
  have ko : (K (a 9)).1 = 32 := by rw [hR.1.2.1.2.2.1]
  have ko2 : (K (a 9)).2 = 3 := by rw [hR.1.2.1.2.2.1]
  have kx : (K (a 5)).1 = 9 := by
    obtain ⟨U, hu, -⟩ := hR.2.2.2.1
    exact hu.1
  have km := hM.1
  obtain ⟨c1, c2, c3⟩ := hR.2.2.2.2.2.1 t ht (by omega)
  have m0 : I 548 mp 0 = nI t := by rw [hM.2.1, hc0]
  have m2 : I 550 mp 0 = cm 2 := hM.2.2.2.1
  unfold m_ato
  by_cases h28 : s.1 28 t = 0
  · rw [if_pos h28]
    rw [if_pos h28] at c1
    by_cases h2 : cm 2 = 0
    · rw [if_pos h2]
      have f553 := hM.2.2.2.2.2.2.2.1 h1 h2
      refine s_FC_comeToOrigin_0 ?_
      refine s_FC_comeToOrigin_1 (by first | rfl | assumption | (simp [*]; done)) (by first | rfl | assumption | (simp [*]; done)) ?_
      refine s_FC_comeToOrigin_4 ?_
      refine s_FC_comeToOrigin_5 (by first | rfl | assumption | (simp [*]; done)) (by first | rfl | assumption | (simp [*]; done)) ?_
      rw [m0]
      refine s32_FC_comeToOrigin_8 (by exact x6) (by exact ko) (by rw [ko2]; exact vp_in_nI ht (by omega)) ?_
      rw [nI_clamp (by omega), t1]
      refine s_FC_comeToOrigin_9 ?_
      refine s_FC_comeToOrigin_10 ?_
      refine s_FC_comeToOrigin_11 (by rfl) (by exact t2) ?_
      refine s_FC_comeToOrigin_14 (fun h14 => ?_) (fun h14 => absurd h14 (by rw [c1]; decide))
      refine s_FC_comeToOrigin_18 ?_
      refine s_FC_comeToOrigin_19 (by first | rfl | assumption | (simp [*]; done)) (by first | rfl | assumption | (simp [*]; done)) ?_
      refine s_FC_comeToOrigin_22 (fun _ h22 => absurd h22 (by rw [f553] at h22; cases h22)) (fun h22 => ?_)
      refine s_FC_comeToOrigin_25 ?_
      refine s_FC_comeToOrigin_26 (by first | rfl | assumption | (simp [*]; done)) (by first | rfl | assumption | (simp [*]; done)) ?_
      refine s_FC_comeToOrigin_29 (fun n29 fn29 => ?_)
      have xn : xw (fun _ _ => False) K I F (ex_nk K n29 8 0) (ex_ni I n29) (ex_nr F n29) := xw_new fn29
      have i0 : imm (fun _ _ => False) := fun _ _ h => h.elim
      have k8 : (ex_nk K n29 8 0 n29).1 = 8 := by rw [ex_nk_at]
      have M1 := Ms_x xn i0 hM
      have nm : mp ≠ n29 := fun e => by have := hM.1; rw [e, fn29] at this; exact absurd this (by decide)
      have kx1 : (ex_nk K n29 8 0 (a 5)).1 = 9 := xw_K xn (by decide) kx
      have mk : ∀ {K' : ex_K} {I' : ex_I} {F' : ex_F}, xw (fun _ c => c = n29) (ex_nk K n29 8 0) (ex_ni I n29) (ex_nr F n29) K' I' F' → xw (fun _ _ => False) K I F K' I' F' := fun h => xw_made fn29 h
      generalize ex_nk K n29 8 0 = K1 at xn k8 M1 mk kx1 ⊢
      generalize ex_ni I n29 = I1 at xn M1 mk ⊢
      generalize ex_nr F n29 = F1 at xn M1 mk ⊢
      have n0' : I1 548 mp 0 = nI t := by rw [M1.2.1, hc0]
      have n2' : I1 550 mp 0 = 0 := by rw [M1.2.2.2.1, h2]
      refine s_FC_comeToOrigin_32 ?_
      refine s_FC_comeToOrigin_33 ?_
      refine s_FC_comeToOrigin_34 ?_
      refine s_FC_comeToOrigin_35 (b1 := 0) (b2 := b) (by first | rfl | assumption | (simp [*]; done)) (ex_up (by omega) (sp_msg2 (d := d) k8 M1.1 nm n0' n2' (by decide))) ?_ (by omega)
      rintro _ _ I2 F2 ⟨rfl, rfl, xz, mz⟩
      dsimp only [Option.toList, List.cons_append, List.nil_append]
      have xf := mk xz
      have R2 := Rc_0 xf hR
      refine s_FC_comeToOrigin_38 (b1 := 0) (b2 := b) (by exact x3) (by exact kx1) (ex_up (d := d) (by omega) (sp_sendC R2 mz)) ?_ (by omega)
      rintro r4 _ I4 F4 ⟨⟨x4, rfl⟩, rfl, xu, R4⟩
      dsimp only [Option.toList, List.cons_append, List.nil_append]
      refine s_FC_comeToOrigin_41 ?_
      refine s_FC_comeToOrigin_42 ?_
      exact ⟨rfl, R4⟩
    · rw [if_neg h2]
      obtain ⟨q, f553, kq, -⟩ := hM.2.2.2.2.2.2.2.2.1 h1 h2
      obtain ⟨hp1, hp2, hp3⟩ := hp h2
      by_cases hle : cm 2 ≤ s.1 29 t
      · by_cases heq : cm 2 = s.1 29 t
        · rw [if_pos heq]
          obtain ⟨la, l1, l2⟩ := c3 (by rw [← heq]; exact h2)
          refine s_FC_comeToOrigin_0 ?_
          refine s_FC_comeToOrigin_1 (by first | rfl | assumption | (simp [*]; done)) (by first | rfl | assumption | (simp [*]; done)) ?_
          refine s_FC_comeToOrigin_4 ?_
          refine s_FC_comeToOrigin_5 (by first | rfl | assumption | (simp [*]; done)) (by first | rfl | assumption | (simp [*]; done)) ?_
          rw [m0]
          refine s32_FC_comeToOrigin_8 (by exact x6) (by exact ko) (by rw [ko2]; exact vp_in_nI ht (by omega)) ?_
          rw [nI_clamp (by omega), t1]
          refine s_FC_comeToOrigin_9 ?_
          refine s_FC_comeToOrigin_10 ?_
          refine s_FC_comeToOrigin_11 (by rfl) (by exact t2) ?_
          refine s_FC_comeToOrigin_14 (fun h14 => ?_) (fun h14 => absurd h14 (by rw [c1]; decide))
          refine s_FC_comeToOrigin_18 ?_
          refine s_FC_comeToOrigin_19 (by first | rfl | assumption | (simp [*]; done)) (by first | rfl | assumption | (simp [*]; done)) ?_
          refine s_FC_comeToOrigin_22 (fun ah22 h22 => ?_) (fun h22 => absurd h22 (by intro w; rw [f553] at w; cases w))
          refine s_FC_comeToOrigin_43 ?_
          refine s_FC_comeToOrigin_44 (by first | rfl | assumption | (simp [*]; done)) (by first | rfl | assumption | (simp [*]; done)) ?_
          refine s_FC_comeToOrigin_47 ?_
          refine s_FC_comeToOrigin_48 (by rfl) (by exact t2) ?_
          refine s_FC_comeToOrigin_51 (fun h51 => ?_) (fun h51 => absurd h51 (by rw [m2, c2]; exact fun z => z hle))
          refine s_FC_comeToOrigin_75 ?_
          refine s_FC_comeToOrigin_76 (by first | rfl | assumption | (simp [*]; done)) (by first | rfl | assumption | (simp [*]; done)) ?_
          refine s_FC_comeToOrigin_79 ?_
          refine s_FC_comeToOrigin_80 (by rfl) (by exact t2) ?_
          refine s_FC_comeToOrigin_83 (fun h83 => absurd h83 (by rw [m2, c2]; exact fun z => z heq)) (fun h83 => ?_)
          refine s_FC_comeToOrigin_86 ?_
          refine s_FC_comeToOrigin_87 (by rfl) (by exact t2) ?_
          refine s_FC_comeToOrigin_90 (fun h90 => absurd h90 (by rw [l1] at h90; cases h90)) (fun ah90 h90 => ?_)
          refine s_FC_comeToOrigin_93 ?_
          refine s_FC_comeToOrigin_94 (by first | rfl | assumption | (simp [*]; done)) (by first | rfl | assumption | (simp [*]; done)) ?_
          refine s_FC_comeToOrigin_97 ?_
          refine s_FC_comeToOrigin_98 (by rfl) (by exact t2) ?_
          refine s_FC_comeToOrigin_101 (b1 := 0) (b2 := b) (by exact x3) (by exact kx) (ex_up (d := d) (by omega) (by rw [l1]; exact sp_sendC hR l2)) ?_ (by omega)
          rintro r4 _ I4 F4 ⟨⟨x4, rfl⟩, rfl, xu, R4⟩
          dsimp only [Option.toList, List.cons_append, List.nil_append]
          refine s_FC_comeToOrigin_104 ?_
          refine s_FC_comeToOrigin_105 ?_
          exact ⟨rfl, R4⟩
        · rw [if_neg heq, if_pos hle]
          refine s_FC_comeToOrigin_0 ?_
          refine s_FC_comeToOrigin_1 (by first | rfl | assumption | (simp [*]; done)) (by first | rfl | assumption | (simp [*]; done)) ?_
          refine s_FC_comeToOrigin_4 ?_
          refine s_FC_comeToOrigin_5 (by first | rfl | assumption | (simp [*]; done)) (by first | rfl | assumption | (simp [*]; done)) ?_
          rw [m0]
          refine s32_FC_comeToOrigin_8 (by exact x6) (by exact ko) (by rw [ko2]; exact vp_in_nI ht (by omega)) ?_
          rw [nI_clamp (by omega), t1]
          refine s_FC_comeToOrigin_9 ?_
          refine s_FC_comeToOrigin_10 ?_
          refine s_FC_comeToOrigin_11 (by rfl) (by exact t2) ?_
          refine s_FC_comeToOrigin_14 (fun h14 => ?_) (fun h14 => absurd h14 (by rw [c1]; decide))
          refine s_FC_comeToOrigin_18 ?_
          refine s_FC_comeToOrigin_19 (by first | rfl | assumption | (simp [*]; done)) (by first | rfl | assumption | (simp [*]; done)) ?_
          refine s_FC_comeToOrigin_22 (fun ah22 h22 => ?_) (fun h22 => absurd h22 (by intro w; rw [f553] at w; cases w))
          refine s_FC_comeToOrigin_43 ?_
          refine s_FC_comeToOrigin_44 (by first | rfl | assumption | (simp [*]; done)) (by first | rfl | assumption | (simp [*]; done)) ?_
          refine s_FC_comeToOrigin_47 ?_
          refine s_FC_comeToOrigin_48 (by rfl) (by exact t2) ?_
          refine s_FC_comeToOrigin_51 (fun h51 => ?_) (fun h51 => absurd h51 (by rw [m2, c2]; exact fun z => z hle))
          refine s_FC_comeToOrigin_75 ?_
          refine s_FC_comeToOrigin_76 (by first | rfl | assumption | (simp [*]; done)) (by first | rfl | assumption | (simp [*]; done)) ?_
          refine s_FC_comeToOrigin_79 ?_
          refine s_FC_comeToOrigin_80 (by rfl) (by exact t2) ?_
          refine s_FC_comeToOrigin_83 (fun h83 => ?_) (fun h83 => absurd h83 (by rw [m2, c2]; exact heq))
          refine s_FC_comeToOrigin_105 ?_
          exact ⟨rfl, hR⟩
      · have hne : ¬ cm 2 = s.1 29 t := fun e => hle (by rw [e]; exact Int32.le_refl _)
        rw [if_neg hne, if_neg hle]
        refine s_FC_comeToOrigin_0 ?_
        refine s_FC_comeToOrigin_1 (by first | rfl | assumption | (simp [*]; done)) (by first | rfl | assumption | (simp [*]; done)) ?_
        refine s_FC_comeToOrigin_4 ?_
        refine s_FC_comeToOrigin_5 (by first | rfl | assumption | (simp [*]; done)) (by first | rfl | assumption | (simp [*]; done)) ?_
        rw [m0]
        refine s32_FC_comeToOrigin_8 (by exact x6) (by exact ko) (by rw [ko2]; exact vp_in_nI ht (by omega)) ?_
        rw [nI_clamp (by omega), t1]
        refine s_FC_comeToOrigin_9 ?_
        refine s_FC_comeToOrigin_10 ?_
        refine s_FC_comeToOrigin_11 (by rfl) (by exact t2) ?_
        refine s_FC_comeToOrigin_14 (fun h14 => ?_) (fun h14 => absurd h14 (by rw [c1]; decide))
        refine s_FC_comeToOrigin_18 ?_
        refine s_FC_comeToOrigin_19 (by first | rfl | assumption | (simp [*]; done)) (by first | rfl | assumption | (simp [*]; done)) ?_
        refine s_FC_comeToOrigin_22 (fun ah22 h22 => ?_) (fun h22 => absurd h22 (by intro w; rw [f553] at w; cases w))
        refine s_FC_comeToOrigin_43 ?_
        refine s_FC_comeToOrigin_44 (by first | rfl | assumption | (simp [*]; done)) (by first | rfl | assumption | (simp [*]; done)) ?_
        refine s_FC_comeToOrigin_47 ?_
        refine s_FC_comeToOrigin_48 (by rfl) (by exact t2) ?_
        refine s_FC_comeToOrigin_51 (fun h51 => absurd h51 (by rw [m2, c2]; exact hle)) (fun h51 => ?_)
        refine s_FC_comeToOrigin_54 ?_
        refine s_FC_comeToOrigin_55 ?_
        refine s_FC_comeToOrigin_56 (by first | rfl | assumption | (simp [*]; done)) (by first | rfl | assumption | (simp [*]; done)) ?_
        refine s_FC_comeToOrigin_59 (by rfl) (by exact t2) ?_
        rw [m2]
        have xo : xw (lP [(677, a (20 + t)), (678, a (20 + t))]) K I F K (ex_ui I 677 (a (20 + t)) 0 (cm 2)) F := xw_ui (by simp [lP])
        have io : imm (lP [(677, a (20 + t)), (678, a (20 + t))]) := im_l (by simp [xmut])
        have R1 : Rc K (ex_ui I 677 (a (20 + t)) 0 (cm 2)) F a g (t + 10) (cw s 29 t (cm 2)) := Rc_oh (Rc_oo hR) ht xo (fun k hk _ => cw_ne _ _ _ hk) (fun u hu => cw_u _ _ _ _ hu) rfl
        have M1 := Ms_x xo io hM
        have a1 : ex_ui I 677 (a (20 + t)) 0 (cm 2) 677 (a (20 + t)) 0 = cm 2 := ex_ui_eq _ _ _ _ _
        have a2 : ex_ui I 677 (a (20 + t)) 0 (cm 2) 676 (a (20 + t)) 0 = 1 := by rw [ex_ui_f _ _ _ _ (by decide)]; exact c1
        generalize ex_ui I 677 (a (20 + t)) 0 (cm 2) = I1 at xo R1 M1 a1 a2 ⊢
        have h806 : ¬ s.1 806 0 + 1 = 0 := by
          have v0 := hJ.1.1 806 (by decide)
          have vi := jinc (x := s.1 806 0) (by omega) (by omega)
          refine jne ?_
          rw [vi, Int32.toInt_zero]
          omega
        have hao := sp_ansO (Γ := Γ) (d := d) (b := b) R1 M1 h1 h2 f553 hp1 hp2 hp3 (fun h => (hJ.2.2.2.2.1 p hp1 h).2.2.2) h806
        rw [hc0] at hao
        refine s_FC_comeToOrigin_62 ?_
        refine s_FC_comeToOrigin_63 ?_
        refine s_FC_comeToOrigin_64 ?_
        refine s_FC_comeToOrigin_65 ?_
        refine s_FC_comeToOrigin_66 (by first | rfl | assumption | (simp [*]; done)) (by first | rfl | assumption | (simp [*]; done)) ?_
        rw [f553]
        refine s_FC_comeToOrigin_69 (b1 := b + 2) (b2 := 0) (by rfl) (by exact x0) (hao) ?_ (by omega)
        rintro _ K2 I2 F2 ⟨ans, rfl, X2, R2, MA⟩
        dsimp only [Option.toList, List.cons_append, List.nil_append]
        have t22 : (K2 (a (20 + t))).1 = 10 := xw_K X2 (by decide) t2
        have ww := wks_24 (s := cw s 29 t (cm 2)) (p := p) (cm := cm)
        refine s_FC_comeToOrigin_72 (by rfl) (by exact t22) ?_
        have xp : xw (lP [(677, a (20 + t)), (678, a (20 + t))]) K2 I2 F2 K2 I2 (ex_uf F2 678 (a (20 + t)) 0 (some ans)) := xw_uf (by simp [lP])
        have R3 : Rc K2 I2 (ex_uf F2 678 (a (20 + t)) 0 (some ans)) a g (t + 10) (cu (m_wks (cw s 29 t (cm 2)) p cm) (300 + t) (m_wkr (cw s 29 t (cm 2)) (nI t) (cm 2) p cm)) := Rc_oh R2 ht xp (fun k _ hk => cu_ne _ _ hk) (fun u hu => by rw [cu_ne _ _ (by omega)]) rfl
        have MA3 := Ms_x xp io MA
        have iX : imm (lP [(109, a 0), (31, a 8)]) := im_l (by simp [xmut])
        have M3 := Ms_x xp io (Ms_x X2 iX M1)
        have b1 : I2 677 (a (20 + t)) 0 = cm 2 := by rw [xw_i X2 (by decide) t2 (by simp [lP])]; exact a1
        have b2 : I2 676 (a (20 + t)) 0 = 1 := by rw [xw_i X2 (by decide) t2 (by simp [lP])]; exact a2
        have b3 : ex_uf F2 678 (a (20 + t)) 0 (some ans) 678 (a (20 + t)) 0 = some ans := ex_uf_eq _ _ _ _ _
        have x32 : ex_uf F2 678 (a (20 + t)) 0 (some ans) 102 (a 0) 0 = some (a 5) := R3.1.1.2.2.2.1
        have kx0 : (K2 (a 0)).1 = 1 := R3.1.1.1
        have kx2 : (K2 (a 5)).1 = 9 := by
          obtain ⟨U, hu, -⟩ := R3.2.2.2.1
          exact hu.1
        have e28 : (cu (m_wks (cw s 29 t (cm 2)) p cm) (300 + t) (m_wkr (cw s 29 t (cm 2)) (nI t) (cm 2) p cm)).1 28 t = 0 := by
          rw [cu_ne _ _ (by omega), wks_29, cw_ne _ _ _ (by decide)]
          have w28 : (m_wks s p cm).1 28 = s.1 28 := by
            unfold m_wks
            split
            · rfl
            · split
              · split <;> rfl
              · rfl
          rw [w28]
          exact h28
        have e29 : (cu (m_wks (cw s 29 t (cm 2)) p cm) (300 + t) (m_wkr (cw s 29 t (cm 2)) (nI t) (cm 2) p cm)).1 29 t = cm 2 := by
          rw [cu_ne _ _ (by omega), wks_29, cw_at]
          exact if_pos rfl
        have e300 : (cu (m_wks (cw s 29 t (cm 2)) p cm) (300 + t) (m_wkr (cw s 29 t (cm 2)) (nI t) (cm 2) p cm)).1 (300 + t) = m_wkr (cw s 29 t (cm 2)) (nI t) (cm 2) p cm := cu_at _ _ _
        have R4 := Rc_oc R3 (by
          rw [e28, e29, e300]
          exact ⟨by rw [if_pos rfl]; exact b2, b1, fun _ => ⟨ans, b3, MA3⟩⟩)
        unfold m_atw
        simp only []
        generalize ex_uf F2 678 (a (20 + t)) 0 (some ans) = F3 at R4 MA3 M3 b3 x32 ⊢
        have n2 : I2 550 mp 0 = cm 2 := M3.2.2.2.1
        have kn := M3.1
        refine s_FC_comeToOrigin_75 ?_
        refine s_FC_comeToOrigin_76 (by rfl) (by exact kn) ?_
        refine s_FC_comeToOrigin_79 ?_
        refine s_FC_comeToOrigin_80 (by rfl) (by exact t22) ?_
        refine s_FC_comeToOrigin_83 (fun h83 => absurd h83 (by rw [n2, b1]; exact fun z => z rfl)) (fun h83 => ?_)
        refine s_FC_comeToOrigin_86 ?_
        refine s_FC_comeToOrigin_87 (by rfl) (by exact t22) ?_
        refine s_FC_comeToOrigin_90 (fun h90 => absurd h90 (by rw [b3] at h90; cases h90)) (fun ah90 h90 => ?_)
        refine s_FC_comeToOrigin_93 ?_
        refine s_FC_comeToOrigin_94 (by rfl) (by exact kx0) ?_
        refine s_FC_comeToOrigin_97 ?_
        refine s_FC_comeToOrigin_98 (by rfl) (by exact t22) ?_
        refine s_FC_comeToOrigin_101 (b1 := 0) (b2 := 0) (by exact x32) (by exact kx2) (ex_up (d := d) (by omega) (by rw [b3]; exact sp_sendC R4 MA3)) ?_ (by omega)
        rintro r4 _ I4 F4 ⟨⟨x4, rfl⟩, rfl, xu, R5⟩
        dsimp only [Option.toList, List.cons_append, List.nil_append]
        refine s_FC_comeToOrigin_104 ?_
        refine s_FC_comeToOrigin_105 ?_
        exact ⟨rfl, R5⟩
  · rw [if_neg h28]
    rw [if_neg h28] at c1
    refine s_FC_comeToOrigin_0 ?_
    refine s_FC_comeToOrigin_1 (by first | rfl | assumption | (simp [*]; done)) (by first | rfl | assumption | (simp [*]; done)) ?_
    refine s_FC_comeToOrigin_4 ?_
    refine s_FC_comeToOrigin_5 (by first | rfl | assumption | (simp [*]; done)) (by first | rfl | assumption | (simp [*]; done)) ?_
    rw [m0]
    refine s32_FC_comeToOrigin_8 (by exact x6) (by exact ko) (by rw [ko2]; exact vp_in_nI ht (by omega)) ?_
    rw [nI_clamp (by omega), t1]
    refine s_FC_comeToOrigin_9 ?_
    refine s_FC_comeToOrigin_10 ?_
    refine s_FC_comeToOrigin_11 (by rfl) (by exact t2) ?_
    refine s_FC_comeToOrigin_14 (fun h14 => absurd h14 (by rw [c1]; exact fun z => z rfl)) (fun h14 => ?_)
    refine s_FC_comeToOrigin_17 ?_
    exact ⟨rfl, hR⟩
