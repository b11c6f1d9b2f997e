/-! The class: connections tick, hear, finish, take in -/
theorem sp_due {Γ : ex_G} {d : Nat} {K : ex_K} {I : ex_I} {F : ex_F} {b : Nat} {t : Nat} {a : Nat → Nat} {g : GH} {s : MS} (hR : Rc K I F a g 3 s) (ht : t < 3) {N bb : Nat} (hJ : J N bb 3 s) (hN : N ≤ 1000) (hb : bb ≤ t) :
    ex_E Γ (d + 4) M_Con_doWhatIsDue 0 [some (.inr (some (a (30 + t)))), some (.inl (s.1 805 0)), some (.inr (some (a 5))), none] [] K I F (b + 1) (fun r K' I' F' => r = none ∧ xi K I F K' I' F' ∧ Rc K' I' F' a g 3 (m_tk s t)) := by
  obtain ⟨R0, hn, hq, hw⟩ := Rc_open hR ht
  obtain ⟨-, -, -, u1, u5, u6, u7, u2, u3⟩ := hR.1.2.2.1 t ht
  have kx : (K (a 5)).1 = 9 := by
    obtain ⟨U, hu, -⟩ := hR.2.2.2.1
    exact hu.1
  have hz : s.1 27 t = 0 ∨ s.1 27 t = 1 := (hJ.1.2 t ht).2.2.2.2.1
  unfold m_tk
  by_cases h27 : s.1 27 t = 0
  · rw [if_pos h27]
    cases hQ : s.2 (100 + t) with
    | nil =>
      have f5 := hw.1 hQ
      refine s_Con_doWhatIsDue_0 ?_
      refine s_Con_doWhatIsDue_1 (by first | rfl | assumption | (simp [*]; done)) (by first | rfl | assumption | (simp [*]; done)) ?_
      refine s_Con_doWhatIsDue_4 (fun h4 => ?_) (fun h4 => absurd h4 (by rw [hn.1]; exact fun z => z h27))
      refine s_Con_doWhatIsDue_29 ?_
      refine s_Con_doWhatIsDue_30 (by first | rfl | assumption | (simp [*]; done)) (by first | rfl | assumption | (simp [*]; done)) ?_
      refine s_Con_doWhatIsDue_33 (fun _ h33 => absurd h33 (by rw [f5] at h33; cases h33)) (fun h33 => ?_)
      refine s_Con_doWhatIsDue_36 ?_
      exact ⟨rfl, xi_rfl, hR⟩
    | cons w Q =>
      simp only []
      obtain ⟨w1, p, w2, w3⟩ := hw.2 w Q hQ
      obtain ⟨k, k1, k2⟩ := hJ.2.1 t ht (by omega) h27 (by rw [hQ]; exact List.cons_ne_nil _ _)
      rw [if_neg (by omega)] at k1
      have e12 : ∀ j, j < 100 → (s.1 805 0 - s.1 25 t = nI j ↔ k = j) := fun j hj => by rw [k2]; exact nI_eq (by omega) (by omega)
      have hsf : m_sf s t = tu s 31 (m_snd (s.2 31) (rqr (nI t) (s.1 24 t) w)) := by unfold m_sf; rw [hQ]
      refine s_Con_doWhatIsDue_0 ?_
      refine s_Con_doWhatIsDue_1 (by first | rfl | assumption | (simp [*]; done)) (by first | rfl | assumption | (simp [*]; done)) ?_
      refine s_Con_doWhatIsDue_4 (fun h4 => ?_) (fun h4 => absurd h4 (by rw [hn.1]; exact fun z => z h27))
      refine s_Con_doWhatIsDue_29 ?_
      refine s_Con_doWhatIsDue_30 (by first | rfl | assumption | (simp [*]; done)) (by first | rfl | assumption | (simp [*]; done)) ?_
      refine s_Con_doWhatIsDue_33 (fun ah33 h33 => ?_) (fun h33 => absurd h33 (by intro z; rw [w2] at z; cases z))
      refine s_Con_doWhatIsDue_37 ?_
      refine s_Con_doWhatIsDue_38 ?_
      refine s_Con_doWhatIsDue_39 (by first | rfl | assumption | (simp [*]; done)) (by first | rfl | assumption | (simp [*]; done)) ?_
      refine s_Con_doWhatIsDue_42 ?_
      refine s_Con_doWhatIsDue_43 ?_
      rw [w1]
      refine s_Con_doWhatIsDue_44 ?_
      refine s_Con_doWhatIsDue_45 ?_
      refine s_Con_doWhatIsDue_47 (fun h47 => ?_) (fun h47 => ?_)
      · refine s_Con_doWhatIsDue_59 ?_
        refine s_Con_doWhatIsDue_60 ?_
        refine s_Con_doWhatIsDue_61 (fun h61 => ?_) (fun h61 => ?_)
        · refine s_Con_doWhatIsDue_70 ?_
          refine s_Con_doWhatIsDue_71 ?_
          refine s_Con_doWhatIsDue_72 (by first | rfl | assumption | (simp [*]; done)) (by first | rfl | assumption | (simp [*]; done)) ?_
          refine s_Con_doWhatIsDue_75 (b1 := 0) (b2 := b) (by rfl) (by exact kx) (ex_up (d := d) (by omega) (by rw [w2]; exact sp_sendC (d := d) hR w3)) ?_ (by omega)
          rintro _ _ I4 F4 ⟨⟨x4, rfl⟩, rfl, xu, R4⟩
          dsimp only [Option.toList, List.cons_append, List.nil_append]
          refine s_Con_doWhatIsDue_78 ?_
          refine s_Con_doWhatIsDue_79 ?_
          have n12 : ¬ s.1 805 0 - s.1 25 t = 12 := fun e => by rw [e] at h47; exact absurd h47 (by decide)
          rw [if_neg n12, if_pos (Or.inl h61), hsf]
          exact ⟨rfl, xi_of xu im_u, R4⟩
        · refine s_Con_doWhatIsDue_64 ?_
          refine s_Con_doWhatIsDue_65 ?_
          refine s_Con_doWhatIsDue_67 (fun h67 => ?_) (fun h67 => ?_)
          · refine s_Con_doWhatIsDue_79 ?_
            have n12 : ¬ s.1 805 0 - s.1 25 t = 12 := fun e => by rw [e] at h47; exact absurd h47 (by decide)
            rw [if_neg n12, if_neg (fun z => z.elim h61 h67)]
            exact ⟨rfl, xi_rfl, hR⟩
          · refine s_Con_doWhatIsDue_70 ?_
            refine s_Con_doWhatIsDue_71 ?_
            refine s_Con_doWhatIsDue_72 (by first | rfl | assumption | (simp [*]; done)) (by first | rfl | assumption | (simp [*]; done)) ?_
            refine s_Con_doWhatIsDue_75 (b1 := 0) (b2 := b) (by rfl) (by exact kx) (ex_up (d := d) (by omega) (by rw [w2]; exact sp_sendC (d := d) hR w3)) ?_ (by omega)
            rintro _ _ I4 F4 ⟨⟨x4, rfl⟩, rfl, xu, R4⟩
            dsimp only [Option.toList, List.cons_append, List.nil_append]
            refine s_Con_doWhatIsDue_78 ?_
            refine s_Con_doWhatIsDue_79 ?_
            have n12 : ¬ s.1 805 0 - s.1 25 t = 12 := fun e => by rw [e] at h47; exact absurd h47 (by decide)
            rw [if_neg n12, if_pos (Or.inr h67), hsf]
            exact ⟨rfl, xi_of xu im_u, R4⟩
      · refine s_Con_doWhatIsDue_50 ?_
        refine s_Con_doWhatIsDue_51 ?_
        refine s_Con_doWhatIsDue_52 ?_
        refine s_Con_doWhatIsDue_53 (b1 := b + 1) (b2 := 0) (by rfl) (by exact u1) (sp_cgiveUp (d := d) hR ht hJ hN h27 hQ) ?_ (by omega)
        rintro _ K5 I5 F5 ⟨rfl, X5, R6⟩
        dsimp only [Option.toList, List.cons_append, List.nil_append]
        refine s_Con_doWhatIsDue_56 ?_
        refine s_Con_doWhatIsDue_79 ?_
        have e : s.1 805 0 - s.1 25 t = 12 := (e12 12 (by decide)).mpr (by
          rcases Nat.lt_or_ge k 12 with c | c
          · exfalso
            rw [k2] at h47
            exact h47 (nI_lt (b := 12) c (by decide))
          · omega)
        rw [if_pos e]
        exact ⟨rfl, X5, R6⟩
  · rw [if_neg h27]
    obtain ⟨d1, d2⟩ := hn.2.2.2 h27
    refine s_Con_doWhatIsDue_0 ?_
    refine s_Con_doWhatIsDue_1 (by first | rfl | assumption | (simp [*]; done)) (by first | rfl | assumption | (simp [*]; done)) ?_
    refine s_Con_doWhatIsDue_4 (fun h4 => absurd h4 (by rw [hn.1]; exact h27)) (fun h4 => ?_)
    refine s_Con_doWhatIsDue_7 ?_
    refine s_Con_doWhatIsDue_8 ?_
    refine s_Con_doWhatIsDue_9 (by first | rfl | assumption | (simp [*]; done)) (by first | rfl | assumption | (simp [*]; done)) ?_
    refine s_Con_doWhatIsDue_12 ?_
    rw [d1]
    refine s_Con_doWhatIsDue_13 ?_
    refine s_Con_doWhatIsDue_15 (by decide) ?_
    refine s_Con_doWhatIsDue_16 (fun h16 => ?_) (fun h16 => ?_)
    · refine s_Con_doWhatIsDue_28 ?_
      rw [if_neg h16]
      exact ⟨rfl, xi_rfl, hR⟩
    · refine s_Con_doWhatIsDue_19 ?_
      refine s_Con_doWhatIsDue_20 ?_
      refine s_Con_doWhatIsDue_21 (by first | rfl | assumption | (simp [*]; done)) (by first | rfl | assumption | (simp [*]; done)) ?_
      refine s_Con_doWhatIsDue_24 (b1 := 0) (b2 := b) (by rfl) (by exact kx) (ex_up (d := d) (by omega) (by rw [u6]; exact sp_sendC (d := d) hR u7)) ?_ (by omega)
      rintro _ _ I4 F4 ⟨⟨x4, rfl⟩, rfl, xu, R4⟩
      dsimp only [Option.toList, List.cons_append, List.nil_append]
      refine s_Con_doWhatIsDue_27 ?_
      refine s_Con_doWhatIsDue_28 ?_
      rw [if_pos h16]
      exact ⟨rfl, xi_of xu im_u, R4⟩
theorem sp_hearProbe {Γ : ex_G} {d : Nat} {K : ex_K} {I : ex_I} {F : ex_F} {b : Nat} {t : Nat} {a : Nat → Nat} {g : GH} {s : MS} (hR : Rc K I F a g 3 s) (ht : t < 3) :
    ex_E Γ d M_Con_hearProbe 0 [some (.inr (some (a (30 + t))))] [] K I F b (fun r K' I' F' => r = none ∧ xi K I F K' I' F' ∧ Rc K' I' F' a g 3 (m_prb s t)) := by
  obtain ⟨R0, hn, hq, hw⟩ := Rc_open hR ht
  obtain ⟨-, -, -, u1, u5, u6, u7, u2, u3⟩ := hR.1.2.2.1 t ht
  have kq : (K (a (40 + t))).1 = 34 := by rw [u3]
  unfold m_prb
  refine s_Con_hearProbe_0 ?_
  refine s_Con_hearProbe_1 ?_
  refine s_Con_hearProbe_2 (by first | rfl | assumption | (simp [*]; done)) (by first | rfl | assumption | (simp [*]; done)) ?_
  refine s_Con_hearProbe_5 ?_
  refine s_Con_hearProbe_6 ?_
  refine s_Con_hearProbe_7 (by exact Or.inl rfl) (by rfl) (by exact u1) ?_
  refine s_Con_hearProbe_10 ?_
  have x0 : xw (lP [(747, a (30 + t)), (748, a (30 + t))]) K I F K (ex_ui (ex_ui I 747 (a (30 + t)) 0 0) 748 (a (30 + t)) 0 0) F := xw_trans (xw_ui (by simp [lP])) (xw_ui (by simp [lP]))
  have i0 : imm (lP [(747, a (30 + t)), (748, a (30 + t))]) := im_l (by simp [xmut])
  have R1 : Rc K (ex_ui (ex_ui I 747 (a (30 + t)) 0 0) 748 (a (30 + t)) 0 0) F a g t s := Rc_h R0 ht (xw_trans (xw_ui (Or.inl ⟨by decide, rfl⟩)) (xw_ui (Or.inl ⟨by decide, rfl⟩))) (fun _ _ => rfl) (fun _ _ _ => rfl) (fun _ _ => rfl)
  have R2 := Rc_c (k := 27) (x := 0) (Rc_c (k := 26) (x := 0) R1 ht (by decide)) ht (by decide)
  refine ⟨rfl, xi_of x0 i0, Rc_close R2 ht ?_⟩
  have e26 : (cw (cw s 26 t 0) 27 t 0).1 26 t = 0 := by rw [cw_ne _ _ _ (by decide), cw_at]; exact if_pos rfl
  have e27 : (cw (cw s 26 t 0) 27 t 0).1 27 t = 0 := by rw [cw_at]; exact if_pos rfl
  rw [e26, e27]
  refine ⟨⟨ex_ui_eq _ _ _ _ _, ?_, fun _ => ?_, fun e => absurd rfl e⟩, c_q_x x0 i0 u1 kq (by simp [lP]) (by simp [lP]) (nqP_all (fun _ => by simp [lP]) (fun _ => by simp [lP]) (fun _ => by simp [lP]) (fun _ => by simp [lP]) _) hq, c_w_x x0 i0 u1 (by simp [lP]) (by simp [lP]) hw⟩
  · rw [ex_ui_f _ _ _ _ (by decide), ex_ui_f _ _ _ _ (by decide)]; exact hn.2.1
  · rw [ex_ui_f _ _ _ _ (by decide), ex_ui_eq]
theorem sp_finish_no {Γ : ex_G} {d : Nat} {K : ex_K} {I : ex_I} {F : ex_F} {b : Nat} {t : Nat} {a : Nat → Nat} {g : GH} {s : MS} {x : Int32} (hR : Rc K I F a g 3 s) (ht : t < 3) (hx : ∀ w Q, s.2 (100 + t) = w :: Q → ¬ x = s.1 24 t) :
    ex_E Γ (d + 1) M_Con_finish 0 [some (.inr (some (a (30 + t)))), some (.inl x)] [] K I F b (fun r K' I' F' => r = some (.inr none) ∧ K = K' ∧ I = I' ∧ F = F') := by
  obtain ⟨R0, hn, hq, hw⟩ := Rc_open hR ht
  obtain ⟨-, -, -, u1, u5, u6, u7, u2, u3⟩ := hR.1.2.2.1 t ht
  cases hQ : s.2 (100 + t) with
  | nil =>
    have f5 := hw.1 hQ
    refine s_Con_finish_0 ?_
    refine s_Con_finish_1 (by first | rfl | assumption | (simp [*]; done)) (by first | rfl | assumption | (simp [*]; done)) ?_
    refine s_Con_finish_4 (fun h4 => ?_) (fun _ h4 => absurd h4 (by rw [f5] at h4; cases h4))
    refine s_Con_finish_18 ?_
    refine s_Con_finish_19 ?_
    exact ⟨rfl, rfl, rfl, rfl⟩
  | cons w Q =>
    obtain ⟨w1, p, w2, w3⟩ := hw.2 w Q hQ
    have e550 : I 550 p 0 = s.1 24 t := w3.2.2.2.1
    refine s_Con_finish_0 ?_
    refine s_Con_finish_1 (by first | rfl | assumption | (simp [*]; done)) (by first | rfl | assumption | (simp [*]; done)) ?_
    refine s_Con_finish_4 (fun h4 => absurd h4 (by rw [w2] at h4; cases h4)) (fun ah4 h4 => ?_)
    refine s_Con_finish_7 ?_
    refine s_Con_finish_8 (by first | rfl | assumption | (simp [*]; done)) (by first | rfl | assumption | (simp [*]; done)) ?_
    refine s_Con_finish_11 (by exact w2) (by exact w3.1) ?_
    refine s_Con_finish_14 ?_
    refine s_Con_finish_15 (fun h15 => absurd h15 (by intro _; exact hx w Q hQ (by rw [← e550, h15]))) (fun h15 => ?_)
    refine s_Con_finish_18 ?_
    refine s_Con_finish_19 ?_
    exact ⟨rfl, rfl, rfl, rfl⟩
theorem sp_finish {Γ : ex_G} {d : Nat} {K : ex_K} {I : ex_I} {F : ex_F} {b : Nat} {t : Nat} {a : Nat → Nat} {g : GH} {s : MS} {w : Nat → Int32} {Q : List (Nat → Int32)} (hR : Rc K I F a g 3 s) (ht : t < 3) (hQ : s.2 (100 + t) = w :: Q) :
    ex_E Γ (d + 1) M_Con_finish 0 [some (.inr (some (a (30 + t)))), some (.inl (s.1 24 t))] [] K I F b (fun r K' I' F' => ∃ p, r = some (.inr (some p)) ∧ K = K' ∧ xi K I F K I' F' ∧ Rc K I' F' a g t (tu (cw s 26 t 0) (100 + t) Q) ∧ Rw K I' F' g p w ∧ c_q K I' F' g (a (30 + t)) (a (40 + t)) Q ∧ c_n I' (a (30 + t)) (s.1 24 t) (s.1 25 t) 0 (s.1 27 t) Q ∧ F' 745 (a (30 + t)) 0 = none) := by
  obtain ⟨R0, hn, hq, hw⟩ := Rc_open hR ht
  obtain ⟨-, -, -, u1, u5, u6, u7, u2, u3⟩ := hR.1.2.2.1 t ht
  have kq : (K (a (40 + t))).1 = 34 := by rw [u3]
  obtain ⟨w1, p, w2, w3⟩ := hw.2 w Q hQ
  have e550 : I 550 p 0 = s.1 24 t := w3.2.2.2.1
  rw [hQ] at hq hn
  have h27 : s.1 27 t = 0 := by
    by_cases e : s.1 27 t = 0
    · exact e
    · have := (hn.2.2.2 e).2
      cases this
  have n1 : ∀ f q, f ≠ 743 → f ≠ 745 → f ≠ 34 → ¬ tfP (a (30 + t)) (a (40 + t)) f q := fun f q f1 f2 f3 h => by rcases h with ⟨h | h, -⟩ | ⟨h, -⟩ <;> contradiction
  refine s_Con_finish_0 ?_
  refine s_Con_finish_1 (by first | rfl | assumption | (simp [*]; done)) (by first | rfl | assumption | (simp [*]; done)) ?_
  refine s_Con_finish_4 (fun h4 => absurd h4 (by rw [w2] at h4; cases h4)) (fun ah4 h4 => ?_)
  refine s_Con_finish_7 ?_
  refine s_Con_finish_8 (by first | rfl | assumption | (simp [*]; done)) (by first | rfl | assumption | (simp [*]; done)) ?_
  refine s_Con_finish_11 (by exact w2) (by exact w3.1) ?_
  refine s_Con_finish_14 ?_
  refine s_Con_finish_15 (fun h15 => ?_) (fun h15 => absurd h15 (by exact fun z => z e550))
  refine s_Con_finish_20 ?_
  refine s_Con_finish_21 ?_
  refine s_Con_finish_22 (by first | rfl | assumption | (simp [*]; done)) (by first | rfl | assumption | (simp [*]; done)) ?_
  have x0 : xw (lP [(747, a (30 + t))]) K I F K (ex_ui I 747 (a (30 + t)) 0 0) F := xw_ui (by simp [lP])
  have i0 : imm (lP [(747, a (30 + t))]) := im_l (by simp [xmut])
  have R1 : Rc K (ex_ui I 747 (a (30 + t)) 0 0) F a g t s := Rc_h R0 ht (xw_ui (Or.inl ⟨by decide, rfl⟩)) (fun _ _ => rfl) (fun _ _ _ => rfl) (fun _ _ => rfl)
  have q0 : c_q K (ex_ui I 747 (a (30 + t)) 0 0) F g (a (30 + t)) (a (40 + t)) (w :: Q) := c_q_x x0 i0 u1 kq (by simp [lP]) (by simp [lP]) (nqP_all (fun _ => by simp [lP]) (fun _ => by simp [lP]) (fun _ => by simp [lP]) (fun _ => by simp [lP]) _) hq
  have a1 : ex_ui I 747 (a (30 + t)) 0 0 747 (a (30 + t)) 0 = 0 := ex_ui_eq _ _ _ _ _
  have a2 : ex_ui I 747 (a (30 + t)) 0 0 748 (a (30 + t)) 0 = s.1 27 t := by rw [ex_ui_f _ _ _ _ (by decide)]; exact hn.1
  have a3 : ex_ui I 747 (a (30 + t)) 0 0 744 (a (30 + t)) 0 = s.1 24 t := by rw [ex_ui_f _ _ _ _ (by decide)]; exact hn.2.1
  generalize ex_ui I 747 (a (30 + t)) 0 0 = I0 at x0 R1 q0 a1 a2 a3 ⊢
  refine s_Con_finish_25 ?_
  refine s_Con_finish_26 (b1 := 0) (b2 := b) (by rfl) (by exact u1) (sp_takeFirst R1.1 ht q0) ?_ (by omega)
  rintro _ _ I1 F1 ⟨p, rfl, rfl, x1, hp, q1, f1⟩
  dsimp only [Option.toList, List.cons_append, List.nil_append]
  refine s_Con_finish_29 ?_
  refine ⟨p, rfl, rfl, xi_trans (xi_of x0 i0) (xi_of x1 im_tf), Rc_q (Rc_c (Rc_h (s' := s) R1 ht (xw_mono x1 (fun f q _ h => by
    rcases h with ⟨h | h, e⟩ | h
    · exact Or.inl ⟨by rw [h]; decide, e⟩
    · exact Or.inl ⟨by rw [h]; decide, e⟩
    · exact Or.inr h)) (fun _ _ => rfl) (fun _ _ _ => rfl) (fun _ _ => rfl)) ht (by decide)) ht Q, hp, q1, ⟨?_, ?_, fun _ => ?_, fun e => absurd h27 e⟩, f1⟩
  · rw [xw_i x1 (by decide) u1 (n1 _ _ (by decide) (by decide) (by decide))]; exact a2
  · rw [xw_i x1 (by decide) u1 (n1 _ _ (by decide) (by decide) (by decide))]; exact a3
  · rw [xw_i x1 (by decide) u1 (n1 _ _ (by decide) (by decide) (by decide))]; exact a1
/-- what a request comes to that is passed on -/
def m_adm (s : MS) (t : Nat) (w : Nat → Int32) : MS := if s.1 27 t = 0 then (if (s.2 (100 + t)).length = 4 then m_rep s (w 0) 503 0 0 0 else m_ps2 s t w) else m_rep s (w 0) 502 0 0 0
theorem sp_admit {Γ : ex_G} {d : Nat} {K : ex_K} {I : ex_I} {F : ex_F} {b : Nat} {t p : Nat} {a : Nat → Nat} {g : GH} {s : MS} {w : Nat → Int32} (hR : Rc K I F a g 3 s) (ht : t < 3) (hp : Rw K I F g p w) (hx : ∀ u, u < 3 → ∀ w', w' ∈ s.2 (100 + u) → ¬ w' 0 = w 0) (h0 : ¬ s.1 24 t + 1 = 0) :
    ex_E Γ (d + 3) M_Con_admit 0 [some (.inr (some (a (30 + t)))), some (.inr (some p)), some (.inl (s.1 805 0)), some (.inr (some (a 5)))] [] K I F (b + 1) (fun r K' I' F' => r = none ∧ xi K I F K' I' F' ∧ Rc K' I' F' a g 3 (m_adm s t w)) := by
  obtain ⟨R0, hn, hq, hw⟩ := Rc_open hR ht
  obtain ⟨-, -, -, u1, u5, u6, u7, u2, u3⟩ := hR.1.2.2.1 t ht
  have kq : (K (a (40 + t))).1 = 34 := by rw [u3]
  have kq2 : (K (a (40 + t))).2 = 4 := by rw [u3]
  have kp := hp.1.1
  obtain ⟨L, q1, q2, q3, q4, q5⟩ := hq
  have hlen := f2_len q1
  have X0 : ∀ c, xi K I F K (ex_ui I 492 p 0 c) F := fun c => xw_ui (show 492 ∈ xmut by decide)
  unfold m_adm
  by_cases h27 : s.1 27 t = 0
  · rw [if_pos h27]
    by_cases hl4 : (s.2 (100 + t)).length = 4
    · rw [if_pos hl4]
      refine s_Con_admit_0 ?_
      refine s_Con_admit_1 (by first | rfl | assumption | (simp [*]; done)) (by first | rfl | assumption | (simp [*]; done)) ?_
      refine s_Con_admit_4 (fun h4 => ?_) (fun h4 => absurd h4 (by rw [hn.1]; exact fun z => z h27))
      refine s_Con_admit_17 ?_
      refine s_Con_admit_18 (by first | rfl | assumption | (simp [*]; done)) (by first | rfl | assumption | (simp [*]; done)) ?_
      refine s_Con_admit_21 ?_
      refine s_Con_admit_22 (fun h22 => absurd h22 (by rw [q2, hl4]; decide)) (fun h22 => ?_)
      refine s_Con_admit_25 ?_
      refine s_Con_admit_26 ?_
      refine s_Con_admit_29 (by first | rfl | assumption | (simp [*]; done)) (by first | rfl | assumption | (simp [*]; done)) ?_
      refine s_Con_admit_32 ?_
      refine s_Con_admit_69 ?_
      exact ⟨rfl, X0 _, Rc_stat hR hp (fun u hu _ => hx u hu)⟩
    · rw [if_neg hl4]
      refine s_Con_admit_0 ?_
      refine s_Con_admit_1 (by first | rfl | assumption | (simp [*]; done)) (by first | rfl | assumption | (simp [*]; done)) ?_
      refine s_Con_admit_4 (fun h4 => ?_) (fun h4 => absurd h4 (by rw [hn.1]; exact fun z => z h27))
      refine s_Con_admit_17 ?_
      refine s_Con_admit_18 (by first | rfl | assumption | (simp [*]; done)) (by first | rfl | assumption | (simp [*]; done)) ?_
      refine s_Con_admit_21 ?_
      refine s_Con_admit_22 (fun h22 => ?_) (fun h22 => absurd h22 (by rw [q2]; exact fun z => z (nI_lt (b := 4) (by omega) (by omega))))
      refine s_Con_admit_35 ?_
      refine s_Con_admit_36 (by first | rfl | assumption | (simp [*]; done)) (by first | rfl | assumption | (simp [*]; done)) ?_
      refine s_Con_admit_39 ?_
      refine s_Con_admit_40 (by first | rfl | assumption | (simp [*]; done)) (by first | rfl | assumption | (simp [*]; done)) ?_
      refine s_Con_admit_43 ?_
      refine s34_Con_admit_44 (by exact u2) (by exact kq) (by intro y hy; cases hy; exact kp) (by rw [kq2, q2]; exact vp_in_nI (by omega) (by omega)) ?_
      refine s_Con_admit_45 ?_
      refine s_Con_admit_46 ?_
      refine s_Con_admit_47 (by first | rfl | assumption | (simp [*]; done)) (by first | rfl | assumption | (simp [*]; done)) ?_
      refine s_Con_admit_50 ?_
      refine s_Con_admit_51 ?_
      refine s_Con_admit_52 (by first | rfl | assumption | (simp [*]; done)) (by first | rfl | assumption | (simp [*]; done)) ?_
      rw [q2, nI_1, nI_clamp (by omega)]
      have x0 : xw (hP a t) K I F K (ex_ui I 743 (a (30 + t)) 0 (nI ((s.2 (100 + t)).length + 1))) (ex_uf F 34 (a (40 + t)) (s.2 (100 + t)).length (some p)) := xw_trans (xw_uf (Or.inr ⟨rfl, rfl⟩)) (xw_ui (Or.inl ⟨by decide, rfl⟩))
      have R1 : Rc K (ex_ui I 743 (a (30 + t)) 0 (nI ((s.2 (100 + t)).length + 1))) (ex_uf F 34 (a (40 + t)) (s.2 (100 + t)).length (some p)) a g t (tu s (100 + t) (s.2 (100 + t) ++ [w])) := Rc_q (Rc_h (s' := s) R0 ht x0 (fun _ _ => rfl) (fun _ _ _ => rfl) (fun _ _ => rfl)) ht _
      have x1 : xw (lP [(743, a (30 + t)), (34, a (40 + t))]) K I F K (ex_ui I 743 (a (30 + t)) 0 (nI ((s.2 (100 + t)).length + 1))) (ex_uf F 34 (a (40 + t)) (s.2 (100 + t)).length (some p)) := xw_trans (xw_uf (by simp [lP])) (xw_ui (by simp [lP]))
      have i1 : imm (lP [(743, a (30 + t)), (34, a (40 + t))]) := im_l (by simp [xmut])
      have nw : ∀ p w, Rw K I F g p w → Rw K (ex_ui I 743 (a (30 + t)) 0 (nI ((s.2 (100 + t)).length + 1))) (ex_uf F 34 (a (40 + t)) (s.2 (100 + t)).length (some p)) g p w := fun p w h => Rw_x (xw_trans (xw_uf (P := lP [(743, a (30 + t)), (34, a (40 + t))]) (by simp [lP])) (xw_ui (by simp [lP]))) i1 (by simp [lP]) (by simp [lP]) (by simp [lP]) (by simp [lP]) h
      have q1' : f2 (Rw K (ex_ui I 743 (a (30 + t)) 0 (nI ((s.2 (100 + t)).length + 1))) (ex_uf F 34 (a (40 + t)) (s.2 (100 + t)).length (some p)) g) (L ++ [p]) (s.2 (100 + t) ++ [w]) := f2_app (f2_mono (fun p' _ w' h => Rw_x x1 i1 (by simp [lP]) (by simp [lP]) (by simp [lP]) (by simp [lP]) h) q1) ⟨nw p w hp, trivial⟩
      have cq : c_q K (ex_ui I 743 (a (30 + t)) 0 (nI ((s.2 (100 + t)).length + 1))) (ex_uf F 34 (a (40 + t)) (s.2 (100 + t)).length (some p)) g (a (30 + t)) (a (40 + t)) (s.2 (100 + t) ++ [w]) := by
        refine ⟨L ++ [p], q1', ?_, by simp; omega, fun i q hi => ?_, fun j y hy => ?_⟩
        · rw [ex_ui_eq, List.length_append]; rfl
        · rw [ex_uf_at]
          by_cases e : i = (s.2 (100 + t)).length
          · simp only [if_pos e]
            rw [e, ← hlen, List.getElem?_append_right (Nat.le_refl _)] at hi
            simpa using hi
          · simp only [if_neg e]
            rw [List.getElem?_append] at hi
            by_cases c : i < L.length
            · rw [if_pos c] at hi
              exact q4 i q hi
            · rw [if_neg c, List.getElem?_eq_none (by simp; omega)] at hi
              cases hi
        · rw [ex_uf_at] at hy
          by_cases e : j = (s.2 (100 + t)).length
          · simp only [if_pos e] at hy
            cases hy
            exact kp
          · simp only [if_neg e] at hy
            exact q5 j y hy
      have a1 : ex_ui I 743 (a (30 + t)) 0 (nI ((s.2 (100 + t)).length + 1)) 743 (a (30 + t)) 0 = nI ((s.2 (100 + t)).length + 1) := ex_ui_eq _ _ _ _ _
      have cn0 : c_n (ex_ui I 743 (a (30 + t)) 0 (nI ((s.2 (100 + t)).length + 1))) (a (30 + t)) (s.1 24 t) (s.1 25 t) (s.1 26 t) (s.1 27 t) (s.2 (100 + t) ++ [w]) := by
        refine ⟨?_, ?_, fun e => ?_, fun e => absurd h27 e⟩
        · rw [ex_ui_f _ _ _ _ (by decide)]; exact hn.1
        · rw [ex_ui_f _ _ _ _ (by decide)]; exact hn.2.1
        · rw [ex_ui_f _ _ _ _ (by decide)]; exact hn.2.2.1 e
      have hw' := c_w_x x1 i1 u1 (by simp [lP]) (by simp [lP]) hw
      have X1 := xi_of x1 i1
      generalize ex_ui I 743 (a (30 + t)) 0 (nI ((s.2 (100 + t)).length + 1)) = I0 at R1 cq a1 cn0 hw' X1 ⊢
      generalize ex_uf F 34 (a (40 + t)) (s.2 (100 + t)).length (some p) = F0 at R1 cq cn0 hw' X1 ⊢
      unfold m_ps2
      have tq : (tu s (100 + t) (s.2 (100 + t) ++ [w])).2 (100 + t) = s.2 (100 + t) ++ [w] := tu_at _ _ _
      have hb := sp_beginNext (Γ := Γ) (d := d) (b := b) R1 ht (by rw [tq]; exact cn0) (by rw [tq]; exact cq) (fun e => by rw [tq] at e; simp at e) h0
      refine s_Con_admit_55 ?_
      refine s_Con_admit_56 (by first | rfl | assumption | (simp [*]; done)) (by first | rfl | assumption | (simp [*]; done)) ?_
      refine s_Con_admit_59 ?_
      refine s_Con_admit_60 (fun h60 => ?_) (fun h60 => ?_)
      · refine s_Con_admit_69 ?_
        rw [a1] at h60
        have nl : ¬ (s.2 (100 + t)).length = 0 := fun e => h60 (by rw [e]; rfl)
        rw [if_neg nl]
        refine ⟨rfl, X1, Rc_close R1 ht ?_⟩
        rw [tq]
        refine ⟨cn0, cq, fun e => by simp at e, fun w' Q' e => ?_⟩
        cases hQ : s.2 (100 + t) with
        | nil => exact absurd (by rw [hQ]; rfl) nl
        | cons x Q2 =>
          rw [hQ, List.cons_append] at e
          cases e
          exact hw'.2 _ _ hQ
      · refine s_Con_admit_63 ?_
        refine s_Con_admit_64 ?_
        refine s_Con_admit_65 ?_
        refine s_Con_admit_66 (b1 := b + 1) (b2 := 0) (by rfl) (by exact u1) (hb) ?_ (by omega)
        rintro _ K5 I5 F5 ⟨rfl, X5, R6⟩
        dsimp only [Option.toList, List.cons_append, List.nil_append]
        refine s_Con_admit_69 ?_
        rw [a1] at h60
        have nl : (s.2 (100 + t)).length = 0 := by
          have := (nI_eq (a := (s.2 (100 + t)).length + 1) (b := 1) (by omega) (by omega)).mp h60
          omega
        rw [if_pos nl]
        exact ⟨rfl, xi_trans X1 X5, R6⟩
  · rw [if_neg h27]
    refine s_Con_admit_0 ?_
    refine s_Con_admit_1 (by first | rfl | assumption | (simp [*]; done)) (by first | rfl | assumption | (simp [*]; done)) ?_
    refine s_Con_admit_4 (fun h4 => absurd h4 (by rw [hn.1]; exact h27)) (fun h4 => ?_)
    refine s_Con_admit_7 ?_
    refine s_Con_admit_8 ?_
    refine s_Con_admit_11 (by first | rfl | assumption | (simp [*]; done)) (by first | rfl | assumption | (simp [*]; done)) ?_
    refine s_Con_admit_14 ?_
    refine s_Con_admit_69 ?_
    exact ⟨rfl, X0 _, Rc_stat hR hp (fun u hu _ => hx u hu)⟩
