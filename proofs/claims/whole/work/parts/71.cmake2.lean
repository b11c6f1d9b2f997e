/-! The class: entries and requests are made; what they answer -/
theorem Ctl_c {K : ex_K} {I : ex_I} {F : ex_F} {p : Nat} {c c' : Nat → Int32} (h : Ctl K I F p c) (hc : ∀ j, j < 4 → c j = c' j) : Ctl K I F p c' := by
  obtain ⟨y, c1, c2, c3⟩ := h
  exact ⟨y, c1, c2, fun j hj => by rw [c3 j hj, hc j hj]⟩
theorem sp_ent {Γ : ex_G} {d : Nat} {K : ex_K} {I : ex_I} {F : ex_F} {b : Nat} {z q : Nat} {x v dt rv rn ry : Int32} {c row : Nat → Int32} (hz : (K z).1 = 5) (hq : Rs K I F q rv rn ry c) (hy : ry = 0 ∨ ry = 1) (h1 : row 1 = x) (h5 : row 5 = v) (h2 : row 2 = rv) (h3 : row 3 = rn) (h4 : row 4 = ry) (h6 : row 6 = dt) (h8 : ∀ j, j < 4 → c j = row (8 + j)) :
    ex_E Γ (d + 1) M_Ent_init 0 [some (.inr (some z)), some (.inl x), some (.inl v), some (.inr (some q)), some (.inl dt)] [] K I F b (fun r K' I' F' => r = none ∧ K = K' ∧ xw (fun _ c => c = z) K I F K' I' F' ∧ En K' I' F' z row ∧ F' 358 z 0 = some q) := by
  have hq0 := hq
  obtain ⟨r1, r2, r3, r4, w, r5, r6⟩ := hq
  have nq : q ≠ z := fun e => by rw [e, hz] at r1; exact absurd r1 (by decide)
  refine s_Ent_init_0 ?_
  refine s_Ent_init_1 (by first | rfl | assumption | (simp [*]; done)) ?_
  refine s_Ent_init_4 ?_
  refine s_Ent_init_5 ?_
  refine s_Ent_init_6 (by first | rfl | assumption | (simp [*]; done)) (by first | rfl | assumption | (simp [*]; done)) ?_
  refine s_Ent_init_9 ?_
  refine s_Ent_init_10 ?_
  refine s_Ent_init_11 (by first | rfl | assumption | (simp [*]; done)) (by first | rfl | assumption | (simp [*]; done)) ?_
  refine s_Ent_init_14 ?_
  refine s_Ent_init_15 ?_
  refine s_Ent_init_16 (by first | rfl | assumption | (simp [*]; done)) (by first | rfl | assumption | (simp [*]; done)) ?_
  refine s_Ent_init_19 ?_
  refine s_Ent_init_20 ?_
  refine s_Ent_init_21 ?_
  have xa : xw (fun _ c => c = z) K I F K (ex_ui (ex_ui I 356 z 0 x) 357 z 0 v) (ex_uf F 358 z 0 (some q)) := fun c hc => ⟨rfl, fun f hf => ⟨by simp only [ex_ui_ne _ _ _ _ hf, ex_uf_ne _ _ _ _ hf], by simp only [ex_ui_ne _ _ _ _ hf, ex_uf_ne _ _ _ _ hf]⟩⟩
  have hq1 := Rs_z xa (by rw [hz]; decide) (by rw [hz]; decide) (by rw [hz]; decide) hq0
  have g5 := hq1.2.2.2.2
  refine s_Ent_init_22 (b1 := 0) (b2 := b) (by rfl) (by exact r1) (sp_tagFor hq1 hy) ?_ (by omega)
  rintro _ _ _ _ ⟨rfl, rfl, rfl, rfl⟩
  dsimp only [Option.toList, List.cons_append, List.nil_append]
  refine s_Ent_init_25 (by first | rfl | assumption | (simp [*]; done)) (by first | rfl | assumption | (simp [*]; done)) ?_
  refine s_Ent_init_28 ?_
  refine s_Ent_init_29 ?_
  refine s_Ent_init_30 (by rfl) (by exact r1) ?_
  refine s_Ent_init_33 (by first | rfl | assumption | (simp [*]; done)) (by first | rfl | assumption | (simp [*]; done)) ?_
  refine s_Ent_init_36 ?_
  refine s_Ent_init_37 ?_
  refine s_Ent_init_39 (by first | rfl | assumption | (simp [*]; done)) (by first | rfl | assumption | (simp [*]; done)) ?_
  refine s_Ent_init_42 ?_
  have e295 : ex_uf F 358 z 0 (some q) 295 q 0 = some w := by rw [ex_uf_f _ _ _ _ (by decide)]; exact r5
  rw [e295]
  have xb : xw (fun _ c => c = z) K I F K (ex_ui (ex_ui (ex_ui (ex_ui I 356 z 0 x) 357 z 0 v) 359 z 0 (4 * rv + (if ry = 1 then v else 0))) 361 z 0 dt) (ex_uf (ex_uf F 358 z 0 (some q)) 360 z 0 (some w)) := fun c hc => ⟨rfl, fun f hf => ⟨by simp only [ex_ui_ne _ _ _ _ hf, ex_uf_ne _ _ _ _ hf], by simp only [ex_ui_ne _ _ _ _ hf, ex_uf_ne _ _ _ _ hf]⟩⟩
  refine ⟨rfl, rfl, xb, ⟨hz, ?_, ?_, ?_, ?_, ⟨q, c, by simp [ex_uf], ?_⟩, w, by simp [ex_uf], Ctl_c (Ctl_z xb (by rw [hz]; decide) (by rw [hz]; decide) r6) h8⟩, by simp [ex_uf]⟩
  · simp [ex_ui, h1]
  · simp [ex_ui, h5]
  · simp [ex_ui, tgr, h2, h4, h5]
  · simp [ex_ui, h6]
  · rw [h2, h3, h4]
    exact Rs_z xb (by rw [hz]; decide) (by rw [hz]; decide) (by rw [hz]; decide) hq0
theorem sp_req {Γ : ex_G} {d : Nat} {K : ex_K} {I : ex_I} {F : ex_F} {b : Nat} {z p : Nat} {n x v tg : Int32} (hz : (K z).1 = 7) :
    ex_E Γ (d + 1) M_Req_init 0 [some (.inr (some z)), some (.inl n), some (.inl x), some (.inl v), some (.inl tg), some (.inr (some p))] [] K I F b (fun r K' I' F' => r = none ∧ K = K' ∧ xw (fun _ c => c = z) K I F K' I' F' ∧ (I' 484 z 0 = n ∧ I' 485 z 0 = 1 ∧ I' 486 z 0 = x ∧ I' 487 z 0 = v ∧ I' 488 z 0 = 0 ∧ I' 489 z 0 = tg) ∧ F' 490 z 0 = some p ∧ I' 492 z 0 = I 492 z 0 ∧ I' 493 z 0 = I 493 z 0 ∧ I' 494 z 0 = I 494 z 0 ∧ I' 495 z 0 = I 495 z 0 ∧ F' 491 z 0 = F 491 z 0) := by
  refine s_Req_init_0 ?_
  refine s_Req_init_1 (by first | rfl | assumption | (simp [*]; done)) ?_
  refine s_Req_init_4 ?_
  refine s_Req_init_5 ?_
  refine s_Req_init_6 (by first | rfl | assumption | (simp [*]; done)) (by first | rfl | assumption | (simp [*]; done)) ?_
  refine s_Req_init_9 ?_
  refine s_Req_init_10 ?_
  refine s_Req_init_11 (by first | rfl | assumption | (simp [*]; done)) (by first | rfl | assumption | (simp [*]; done)) ?_
  refine s_Req_init_14 ?_
  refine s_Req_init_15 ?_
  refine s_Req_init_16 (by first | rfl | assumption | (simp [*]; done)) (by first | rfl | assumption | (simp [*]; done)) ?_
  refine s_Req_init_19 ?_
  refine s_Req_init_20 ?_
  refine s_Req_init_21 (by first | rfl | assumption | (simp [*]; done)) (by first | rfl | assumption | (simp [*]; done)) ?_
  refine s_Req_init_24 ?_
  refine s_Req_init_25 ?_
  refine s_Req_init_26 (by first | rfl | assumption | (simp [*]; done)) (by first | rfl | assumption | (simp [*]; done)) ?_
  refine s_Req_init_29 ?_
  refine s_Req_init_30 ?_
  refine s_Req_init_32 (by first | rfl | assumption | (simp [*]; done)) (by first | rfl | assumption | (simp [*]; done)) ?_
  refine s_Req_init_35 ?_
  refine s_Req_init_36 ?_
  refine s_Req_init_38 (by first | rfl | assumption | (simp [*]; done)) (by first | rfl | assumption | (simp [*]; done)) ?_
  refine s_Req_init_41 ?_
  refine ⟨rfl, rfl, fun c hc => ⟨rfl, fun f hf => ⟨by simp only [ex_ui_ne _ _ _ _ hf, ex_uf_ne _ _ _ _ hf], by simp only [ex_ui_ne _ _ _ _ hf, ex_uf_ne _ _ _ _ hf]⟩⟩, ⟨?_, ?_, ?_, ?_, ?_, ?_⟩, ?_, ?_, ?_, ?_, ?_, ?_⟩
  all_goals simp [ex_ui, ex_uf]
theorem sp_req2 {Γ : ex_G} {d : Nat} {K : ex_K} {I : ex_I} {F : ex_F} {b : Nat} {z : Nat} {n kd x sz : Int32} (hz : (K z).1 = 7) :
    ex_E Γ (d + 2) M_Req_init2 0 [some (.inr (some z)), some (.inl n), some (.inl kd), some (.inl x), some (.inl sz)] [] K I F (b + 2) (fun r K' I' F' => r = none ∧ (K' z).1 = 7 ∧ xw (fun _ c => c = z) K I F K' I' F' ∧ (I' 484 z 0 = n ∧ I' 485 z 0 = kd ∧ I' 486 z 0 = x ∧ I' 487 z 0 = 0 ∧ I' 488 z 0 = sz ∧ I' 489 z 0 = 0) ∧ (∃ p y, F' 490 z 0 = some p ∧ ct_ok K' F' p y) ∧ I' 492 z 0 = I 492 z 0 ∧ I' 493 z 0 = I 493 z 0 ∧ I' 494 z 0 = I 494 z 0 ∧ I' 495 z 0 = I 495 z 0 ∧ F' 491 z 0 = F 491 z 0) := by
  refine s_Req_init2_0 ?_
  refine s_Req_init2_1 (by first | rfl | assumption | (simp [*]; done)) ?_
  refine s_Req_init2_4 ?_
  refine s_Req_init2_5 ?_
  refine s_Req_init2_6 (by first | rfl | assumption | (simp [*]; done)) (by first | rfl | assumption | (simp [*]; done)) ?_
  refine s_Req_init2_9 ?_
  refine s_Req_init2_10 ?_
  refine s_Req_init2_11 (by first | rfl | assumption | (simp [*]; done)) (by first | rfl | assumption | (simp [*]; done)) ?_
  refine s_Req_init2_14 ?_
  refine s_Req_init2_15 ?_
  refine s_Req_init2_16 (by first | rfl | assumption | (simp [*]; done)) (by first | rfl | assumption | (simp [*]; done)) ?_
  refine s_Req_init2_19 ?_
  refine s_Req_init2_20 ?_
  refine s_Req_init2_21 (by first | rfl | assumption | (simp [*]; done)) (by first | rfl | assumption | (simp [*]; done)) ?_
  refine s_Req_init2_24 ?_
  refine s_Req_init2_25 ?_
  refine s_Req_init2_27 (by first | rfl | assumption | (simp [*]; done)) (by first | rfl | assumption | (simp [*]; done)) ?_
  refine s_Req_init2_30 ?_
  refine s_Req_init2_31 ?_
  refine s_Req_init2_32 (by first | rfl | assumption | (simp [*]; done)) (by first | rfl | assumption | (simp [*]; done)) ?_
  refine s_Req_init2_35 ?_
  refine s_Req_init2_36 (fun n36 fn36 => ?_)
  have nz : z ≠ n36 := fun e => by rw [← e, hz] at fn36; exact absurd fn36 (by decide)
  refine s_Req_init2_39 ?_
  refine s_Req_init2_40 (b1 := 1) (b2 := b) (by first | rfl | assumption | (simp [*]; done)) (ex_up (by omega) (sp_ctl_init (d := d) (by rw [ex_nk_at]))) ?_ (by omega)
  rintro _ _ _ _ ⟨rfl, y, fy, rfl, rfl, rfl⟩
  dsimp only [Option.toList, List.cons_append, List.nil_append]
  refine s_Req_init2_43 (by rfl) (by rw [ex_nk_ne _ _ _ (fun e => by rw [← e] at fy; simp [ex_nk, nz, hz] at fy), ex_nk_ne _ _ _ nz]; exact hz) ?_
  refine s_Req_init2_46 ?_
  have ny : y ≠ n36 := fun e => by rw [e, ex_nk_at] at fy; exact absurd fy (by decide)
  have nzy : z ≠ y := fun e => by rw [← e, ex_nk_ne _ _ _ nz, hz] at fy; exact absurd fy (by decide)
  rw [ex_nk_ne _ _ _ ny] at fy
  refine ⟨rfl, ?_, fun c hc => ?_, ⟨?_, ?_, ?_, ?_, ?_, ?_⟩, ⟨n36, y, ?_, ?_, ?_, ?_⟩, ?_, ?_, ?_, ?_, ?_⟩
  · rw [ex_nk_ne _ _ _ nzy, ex_nk_ne _ _ _ nz]; exact hz
  · have c1 : c ≠ n36 := fun e => hc (by rw [e]; exact fn36)
    have c2 : c ≠ y := fun e => hc (by rw [e]; exact fy)
    refine ⟨by rw [ex_nk_ne _ _ _ c2, ex_nk_ne _ _ _ c1], fun f hf => ⟨?_, ?_⟩⟩
    · simp only [ex_wi_ne _ _ _ c2, ex_ni_ne _ c2, ex_ni_ne _ c1, ex_ui_ne _ _ _ _ hf]
    · simp only [ex_uf_ne _ _ _ _ hf, ex_uf_ne _ _ _ _ c1, ex_nr_ne _ c2, ex_nr_ne _ c1]
  all_goals simp [ex_ui, ex_uf, ex_wi, ex_ni, ex_nr, ex_nk, nz, nzy, ny, Ne.symm ny, Ne.symm nz, Ne.symm nzy]
def aP (p : Nat) : Nat → Nat → Prop := fun f q => (f = 492 ∨ f = 493 ∨ f = 494 ∨ f = 495) ∧ q = p
theorem sp_answerOk {Γ : ex_G} {d : Nat} {K : ex_K} {I : ex_I} {F : ex_F} {b : Nat} {p : Nat} {tg ag wy kt : Int32} (hp : (K p).1 = 7) (hk : I 489 p 0 = kt) :
    ex_E Γ d M_Req_answerOk 0 [some (.inr (some p)), some (.inl tg), some (.inl ag), some (.inl wy)] [] K I F b (fun r K' I' F' => r = none ∧ K = K' ∧ F = F' ∧ xw (aP p) K I F K' I' F' ∧ I' 492 p 0 = (if tg = kt then 304 else 200) ∧ I' 493 p 0 = tg ∧ I' 494 p 0 = ag ∧ I' 495 p 0 = wy) := by
  subst hk
  have x1 : ∀ v1 v2 v3 v4, xw (aP p) K I F K (ex_ui (ex_ui (ex_ui (ex_ui I 492 p 0 v1) 493 p 0 v2) 494 p 0 v3) 495 p 0 v4) F := fun v1 v2 v3 v4 => xw_trans (xw_trans (xw_trans (xw_ui ⟨Or.inl rfl, rfl⟩) (xw_ui ⟨Or.inr (Or.inl rfl), rfl⟩)) (xw_ui ⟨Or.inr (Or.inr (Or.inl rfl)), rfl⟩)) (xw_ui ⟨Or.inr (Or.inr (Or.inr rfl)), rfl⟩)
  refine s_Req_answerOk_0 ?_
  refine s_Req_answerOk_1 ?_
  refine s_Req_answerOk_2 ?_
  refine s_Req_answerOk_3 (by first | rfl | assumption | (simp [*]; done)) (by first | rfl | assumption | (simp [*]; done)) ?_
  refine s_Req_answerOk_6 (fun h6 => ?_) (fun h6 => ?_)
  · refine s_Req_answerOk_15 ?_
    refine s_Req_answerOk_18 (by first | rfl | assumption | (simp [*]; done)) (by first | rfl | assumption | (simp [*]; done)) ?_
    refine s_Req_answerOk_21 ?_
    refine s_Req_answerOk_22 ?_
    refine s_Req_answerOk_23 (by first | rfl | assumption | (simp [*]; done)) (by first | rfl | assumption | (simp [*]; done)) ?_
    refine s_Req_answerOk_26 ?_
    refine s_Req_answerOk_27 ?_
    refine s_Req_answerOk_28 (by first | rfl | assumption | (simp [*]; done)) (by first | rfl | assumption | (simp [*]; done)) ?_
    refine s_Req_answerOk_31 ?_
    refine s_Req_answerOk_32 ?_
    refine s_Req_answerOk_33 (by first | rfl | assumption | (simp [*]; done)) (by first | rfl | assumption | (simp [*]; done)) ?_
    refine s_Req_answerOk_36 ?_
    refine ⟨rfl, rfl, rfl, x1 _ _ _ _, ?_, ?_, ?_, ?_⟩
    · rw [if_neg h6]; simp [ex_ui]
    all_goals simp [ex_ui]
  · refine s_Req_answerOk_9 ?_
    refine s_Req_answerOk_12 ?_
    refine s_Req_answerOk_18 (by first | rfl | assumption | (simp [*]; done)) (by first | rfl | assumption | (simp [*]; done)) ?_
    refine s_Req_answerOk_21 ?_
    refine s_Req_answerOk_22 ?_
    refine s_Req_answerOk_23 (by first | rfl | assumption | (simp [*]; done)) (by first | rfl | assumption | (simp [*]; done)) ?_
    refine s_Req_answerOk_26 ?_
    refine s_Req_answerOk_27 ?_
    refine s_Req_answerOk_28 (by first | rfl | assumption | (simp [*]; done)) (by first | rfl | assumption | (simp [*]; done)) ?_
    refine s_Req_answerOk_31 ?_
    refine s_Req_answerOk_32 ?_
    refine s_Req_answerOk_33 (by first | rfl | assumption | (simp [*]; done)) (by first | rfl | assumption | (simp [*]; done)) ?_
    refine s_Req_answerOk_36 ?_
    refine ⟨rfl, rfl, rfl, x1 _ _ _ _, ?_, ?_, ?_, ?_⟩
    · rw [if_pos h6]; simp [ex_ui]
    all_goals simp [ex_ui]
theorem sp_age {Γ : ex_G} {d : Nat} {K : ex_K} {I : ex_I} {F : ex_F} {b : Nat} {p : Nat} {x : Int32} (hp : (K p).1 = 5) :
    ex_E Γ d M_Ent_age 0 [some (.inr (some p)), some (.inl x)] [] K I F b (fun r K' I' F' => r = some (.inl (x - I 361 p 0)) ∧ K = K' ∧ I = I' ∧ F = F') := by
  refine s_Ent_age_0 ?_
  refine s_Ent_age_1 ?_
  refine s_Ent_age_2 (by first | rfl | assumption | (simp [*]; done)) (by first | rfl | assumption | (simp [*]; done)) ?_
  refine s_Ent_age_5 ?_
  refine s_Ent_age_6 ?_
  exact ⟨rfl, rfl, rfl, rfl⟩
theorem sp_usedLatest {Γ : ex_G} {d : Nat} {K : ex_K} {I : ex_I} {F : ex_F} {b : Nat} {s rw cap j : Nat} {S : List Nat} (hs : st_rep K I F s rw cap S) (hj : j < S.length) :
    ex_E Γ d M_Sto_usedLatest 0 [some (.inr (some s)), some (.inl (nI j))] [] K I F b (fun r K' I' F' => r = some (.inr (S[S.length - 1 - j]?)) ∧ K = K' ∧ I = I' ∧ F = F') := by
  have hlen := st_len hs
  obtain ⟨u1, u2, u3, u4, u5, u6, u7, u8, u9, u10, u11⟩ := hs
  have k1 : (K rw).1 = 35 := by rw [u3]
  have k2 : (K rw).2 = cap := by rw [u3]
  have e1 : I 423 s 0 - 1 - nI j = nI (S.length - 1 - j) := by
    rw [u6, show (1 : Int32) = nI 1 from rfl, pk_sub (by omega), pk_sub (by omega)]
  refine s_Sto_usedLatest_0 ?_
  refine s_Sto_usedLatest_1 (fun h1 => absurd h1 (by exact nI_pos (by omega))) (fun h1 => ?_)
  refine s_Sto_usedLatest_4 ?_
  refine s_Sto_usedLatest_5 ?_
  refine s_Sto_usedLatest_6 (by first | rfl | assumption | (simp [*]; done)) (by first | rfl | assumption | (simp [*]; done)) ?_
  refine s_Sto_usedLatest_9 (fun h9 => absurd h9 (by rw [u6]; exact nI_ge hj (by omega))) (fun h9 => ?_)
  refine s_Sto_usedLatest_12 ?_
  refine s_Sto_usedLatest_13 (by first | rfl | assumption | (simp [*]; done)) (by first | rfl | assumption | (simp [*]; done)) ?_
  refine s_Sto_usedLatest_16 ?_
  refine s_Sto_usedLatest_17 (by first | rfl | assumption | (simp [*]; done)) (by first | rfl | assumption | (simp [*]; done)) ?_
  refine s_Sto_usedLatest_20 ?_
  refine s_Sto_usedLatest_21 ?_
  refine s_Sto_usedLatest_22 ?_
  refine s_Sto_usedLatest_23 ?_
  refine s35_Sto_usedLatest_24 (by exact u2) (by exact k1) (by rw [k2, e1]; exact vp_in_nI (by omega) (by omega)) ?_
  refine s_Sto_usedLatest_25 ?_
  refine s_Sto_usedLatest_29 ?_
  have hg : S[S.length - 1 - j]? = some S[S.length - 1 - j] := List.getElem?_eq_getElem (by omega)
  rw [e1, nI_clamp (by omega), hg, u7 _ _ hg]
  exact ⟨rfl, rfl, rfl, rfl⟩
theorem sp_usedLatest_no {Γ : ex_G} {d : Nat} {K : ex_K} {I : ex_I} {F : ex_F} {b : Nat} {s rw cap : Nat} {x : Int32} {S : List Nat} (hs : st_rep K I F s rw cap S) (hx : x < 0 ∨ nI S.length ≤ x) :
    ex_E Γ d M_Sto_usedLatest 0 [some (.inr (some s)), some (.inl x)] [] K I F b (fun r K' I' F' => r = some (.inr none) ∧ K = K' ∧ I = I' ∧ F = F') := by
  obtain ⟨u1, u2, u3, u4, u5, u6, u7, u8, u9, u10, u11⟩ := hs
  refine s_Sto_usedLatest_0 ?_
  refine s_Sto_usedLatest_1 (fun h1 => ?_) (fun h1 => ?_)
  · refine s_Sto_usedLatest_28 ?_
    refine s_Sto_usedLatest_29 ?_
    exact ⟨rfl, rfl, rfl, rfl⟩
  · refine s_Sto_usedLatest_4 ?_
    refine s_Sto_usedLatest_5 ?_
    refine s_Sto_usedLatest_6 (by first | rfl | assumption | (simp [*]; done)) (by first | rfl | assumption | (simp [*]; done)) ?_
    refine s_Sto_usedLatest_9 (fun h9 => ?_) (fun h9 => absurd h9 (by rw [u6]; exact fun q => q (hx.resolve_left h1)))
    refine s_Sto_usedLatest_28 ?_
    refine s_Sto_usedLatest_29 ?_
    exact ⟨rfl, rfl, rfl, rfl⟩
/-- where a confirmed entry goes -/
def cfS (S : List Nat) (e : Nat) (al : Bool) : List Nat := match fix (fun p => decide (p = e)) S 0 with
  | none => S
  | some i => if al = true then S.eraseIdx i ++ [e] else S.eraseIdx i
theorem sp_sconfirm {Γ : ex_G} {d : Nat} {K : ex_K} {I : ex_I} {F : ex_F} {b : Nat} {s rw cap e w y : Nat} {S : List Nat} (hs : st_rep K I F s rw cap S) (he : (K e).1 = 5) (hw : F 360 e 0 = some w) (hy : ct_ok K F w y) :
    ex_E Γ (d + 4) M_Sto_confirm 0 [some (.inr (some s)), some (.inr (some e)), none] [] K I F b (fun r K' I' F' => r = none ∧ K = K' ∧ st_fr I F I' F' ∧ st_rep K I' F' s rw cap (cfS S e (alw (I 21 y)))) := by
  have u1 := hs.1
  have hcap := hs.2.2.2.2.1
  have hlen := st_len hs
  unfold cfS
  cases hi : fix (fun p => decide (p = e)) S 0 with
  | none =>
    refine s_Sto_confirm_0 ?_
    refine s_Sto_confirm_1 ?_
    refine s_Sto_confirm_2 (b1 := 0) (b2 := b) (by first | rfl | assumption | (simp [*]; done)) (by first | rfl | assumption | (simp [*]; done)) (ex_up (by omega) (sp_placeOf (d := d) hs)) ?_ (by omega)
    rintro _ _ _ _ ⟨rfl, rfl, rfl, rfl⟩
    dsimp only [Option.toList, List.cons_append, List.nil_append]
    rw [hi, show ixr none = -1 from rfl]
    refine s_Sto_confirm_5 ?_
    refine s_Sto_confirm_6 ?_
    refine s_Sto_confirm_7 ?_
    refine s_Sto_confirm_8 (fun h8 => absurd h8 (by exact fun z => z rfl)) (fun h8 => ?_)
    refine s_Sto_confirm_11 ?_
    exact ⟨rfl, rfl, st_fr_rfl, hs⟩
  | some i =>
    obtain ⟨-, a, ha1, ha2⟩ := fix_some _ _ _ _ hi
    rw [Nat.sub_zero] at ha1
    have ea : a = e := by simpa using ha2
    subst ea
    have hlt := (List.getElem?_eq_some_iff.mp ha1).1
    have hok := hs.2.2.2.2.2.2.2.2.1 _ (List.mem_of_getElem? ha1)
    have hsum := sum_erase (g := szN I F) S ha1
    have htot := hs.2.2.2.2.2.2.2.2.2.2
    refine s_Sto_confirm_0 ?_
    refine s_Sto_confirm_1 ?_
    refine s_Sto_confirm_2 (b1 := 0) (b2 := b) (by first | rfl | assumption | (simp [*]; done)) (by first | rfl | assumption | (simp [*]; done)) (ex_up (by omega) (sp_placeOf (d := d) hs)) ?_ (by omega)
    rintro _ _ _ _ ⟨rfl, rfl, rfl, rfl⟩
    dsimp only [Option.toList, List.cons_append, List.nil_append]
    rw [hi, show ixr (some i) = nI i from rfl]
    refine s_Sto_confirm_5 ?_
    refine s_Sto_confirm_6 ?_
    refine s_Sto_confirm_7 ?_
    refine s_Sto_confirm_8 (fun h8 => ?_) (fun h8 => absurd h8 (by exact fun z => absurd z (nn_m1 (nI_pos (by omega)))))
    refine s_Sto_confirm_12 ?_
    refine s_Sto_confirm_13 ?_
    refine s_Sto_confirm_14 (b1 := 0) (b2 := b) (by first | rfl | assumption | (simp [*]; done)) (by first | rfl | assumption | (simp [*]; done)) (ex_up (by omega) (sp_removeAt (d := d) hs ha1)) ?_ (by omega)
    rintro _ _ I2 F2 ⟨rfl, rfl, f2, g2⟩
    dsimp only [Option.toList, List.cons_append, List.nil_append]
    have y2 : ct_ok K F2 w y := ⟨hy.1, by rw [f2.2 164 (by decide)]; exact hy.2.1, hy.2.2⟩
    have w2 : F2 360 a 0 = some w := by rw [f2.2 360 (by decide)]; exact hw
    have i2 : I2 21 = I 21 := f2.1 21 (by decide) (by decide)
    refine s_Sto_confirm_17 ?_
    refine s_Sto_confirm_18 (by first | rfl | assumption | (simp [*]; done)) (by first | rfl | assumption | (simp [*]; done)) ?_
    refine s_Sto_confirm_21 (b1 := 0) (b2 := b) (by exact w2) (by exact hy.1) (sp_allows y2) ?_ (by omega)
    rintro _ _ _ _ ⟨rfl, rfl, rfl, rfl⟩
    dsimp only [Option.toList, List.cons_append, List.nil_append]
    rw [i2]
    refine s_Sto_confirm_24 (fun h24 => ?_) (fun h24 => ?_)
    · refine s_Sto_confirm_32 ?_
      have z : ¬ alw (I 21 y) = true := fun z => by rw [if_pos z] at h24; exact absurd h24 (by decide)
      rw [if_neg z]
      exact ⟨rfl, rfl, f2, g2⟩
    · refine s_Sto_confirm_27 ?_
      refine s_Sto_confirm_28 ?_
      refine s_Sto_confirm_29 (b1 := 0) (b2 := b) (by first | rfl | assumption | (simp [*]; done)) (by first | rfl | assumption | (simp [*]; done)) (ex_up (by omega) (sp_sappend (d := d) g2 (ent_ok_fr f2 hok) (by rw [szN_fr f2]; omega))) ?_ (by omega)
      rintro _ _ I3 F3 ⟨rfl, rfl, f3, g3⟩
      dsimp only [Option.toList, List.cons_append, List.nil_append]
      refine s_Sto_confirm_32 ?_
      have z : alw (I 21 y) = true := by
        by_cases z : alw (I 21 y) = true
        · exact z
        · exact absurd (if_neg z) h24
      rw [if_pos z]
      exact ⟨rfl, rfl, st_fr_trans f2 f3, g3⟩
theorem sp_slotOf {Γ : ex_G} {d : Nat} {K : ex_K} {I : ex_I} {F : ex_F} {b : Nat} {r : Nat} (hr : r < 2 ^ 30) :
    ex_E Γ (d + 1) M_FC_slotOf 0 [some (.inl (nI r))] [] K I F b (fun x K' I' F' => x = some (.inl (nI (sl r))) ∧ K = K' ∧ I = I' ∧ F = F') := by
  have e1 : nI r - nI r / 16 * 16 = nI (r % 16) := pk_rem (d := 16) (by omega) (by decide) (by decide)
  have e2 : 0 ≤ nI r ^^^ 16 := by
    have : nI r ^^^ 16 = nI (r ^^^ 16) := by
      apply Int32.toBitVec_inj.mp
      apply BitVec.eq_of_toNat_eq
      show ((BitVec.ofNat 32 r) ^^^ 16#32).toNat = (BitVec.ofNat 32 (r ^^^ 16)).toNat
      rw [BitVec.toNat_xor, BitVec.toNat_ofNat, BitVec.toNat_ofNat, BitVec.toNat_ofNat, Nat.mod_eq_of_lt (show r < 2 ^ 32 by omega), show (16 : Nat) % 2 ^ 32 = 16 by decide, Nat.mod_eq_of_lt (show r ^^^ 16 < 2 ^ 32 from Nat.xor_lt_two_pow (by omega) (by decide))]
    rw [this]
    exact nI_pos' (Nat.xor_lt_two_pow (n := 31) (by omega) (by decide))
  rw [sl_eq]
  refine s_FC_slotOf_0 ?_
  refine s_FC_slotOf_1 ?_
  refine s_FC_slotOf_3 (b1 := 0) (b2 := _)  (Q1 := fun r K' I' F' => ex_E _ _ M_FC_slotOf 6 _ (r.toList ++ _) K' I' F' _ _) ?_ (fun _ _ _ _ hq => hq) (Nat.le_of_eq (Nat.zero_add _))
  refine s_Mth_floorMod_0 ?_
  refine s_Mth_floorMod_1 ?_
  refine s_Mth_floorMod_2 (by decide) ?_
  refine s_Mth_floorMod_3 ?_
  refine s_Mth_floorMod_4 ?_
  refine s_Mth_floorMod_5 ?_
  refine s_Mth_floorMod_6 ?_
  refine s_Mth_floorMod_7 (fun g7 => ?_) (fun g7 => absurd g7 (by exact fun z => z e2))
  refine s_Mth_floorMod_18 ?_
  refine s_Mth_floorMod_19 ?_
  dsimp only [Option.toList, List.cons_append, List.nil_append]
  refine s_FC_slotOf_6 ?_
  rw [e1]
  exact ⟨rfl, rfl, rfl, rfl⟩
