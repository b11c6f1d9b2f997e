/-! The class: objects are made -/
theorem xw_ne {K K' : ex_K} {I I' : ex_I} {F F' : ex_F} {z c : Nat} (h : xw (fun _ c => c = z) K I F K' I' F') (hk : (K c).1 ≠ 0) (hc : c ≠ z) : K' c = K c ∧ ∀ f, I' f c = I f c ∧ F' f c = F f c := ⟨(h c hk).1, fun f => (h c hk).2 f hc⟩
/-- cells that are not z tell what they told -/
theorem ct_z {K K' : ex_K} {I I' : ex_I} {F F' : ex_F} {z p y : Nat} (h : xw (fun _ c => c = z) K I F K' I' F') (hp : p ≠ z) (hy : y ≠ z) (hc : ct_ok K F p y) : ct_ok K' F' p y ∧ I' 21 y = I 21 y := by
  obtain ⟨c1, c2, c3⟩ := hc
  obtain ⟨a1, a2⟩ := xw_ne h (c := p) (by rw [c1]; decide) hp
  obtain ⟨b1, b2⟩ := xw_ne h (c := y) (by rw [c3]; decide) hy
  exact ⟨⟨by rw [a1]; exact c1, by rw [(a2 164).2]; exact c2, by rw [b1]; exact c3⟩, (b2 21).1⟩
theorem Ctl_z {K K' : ex_K} {I I' : ex_I} {F F' : ex_F} {z p : Nat} {c : Nat → Int32} (h : xw (fun _ c => c = z) K I F K' I' F') (hz : (K z).1 ≠ 2) (hz2 : (K z).1 ≠ 21) (hc : Ctl K I F p c) : Ctl K' I' F' p c := by
  obtain ⟨y, c1, c2, c3⟩ := hc
  obtain ⟨e1, e2⟩ := ct_z h (fun w => hz (by rw [← w]; exact c1.1)) (fun w => hz2 (by rw [← w, c1.2.2])) c1
  refine ⟨y, e1, ?_, ?_⟩
  · rw [e2]; exact c2
  · rw [e2]; exact c3
theorem Rs_z {K K' : ex_K} {I I' : ex_I} {F F' : ex_F} {z q : Nat} {v n y : Int32} {c : Nat → Int32} (h : xw (fun _ c => c = z) K I F K' I' F') (hz : (K z).1 ≠ 2) (hz2 : (K z).1 ≠ 21) (hz4 : (K z).1 ≠ 4) (hr : Rs K I F q v n y c) : Rs K' I' F' q v n y c := by
  obtain ⟨r1, r2, r3, r4, w, r5, r6⟩ := hr
  obtain ⟨a1, a2⟩ := xw_ne h (c := q) (by rw [r1]; decide) (fun e => hz4 (by rw [← e]; exact r1))
  exact ⟨by rw [a1]; exact r1, by rw [(a2 292).1]; exact r2, by rw [(a2 293).1]; exact r3, by rw [(a2 294).1]; exact r4, w, by rw [(a2 295).2]; exact r5, Ctl_z h hz hz2 r6⟩
theorem sp_msgQ {Γ : ex_G} {d : Nat} {K : ex_K} {I : ex_I} {F : ex_F} {b : Nat} {z q N : Nat} {en : Nat → Nat} {x n : Int32} {w : Nat → Int32} (hz : (K z).1 = 8) (hq : Rq K I F en N q w) :
    ex_E Γ (d + 1) M_Msg_init 0 [some (.inr (some z)), some (.inl x), some (.inl n), some (.inr (some q))] [] K I F b (fun r K' I' F' => r = none ∧ K = K' ∧ xw (fun _ c => c = z) K I F K' I' F' ∧ (¬ n = 0 → Ms K' I' F' z (rqr x n w))) := by
  obtain ⟨q1, q2, q3, q4, q5, q6, q7, q8, q9⟩ := hq
  have nq : q ≠ z := fun e => by rw [e, hz] at q1; exact absurd q1 (by decide)

  rcases q8 with ⟨t1, t2, t3⟩ | ⟨k, t1, t2, t3, t4, t5, t6⟩
  · refine s_Msg_init_0 ?_
    refine s_Msg_init_1 (by first | rfl | assumption | (simp [*]; done)) ?_
    refine s_Msg_init_4 ?_
    refine s_Msg_init_5 ?_
    refine s_Msg_init_6 (by first | rfl | assumption | (simp [*]; done)) (by first | rfl | assumption | (simp [*]; done)) ?_
    refine s_Msg_init_9 ?_
    refine s_Msg_init_10 ?_
    refine s_Msg_init_11 (by first | rfl | assumption | (simp [*]; done)) (by first | rfl | assumption | (simp [*]; done)) (by first | rfl | assumption | (simp [*]; done)) ?_
    refine s_Msg_init_14 ?_
    refine s_Msg_init_15 ?_
    refine s_Msg_init_16 (by first | rfl | assumption | (simp [*]; done)) (by first | rfl | assumption | (simp [*]; done)) ?_
    refine s_Msg_init_19 ?_
    refine s_Msg_init_20 ?_
    refine s_Msg_init_21 (fun ah21 h21 => ?_) (fun h21 => absurd h21 (by intro e; cases e))
    refine s_Msg_init_28 ?_
    refine s_Msg_init_29 (by rfl) (by exact q1) ?_
    refine s_Msg_init_32 (by first | rfl | assumption | (simp [*]; done)) (by first | rfl | assumption | (simp [*]; done)) ?_
    refine s_Msg_init_35 ?_
    refine s_Msg_init_36 ?_
    refine s_Msg_init_37 (fun h37 => absurd h37 (by intro e; cases e)) (fun ah37 h37 => ?_)
    refine s_Msg_init_40 ?_
    refine s_Msg_init_41 (by rfl) (by exact q1) ?_
    refine s_Msg_init_44 (fun _ h44 => absurd h44 (by simp [ex_ui, ex_uf, t3, nq] at h44)) (fun h44 => ?_)
    refine s_Msg_init_47 ?_
    refine s_Msg_init_48 ?_
    refine s_Msg_init_58 (by first | rfl | assumption | (simp [*]; done)) (by first | rfl | assumption | (simp [*]; done)) ?_
    refine s_Msg_init_61 ?_
    refine s_Msg_init_62 ?_
    refine s_Msg_init_63 (by first | rfl | assumption | (simp [*]; done)) (by first | rfl | assumption | (simp [*]; done)) ?_
    refine s_Msg_init_66 ?_
    refine s_Msg_init_67 ?_
    refine s_Msg_init_68 (by first | rfl | assumption | (simp [*]; done)) (by first | rfl | assumption | (simp [*]; done)) ?_
    refine s_Msg_init_71 ?_
    refine s_Msg_init_72 ?_
    refine s_Msg_init_73 (by first | rfl | assumption | (simp [*]; done)) (by first | rfl | assumption | (simp [*]; done)) ?_
    refine s_Msg_init_76 ?_
    refine ⟨rfl, rfl, fun c hc => ⟨rfl, fun f hf => ⟨by simp only [ex_ui_ne _ _ _ _ hf, ex_uf_ne _ _ _ _ hf], by simp only [ex_ui_ne _ _ _ _ hf, ex_uf_ne _ _ _ _ hf]⟩⟩, fun hn => ⟨hz, by simp [ex_ui, ex_uf, rqr], by simp [ex_ui, ex_uf, rqr], by simp [ex_ui, ex_uf, rqr], ?_, ?_, by simp [ex_ui, ex_uf, rqr], fun _ e => absurd e hn, fun _ _ => ⟨q, by simp [ex_ui, ex_uf], q1, ?_, ?_, ?_, ?_⟩, fun e => absurd rfl e, fun e => absurd rfl e⟩⟩
    · simp [ex_ui, ex_uf, rqr, q3, nq]
    · simp [ex_ui, ex_uf, rqr, t2, nq]
    · simp [ex_ui, ex_uf, rqr, q3, nq]
    · simp [ex_ui, ex_uf, rqr, q4, nq]
    · simp [ex_ui, ex_uf, rqr, q5, nq]
    · simp [ex_ui, ex_uf, rqr, q6, nq]
  · have nk : en k ≠ z := fun e => by rw [e, hz] at t5; exact absurd t5 (by decide)
    refine s_Msg_init_0 ?_
    refine s_Msg_init_1 (by first | rfl | assumption | (simp [*]; done)) ?_
    refine s_Msg_init_4 ?_
    refine s_Msg_init_5 ?_
    refine s_Msg_init_6 (by first | rfl | assumption | (simp [*]; done)) (by first | rfl | assumption | (simp [*]; done)) ?_
    refine s_Msg_init_9 ?_
    refine s_Msg_init_10 ?_
    refine s_Msg_init_11 (by first | rfl | assumption | (simp [*]; done)) (by first | rfl | assumption | (simp [*]; done)) (by first | rfl | assumption | (simp [*]; done)) ?_
    refine s_Msg_init_14 ?_
    refine s_Msg_init_15 ?_
    refine s_Msg_init_16 (by first | rfl | assumption | (simp [*]; done)) (by first | rfl | assumption | (simp [*]; done)) ?_
    refine s_Msg_init_19 ?_
    refine s_Msg_init_20 ?_
    refine s_Msg_init_21 (fun ah21 h21 => ?_) (fun h21 => absurd h21 (by intro e; cases e))
    refine s_Msg_init_28 ?_
    refine s_Msg_init_29 (by rfl) (by exact q1) ?_
    refine s_Msg_init_32 (by first | rfl | assumption | (simp [*]; done)) (by first | rfl | assumption | (simp [*]; done)) ?_
    refine s_Msg_init_35 ?_
    refine s_Msg_init_36 ?_
    refine s_Msg_init_37 (fun h37 => absurd h37 (by intro e; cases e)) (fun ah37 h37 => ?_)
    refine s_Msg_init_40 ?_
    refine s_Msg_init_41 (by rfl) (by exact q1) ?_
    refine s_Msg_init_44 (fun ah44 h44 => ?_) (fun h44 => absurd h44 (by simp [ex_ui, ex_uf, t4, nq] at h44))
    refine s_Msg_init_51 ?_
    refine s_Msg_init_52 (by rfl) (by exact q1) ?_
    refine s_Msg_init_55 (by exact t4) (by exact t5) ?_
    refine s_Msg_init_58 (by first | rfl | assumption | (simp [*]; done)) (by first | rfl | assumption | (simp [*]; done)) ?_
    refine s_Msg_init_61 ?_
    refine s_Msg_init_62 ?_
    refine s_Msg_init_63 (by first | rfl | assumption | (simp [*]; done)) (by first | rfl | assumption | (simp [*]; done)) ?_
    refine s_Msg_init_66 ?_
    refine s_Msg_init_67 ?_
    refine s_Msg_init_68 (by first | rfl | assumption | (simp [*]; done)) (by first | rfl | assumption | (simp [*]; done)) ?_
    refine s_Msg_init_71 ?_
    refine s_Msg_init_72 ?_
    refine s_Msg_init_73 (by first | rfl | assumption | (simp [*]; done)) (by first | rfl | assumption | (simp [*]; done)) ?_
    refine s_Msg_init_76 ?_
    refine ⟨rfl, rfl, fun c hc => ⟨rfl, fun f hf => ⟨by simp only [ex_ui_ne _ _ _ _ hf, ex_uf_ne _ _ _ _ hf], by simp only [ex_ui_ne _ _ _ _ hf, ex_uf_ne _ _ _ _ hf]⟩⟩, fun hn => ⟨hz, by simp [ex_ui, ex_uf, rqr], by simp [ex_ui, ex_uf, rqr], by simp [ex_ui, ex_uf, rqr], ?_, ?_, by simp [ex_ui, ex_uf, rqr], fun _ e => absurd e hn, fun _ _ => ⟨q, by simp [ex_ui, ex_uf], q1, ?_, ?_, ?_, ?_⟩, fun e => absurd rfl e, fun e => absurd rfl e⟩⟩
    · simp [ex_ui, ex_uf, rqr, q3, nq]
    · simp [ex_ui, ex_uf, rqr, t6, nk, nq]
    · simp [ex_ui, ex_uf, rqr, q3, nq]
    · simp [ex_ui, ex_uf, rqr, q4, nq]
    · simp [ex_ui, ex_uf, rqr, q5, nq]
    · simp [ex_ui, ex_uf, rqr, q6, nq]
theorem sp_msgP {Γ : ex_G} {d : Nat} {K : ex_K} {I : ex_I} {F : ex_F} {b : Nat} {z : Nat} {x : Int32} (hz : (K z).1 = 8) :
    ex_E Γ (d + 1) M_Msg_init 0 [some (.inr (some z)), some (.inl x), some (.inl 0), some (.inr none)] [] K I F b (fun r K' I' F' => r = none ∧ K = K' ∧ xw (fun _ c => c = z) K I F K' I' F' ∧ Ms K' I' F' z (prow x)) := by
  refine s_Msg_init_0 ?_
  refine s_Msg_init_1 (by first | rfl | assumption | (simp [*]; done)) ?_
  refine s_Msg_init_4 ?_
  refine s_Msg_init_5 ?_
  refine s_Msg_init_6 (by first | rfl | assumption | (simp [*]; done)) (by first | rfl | assumption | (simp [*]; done)) ?_
  refine s_Msg_init_9 ?_
  refine s_Msg_init_10 ?_
  refine s_Msg_init_11 (by first | rfl | assumption | (simp [*]; done)) (by first | rfl | assumption | (simp [*]; done)) (by first | rfl | assumption | (simp [*]; done)) ?_
  refine s_Msg_init_14 ?_
  refine s_Msg_init_15 ?_
  refine s_Msg_init_16 (by first | rfl | assumption | (simp [*]; done)) (by first | rfl | assumption | (simp [*]; done)) ?_
  refine s_Msg_init_19 ?_
  refine s_Msg_init_20 ?_
  refine s_Msg_init_21 (fun _ h21 => absurd h21 (by intro e; cases e)) (fun h21 => ?_)
  refine s_Msg_init_24 ?_
  refine s_Msg_init_25 ?_
  refine s_Msg_init_32 (by first | rfl | assumption | (simp [*]; done)) (by first | rfl | assumption | (simp [*]; done)) ?_
  refine s_Msg_init_35 ?_
  refine s_Msg_init_36 ?_
  refine s_Msg_init_37 (fun h37 => ?_) (fun _ h37 => absurd h37 (by intro e; cases e))
  refine s_Msg_init_47 ?_
  refine s_Msg_init_48 ?_
  refine s_Msg_init_58 (by first | rfl | assumption | (simp [*]; done)) (by first | rfl | assumption | (simp [*]; done)) ?_
  refine s_Msg_init_61 ?_
  refine s_Msg_init_62 ?_
  refine s_Msg_init_63 (by first | rfl | assumption | (simp [*]; done)) (by first | rfl | assumption | (simp [*]; done)) ?_
  refine s_Msg_init_66 ?_
  refine s_Msg_init_67 ?_
  refine s_Msg_init_68 (by first | rfl | assumption | (simp [*]; done)) (by first | rfl | assumption | (simp [*]; done)) ?_
  refine s_Msg_init_71 ?_
  refine s_Msg_init_72 ?_
  refine s_Msg_init_73 (by first | rfl | assumption | (simp [*]; done)) (by first | rfl | assumption | (simp [*]; done)) ?_
  refine s_Msg_init_76 ?_
  refine ⟨rfl, rfl, fun c hc => ⟨rfl, fun f hf => ⟨by simp only [ex_ui_ne _ _ _ _ hf, ex_uf_ne _ _ _ _ hf], by simp only [ex_ui_ne _ _ _ _ hf, ex_uf_ne _ _ _ _ hf]⟩⟩, ⟨hz, by simp [ex_ui, ex_uf, prow], by simp [ex_ui, ex_uf, prow], by simp [ex_ui, ex_uf, prow], by simp [ex_ui, ex_uf, prow], by simp [ex_ui, ex_uf, prow], by simp [ex_ui, ex_uf, prow], fun _ _ => by simp [ex_ui, ex_uf], fun _ e => absurd rfl e, fun e => absurd rfl e, fun e => absurd rfl e⟩⟩
/-- an answer with a resource or without -/
theorem sp_msg3 {Γ : ex_G} {d : Nat} {K : ex_K} {I : ex_I} {F : ex_F} {b : Nat} {z m : Nat} {c tg dt : Int32} {q : Option Nat} (hz : (K z).1 = 8) (hm : (K m).1 = 8) (hne : m ≠ z) :
    ex_E Γ (d + 1) M_Msg_init3 0 [some (.inr (some z)), some (.inr (some m)), some (.inl c), some (.inl tg), some (.inr q), some (.inl dt)] [] K I F b (fun r K' I' F' => r = none ∧ K = K' ∧ xw (fun _ c => c = z) K I F K' I' F' ∧ I' 548 z 0 = I 548 m 0 ∧ I' 549 z 0 = 1 ∧ I' 550 z 0 = I 550 m 0 ∧ I' 551 z 0 = c ∧ I' 552 z 0 = tg ∧ I' 555 z 0 = dt ∧ F' 553 z 0 = none ∧ F' 554 z 0 = q) := by
  refine s_Msg_init3_0 ?_
  refine s_Msg_init3_1 (by first | rfl | assumption | (simp [*]; done)) ?_
  refine s_Msg_init3_4 ?_
  refine s_Msg_init3_5 ?_
  refine s_Msg_init3_6 (by first | rfl | assumption | (simp [*]; done)) (by first | rfl | assumption | (simp [*]; done)) ?_
  refine s_Msg_init3_9 (by first | rfl | assumption | (simp [*]; done)) (by first | rfl | assumption | (simp [*]; done)) ?_
  refine s_Msg_init3_12 ?_
  refine s_Msg_init3_13 ?_
  refine s_Msg_init3_14 (by first | rfl | assumption | (simp [*]; done)) (by first | rfl | assumption | (simp [*]; done)) (by first | rfl | assumption | (simp [*]; done)) ?_
  refine s_Msg_init3_17 ?_
  refine s_Msg_init3_18 ?_
  refine s_Msg_init3_19 (by first | rfl | assumption | (simp [*]; done)) (by first | rfl | assumption | (simp [*]; done)) ?_
  refine s_Msg_init3_22 (by first | rfl | assumption | (simp [*]; done)) (by first | rfl | assumption | (simp [*]; done)) ?_
  refine s_Msg_init3_25 ?_
  refine s_Msg_init3_26 ?_
  refine s_Msg_init3_27 (by first | rfl | assumption | (simp [*]; done)) (by first | rfl | assumption | (simp [*]; done)) ?_
  refine s_Msg_init3_30 ?_
  refine s_Msg_init3_31 ?_
  refine s_Msg_init3_32 (by first | rfl | assumption | (simp [*]; done)) (by first | rfl | assumption | (simp [*]; done)) ?_
  refine s_Msg_init3_35 ?_
  refine s_Msg_init3_36 ?_
  refine s_Msg_init3_37 (by first | rfl | assumption | (simp [*]; done)) (by first | rfl | assumption | (simp [*]; done)) ?_
  refine s_Msg_init3_40 ?_
  refine s_Msg_init3_41 ?_
  refine s_Msg_init3_43 (by first | rfl | assumption | (simp [*]; done)) (by first | rfl | assumption | (simp [*]; done)) ?_
  refine s_Msg_init3_46 ?_
  refine s_Msg_init3_47 ?_
  refine s_Msg_init3_49 (by first | rfl | assumption | (simp [*]; done)) (by first | rfl | assumption | (simp [*]; done)) ?_
  refine s_Msg_init3_52 ?_
  refine ⟨rfl, rfl, fun c hc => ⟨rfl, fun f hf => ⟨by simp only [ex_ui_ne _ _ _ _ hf, ex_uf_ne _ _ _ _ hf], by simp only [ex_ui_ne _ _ _ _ hf, ex_uf_ne _ _ _ _ hf]⟩⟩, ?_, ?_, ?_, ?_, ?_, ?_, ?_, ?_⟩
  all_goals simp [ex_ui, ex_uf, hne]
theorem sp_msg2 {Γ : ex_G} {d : Nat} {K : ex_K} {I : ex_I} {F : ex_F} {b : Nat} {z m : Nat} {c : Int32} {x n : Int32} (hz : (K z).1 = 8) (hm : (K m).1 = 8) (hne : m ≠ z) (h0 : I 548 m 0 = x) (h2 : I 550 m 0 = n) (hc : ¬ (c = 200 ∨ c = 304)) :
    ex_E Γ (d + 2) M_Msg_init2 0 [some (.inr (some z)), some (.inr (some m)), some (.inl c)] [] K I F b (fun r K' I' F' => r = none ∧ K = K' ∧ xw (fun _ c => c = z) K I F K' I' F' ∧ Ms K' I' F' z (arow x n c)) := by
  refine s_Msg_init2_0 ?_
  refine s_Msg_init2_1 ?_
  refine s_Msg_init2_2 ?_
  refine s_Msg_init2_3 ?_
  refine s_Msg_init2_4 ?_
  refine s_Msg_init2_5 ?_
  refine s_Msg_init2_6 (b1 := 0) (b2 := b) (by first | rfl | assumption | (simp [*]; done)) (sp_msg3 hz hm hne) ?_ (by omega)
  rintro _ _ I2 F2 ⟨rfl, rfl, x1, m1, m2, m3, m4, m5, m6, m7, m8⟩
  dsimp only [Option.toList, List.cons_append, List.nil_append]
  refine s_Msg_init2_9 ?_
  refine ⟨rfl, rfl, x1, ⟨hz, ?_, m2, ?_, m4, m5, m6, fun e => absurd (show (1 : Int32) = 0 from e) (by decide), fun e => absurd (show (1 : Int32) = 0 from e) (by decide), fun _ e => absurd e hc, fun _ _ => m8⟩⟩
  · rw [m1]; exact h0
  · rw [m3]; exact h2
theorem sp_res {Γ : ex_G} {d : Nat} {K : ex_K} {I : ex_I} {F : ex_F} {b : Nat} {z p : Nat} {v n y : Int32} {c : Nat → Int32} (hz : (K z).1 = 4) (hp : Ctl K I F p c) (hy : y = 0 ∨ y = 1) :
    ex_E Γ (d + 1) M_Res_init 0 [some (.inr (some z)), some (.inl v), some (.inl n), some (.inl y), some (.inr (some p))] [] K I F b (fun r K' I' F' => r = none ∧ K = K' ∧ xw (fun _ c => c = z) K I F K' I' F' ∧ Rs K' I' F' z v n y c) := by
  refine s_Res_init_0 ?_
  refine s_Res_init_1 (by first | rfl | assumption | (simp [*]; done)) ?_
  refine s_Res_init_4 ?_
  refine s_Res_init_5 ?_
  refine s_Res_init_6 (by first | rfl | assumption | (simp [*]; done)) (by first | rfl | assumption | (simp [*]; done)) ?_
  refine s_Res_init_9 ?_
  refine s_Res_init_10 ?_
  refine s_Res_init_11 (by first | rfl | assumption | (simp [*]; done)) (by first | rfl | assumption | (simp [*]; done)) ?_
  refine s_Res_init_14 ?_
  refine s_Res_init_15 ?_
  refine s_Res_init_16 (by exact hy) (by rfl) (by exact hz) ?_
  refine s_Res_init_19 ?_
  refine s_Res_init_20 ?_
  refine s_Res_init_22 (by first | rfl | assumption | (simp [*]; done)) (by first | rfl | assumption | (simp [*]; done)) ?_
  refine s_Res_init_25 ?_
  have x1 : xw (fun _ c => c = z) K I F K (ex_ui (ex_ui (ex_ui I 292 z 0 v) 293 z 0 n) 294 z 0 y) (ex_uf F 295 z 0 (some p)) := fun c hc => ⟨rfl, fun f hf => ⟨by simp only [ex_ui_ne _ _ _ _ hf, ex_uf_ne _ _ _ _ hf], by simp only [ex_ui_ne _ _ _ _ hf, ex_uf_ne _ _ _ _ hf]⟩⟩
  refine ⟨rfl, rfl, x1, ⟨hz, by simp [ex_ui], by simp [ex_ui], by simp [ex_ui], p, by simp [ex_uf], Ctl_z x1 (by rw [hz]; decide) (by rw [hz]; decide) hp⟩⟩
theorem sp_tagFor {Γ : ex_G} {d : Nat} {K : ex_K} {I : ex_I} {F : ex_F} {b : Nat} {q : Nat} {v n y u : Int32} {c : Nat → Int32} (hq : Rs K I F q v n y c) (hy : y = 0 ∨ y = 1) :
    ex_E Γ d M_Res_tagFor 0 [some (.inr (some q)), some (.inl u)] [] K I F b (fun r K' I' F' => r = some (.inl (4 * v + (if y = 1 then u else 0))) ∧ K = K' ∧ I = I' ∧ F = F') := by
  obtain ⟨r1, r2, r3, r4, -⟩ := hq
  refine s_Res_tagFor_0 ?_
  refine s_Res_tagFor_1 ?_
  refine s_Res_tagFor_2 (by first | rfl | assumption | (simp [*]; done)) (by first | rfl | assumption | (simp [*]; done)) ?_
  refine s_Res_tagFor_5 ?_
  refine s_Res_tagFor_6 ?_
  refine s_Res_tagFor_7 (by first | rfl | assumption | (simp [*]; done)) (by first | rfl | assumption | (simp [*]; done)) ?_
  refine s_Res_tagFor_10 (fun h10 => ?_) (fun h10 => ?_)
  · refine s_Res_tagFor_17 ?_
    refine s_Res_tagFor_18 ?_
    refine s_Res_tagFor_19 ?_
    rw [r2]
    rw [r4] at h10
    rw [if_neg (by rw [h10]; decide)]
    exact ⟨rfl, rfl, rfl, rfl⟩
  · refine s_Res_tagFor_13 ?_
    refine s_Res_tagFor_14 ?_
    refine s_Res_tagFor_18 ?_
    refine s_Res_tagFor_19 ?_
    rw [r2]
    rw [r4] at h10
    rw [if_pos (hy.resolve_left h10)]
    exact ⟨rfl, rfl, rfl, rfl⟩
