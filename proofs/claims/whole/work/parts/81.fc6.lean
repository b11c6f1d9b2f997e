/-! The class: a get is dealt with -/
theorem htb_hit {s : MS} {x v : Int32} {e : Nat} {row : Nat → Int32} (h1 : fix (mtb x v) (s.2 14) 0 = some e) (h2 : (s.2 14)[e]? = some row) : m_hit s x v = if htb (s.1 805 0) (s.1 5) row = true then some (e, row) else none := by
  unfold m_hit
  rw [h1]
  simp only []
  rw [h2]
theorem m_hit_no {s : MS} {x v : Int32} (h1 : fix (mtb x v) (s.2 14) 0 = none) : m_hit s x v = none := by
  unfold m_hit
  rw [h1]
/-- what is left of a get that hits nothing -/
theorem sp_dealR {Γ : ex_G} {d : Nat} {K : ex_K} {I : ex_I} {F : ex_F} {b : Nat} {a : Nat → Nat} {g : GH} {s : MS} (hR : Rc K I F a g 3 s) {p pp rn zc : Nat} {v tag : Int32} {l2 : Option Nat} (hr1 : 1 ≤ rn) (hr2 : rn ≤ g.2.2.1) (hp : g.2.1 rn = p) (kp : (K p).1 = 7) (e4 : I 484 p 0 = nI rn) (e5 : I 485 p 0 = 1) (e6 : I 486 p 0 = nI pp) (e7 : I 487 p 0 = v) (e8 : I 488 p 0 = 0) (e9 : I 489 p 0 = tag) (ez : F 490 p 0 = some zc) (hz : Ctl K I F zc (s.1 5)) (z1 : F 491 p 0 = none) (z3 : I 493 p 0 = 0) (z4 : I 494 p 0 = 0) (z5 : I 495 p 0 = 0) (hx : ∀ u, u < 3 → ∀ w', w' ∈ s.2 (100 + u) → ¬ w' 0 = nI rn) {N : Nat} (hJ : J N 3 3 s) (hN : N ≤ 1000) (hpp : pp < 8) (hm : m_hit s (nI pp) v = none) (hl : (l2 = none ∧ m_ent s 1 (nI pp) v = none) ∨ ∃ q row, l2 = some q ∧ m_ent s 1 (nI pp) v = some row ∧ Er K I F g q row) :
    ex_E Γ (d + 5) M_FC_dealWithGet 63 [some (.inr (some (a 0))), some (.inr (some p)), some (.inr l2)] [] K I F (b + 1) (fun r K' I' F' => r = none ∧ xi K I F K' I' F' ∧ Rc K' I' F' a g 3 (m_get2 s (nI rn) pp v tag)) := by
  obtain ⟨x0, x1, x2, x3, x4, x5, x6, x7, x8⟩ := hR.1.1
  obtain ⟨y, hy, hy1, hy2⟩ := hz
  have hzc := hy.1
  have h8 : s.1 5 0 &&& 8 = 0 ↔ I 21 y 3 = -1 := by rw [← hy2 0 (by decide)]; exact tx_bit8
  unfold m_get2
  rw [hm]
  simp only []
  refine s_FC_dealWithGet_63 ?_
  refine s_FC_dealWithGet_64 (by first | rfl | assumption | (simp [*]; done)) (by first | rfl | assumption | (simp [*]; done)) ?_
  refine s_FC_dealWithGet_67 ?_
  refine s_FC_dealWithGet_68 (b1 := 0) (b2 := b + 1) (by exact ez) (by exact hzc) (ex_up (d := d) (by omega) (sp_has2 3 rfl hy (by decide))) ?_ (by omega)
  rintro _ _ _ _ ⟨rfl, rfl, rfl, rfl⟩
  dsimp only [Option.toList, List.cons_append, List.nil_append]
  refine s_FC_dealWithGet_71 (fun h71 => ?_) (fun h71 => ?_)
  · rw [e01] at h71
    rw [if_pos (h8.mpr h71), m_pass_adm]
    have xw0 : xw (lP [(491, p)]) K I F K I (ex_uf F 491 p 0 l2) := xw_uf (by simp [lP])
    have iw0 : imm (lP [(491, p)]) := im_l (by simp [xmut])
    have R1 : Rc K I (ex_uf F 491 p 0 l2) a g 3 s := Rc_gen hR xw0 iw0 (Or.inl ⟨⟨by simp [lP], by simp [lP]⟩, rfl, rfl⟩) (Or.inl ⟨⟨by simp [lP], by simp [lP], by simp [lP], fun _ => ⟨by simp [lP], by simp [lP]⟩⟩, rfl, rfl⟩) (Or.inl ⟨⟨by simp [lP], by simp [lP]⟩, rfl⟩) (Or.inl ⟨by simp [lP], rfl, rfl, rfl, rfl⟩) (fun u hu _ => Or.inl ⟨⟨by simp [lP], by simp [lP], by simp [lP]⟩, rfl, rfl, rfl⟩) (fun u hu hz => Or.inl ⟨by simp [cnP, lP], fun p' w' _ hw' he => ⟨fun hc => hx u hu w' hw' (by
      have : p' = p := by simpa [lP] using hc
      rw [← he, this]
      exact e4), by simp [lP], by simp [lP], by simp [lP]⟩, rfl, rfl, rfl, rfl, rfl⟩) (Or.inl ⟨by simp [lP], fun _ _ => ⟨by simp [lP], by simp [lP], by simp [lP], by simp [lP]⟩, rfl, rfl, rfl, rfl⟩) (Or.inl ⟨⟨by simp [lP], by simp [lP], by simp [lP]⟩, rfl, rfl, rfl⟩) ⟨rfl, rfl⟩
    have f490 : ex_uf F 491 p 0 l2 490 p 0 = some zc := by rw [ex_uf_f _ _ _ _ (by decide)]; exact ez
    have hz' : Ctl K I (ex_uf F 491 p 0 l2) zc (s.1 5) := Ctl_x xw0 iw0 ⟨y, hy, hy1, hy2⟩
    have w1 : Rw K I (ex_uf F 491 p 0 l2) g p (prw (s.1 5) (nI rn) 1 (nI pp) v tag 0 (m_ent s 1 (nI pp) v)) := by
      refine ⟨⟨kp, e4, e5, e6, e7, e8, e9, ?_, zc, f490, ⟨y, (ct_x xw0 iw0 hy).1⟩, fun _ => Ctl_c hz' (fun j hj => ?_)⟩, z3, z4, z5, rn, rfl, hr1, hr2, hp⟩
      · rcases hl with ⟨rfl, hl⟩ | ⟨q, row, rfl, hl, hE⟩
        · rw [hl]
          exact Or.inl ⟨rfl, rfl, ex_uf_eq _ _ _ _ _⟩
        · rw [hl]
          obtain ⟨hE1, k, k1, k2, k3, k4⟩ := hE
          refine Or.inr ⟨k, k1, k2, k3, ?_, ?_, ?_⟩
          · rw [ex_uf_eq, k4]
          · rw [k4]; exact hE1.1
          · rw [k4]; exact hE1.2.2.2.1
      · rcases (by omega : j = 0 ∨ j = 1 ∨ j = 2 ∨ j = 3) with rfl | rfl | rfl | rfl <;> rfl
    have hpo := sp_passOn (Γ := Γ) (d := d) (b := b) R1 w1 hpp rfl hx (J_24 hJ hN (own3 pp hpp))
    refine s_FC_dealWithGet_84 ?_
    refine s_FC_dealWithGet_85 ?_
    refine s_FC_dealWithGet_86 (by first | rfl | assumption | (simp [*]; done)) (by first | rfl | assumption | (simp [*]; done)) ?_
    refine s_FC_dealWithGet_89 ?_
    refine s_FC_dealWithGet_90 ?_
    refine s_FC_dealWithGet_91 (b1 := b + 1) (b2 := 0) (by rfl) (by exact x0) (hpo) ?_ (by omega)
    rintro _ K4 I4 F4 ⟨rfl, X4, R4⟩
    dsimp only [Option.toList, List.cons_append, List.nil_append]
    refine s_FC_dealWithGet_94 ?_
    exact ⟨rfl, xi_trans (xi_of xw0 iw0) X4, R4⟩
  · refine s_FC_dealWithGet_74 ?_
    refine s_FC_dealWithGet_75 ?_
    refine s_FC_dealWithGet_78 (by first | rfl | assumption | (simp [*]; done)) (by first | rfl | assumption | (simp [*]; done)) ?_
    refine s_FC_dealWithGet_81 ?_
    refine s_FC_dealWithGet_94 ?_
    rw [e01] at h71
    rw [if_neg (fun e => h71 (h8.mp e))]
    have hx' : ∀ t, t < 3 → t ≠ 3 → ∀ w', w' ∈ s.2 (100 + t) → ¬ w' 0 = nI rn := fun t ht _ => hx t ht
    subst hp
    refine ⟨rfl, xw_ui (show 492 ∈ xmut by decide), Rc_rep hR hr1 hr2 (xw_ui ⟨Or.inl rfl, rfl⟩) (ex_ui_eq _ _ _ _ _) ?_ ?_ ?_ hx'⟩
    · rw [ex_ui_f _ _ _ _ (by decide)]; exact z3
    · rw [ex_ui_f _ _ _ _ (by decide)]; exact z4
    · rw [ex_ui_f _ _ _ _ (by decide)]; exact z5
theorem sp_deal {Γ : ex_G} {d : Nat} {K : ex_K} {I : ex_I} {F : ex_F} {b : Nat} {a : Nat → Nat} {g : GH} {s : MS} (hR : Rc K I F a g 3 s) {p pp rn zc : Nat} {v tag : Int32} (hr1 : 1 ≤ rn) (hr2 : rn ≤ g.2.2.1) (hp : g.2.1 rn = p) (kp : (K p).1 = 7) (e4 : I 484 p 0 = nI rn) (e5 : I 485 p 0 = 1) (e6 : I 486 p 0 = nI pp) (e7 : I 487 p 0 = v) (e8 : I 488 p 0 = 0) (e9 : I 489 p 0 = tag) (ez : F 490 p 0 = some zc) (hz : Ctl K I F zc (s.1 5)) (z1 : F 491 p 0 = none) (z3 : I 493 p 0 = 0) (z4 : I 494 p 0 = 0) (z5 : I 495 p 0 = 0) (hx : ∀ u, u < 3 → ∀ w', w' ∈ s.2 (100 + u) → ¬ w' 0 = nI rn) {N : Nat} (hJ : J N 3 3 s) (hN : N ≤ 1000) (hpp : pp < 8) :
    ex_E Γ (d + 5) M_FC_dealWithGet 0 [some (.inr (some (a 0))), some (.inr (some p)), none] [] K I F (b + 1) (fun r K' I' F' => r = none ∧ xi K I F K' I' F' ∧ Rc K' I' F' a g 3 (m_get2 s (nI rn) pp v tag)) := by
  obtain ⟨x0, x1, x2, x3, x4, x5, x6, x7, x8⟩ := hR.1.1
  have hg := hR.2.2.2.2.2.2.2.2.2
  have t0 := hR.2.2.2.2.2.2.2.2.1.1
  obtain ⟨S, c, s1, s2, s3, s4⟩ := c_find hR (nI pp) v
  have hf : S.find? (mE I F (nI pp) v) = (fix (mtb (nI pp) v) (s.2 14) 0).bind (fun i => S[i]?) := by rw [find_fix, s4]
  have hent : m_ent s 1 (nI pp) v = (fix (mtb (nI pp) v) (s.2 14) 0).bind (fun e => (s.2 14)[e]?) := rfl
  have hfc := sp_cfind (Γ := Γ) (d := d) (b := 0) (x := nI pp) (v := v) s2
  rw [hf] at hfc
  cases hh : fix (mtb (nI pp) v) (s.2 14) 0 with
  | none =>
    rw [hh] at hfc hent
    have hk := sp_dealR (Γ := Γ) (d := d) (b := b) (l2 := none) hR hr1 hr2 hp kp e4 e5 e6 e7 e8 e9 ez hz z1 z3 z4 z5 hx hJ hN hpp (m_hit_no hh) (Or.inl ⟨rfl, hent⟩) (tag := tag)
    refine s_FC_dealWithGet_0 ?_
    refine s_FC_dealWithGet_1 (by first | rfl | assumption | (simp [*]; done)) (by first | rfl | assumption | (simp [*]; done)) ?_
    refine s_FC_dealWithGet_4 ?_
    refine s_FC_dealWithGet_5 (by first | rfl | assumption | (simp [*]; done)) (by first | rfl | assumption | (simp [*]; done)) ?_
    refine s_FC_dealWithGet_8 ?_
    refine s_FC_dealWithGet_9 (by first | rfl | assumption | (simp [*]; done)) (by first | rfl | assumption | (simp [*]; done)) ?_
    rw [e6, e7]
    refine s_FC_dealWithGet_12 (b1 := 0) (b2 := b + 1) (by exact x2) (by exact s2.1) (ex_up (by omega) hfc) ?_ (by omega)
    rintro _ _ _ _ ⟨rfl, rfl, rfl, rfl⟩
    dsimp only [Option.toList, List.cons_append, List.nil_append]
    refine s_FC_dealWithGet_15 ?_
    refine s_FC_dealWithGet_16 ?_
    refine s_FC_dealWithGet_17 (fun h17 => ?_) (fun _ h17 => absurd h17 (by intro w; cases w))
    exact hk
  | some e =>
    rw [hh] at hfc hent
    obtain ⟨-, row0, hrow, -⟩ := fix_lt _ _ _ _ hh
    rw [Nat.sub_zero] at hrow
    obtain ⟨q, hq, hE⟩ := f2_getr s3 hrow
    have hfc' : ((some e).bind fun i => S[i]?) = some q := hq
    have hent' : m_ent s 1 (nI pp) v = some row0 := by rw [hent]; exact hrow
    rw [hfc'] at hfc
    have kq := hE.1.1
    by_cases hb : htb (s.1 805 0) (s.1 5) row0 = true
    · have hhit : m_hit s (nI pp) v = some (e, row0) := by rw [htb_hit hh hrow, if_pos hb]
      have hptr := fix_ptr hg s3 hJ.2.2.2.2.2.2 hq
      refine s_FC_dealWithGet_0 ?_
      refine s_FC_dealWithGet_1 (by first | rfl | assumption | (simp [*]; done)) (by first | rfl | assumption | (simp [*]; done)) ?_
      refine s_FC_dealWithGet_4 ?_
      refine s_FC_dealWithGet_5 (by first | rfl | assumption | (simp [*]; done)) (by first | rfl | assumption | (simp [*]; done)) ?_
      refine s_FC_dealWithGet_8 ?_
      refine s_FC_dealWithGet_9 (by first | rfl | assumption | (simp [*]; done)) (by first | rfl | assumption | (simp [*]; done)) ?_
      rw [e6, e7]
      refine s_FC_dealWithGet_12 (b1 := 0) (b2 := b + 1) (by exact x2) (by exact s2.1) (ex_up (by omega) hfc) ?_ (by omega)
      rintro _ _ _ _ ⟨rfl, rfl, rfl, rfl⟩
      dsimp only [Option.toList, List.cons_append, List.nil_append]
      refine s_FC_dealWithGet_15 ?_
      refine s_FC_dealWithGet_16 ?_
      refine s_FC_dealWithGet_17 (fun h17 => absurd h17 (by intro w; cases w)) (fun ah17 h17 => ?_)
      refine s_FC_dealWithGet_20 ?_
      refine s_FC_dealWithGet_21 ?_
      refine s_FC_dealWithGet_22 (by first | rfl | assumption | (simp [*]; done)) (by first | rfl | assumption | (simp [*]; done)) ?_
      refine s_FC_dealWithGet_25 ?_
      refine s_FC_dealWithGet_26 (by first | rfl | assumption | (simp [*]; done)) (by first | rfl | assumption | (simp [*]; done)) ?_
      rw [ez, t0]
      refine s_FC_dealWithGet_29 (b1 := 0) (b2 := b + 1) (by rfl) (by exact kq) (ex_up (by omega) (sp_serves (d := d) hE.1 hz)) ?_ (by omega)
      rintro _ _ _ _ ⟨rfl, rfl, rfl, rfl⟩
      dsimp only [Option.toList, List.cons_append, List.nil_append]
      rw [if_pos hb]
      refine s_FC_dealWithGet_32 (fun h32 => absurd h32 (by decide)) (fun h32 => ?_)
      refine s_FC_dealWithGet_35 ?_
      refine s_FC_dealWithGet_36 (by first | rfl | assumption | (simp [*]; done)) (by first | rfl | assumption | (simp [*]; done)) ?_
      refine s_FC_dealWithGet_39 ?_
      refine s_FC_dealWithGet_40 (b1 := 0) (b2 := b + 1) (by exact x2) (by exact s2.1) (ex_up (by omega) (sp_makeLatest (d := d) s2 hptr)) ?_ (by omega)
      rintro _ _ I1 F1 ⟨rfl, rfl, f1, g1⟩
      dsimp only [Option.toList, List.cons_append, List.nil_append]
      have xs : xw stP K I F K I1 F1 := xw_st f1 (fun _ => Or.inl rfl) (fun _ => Or.inr (Or.inl rfl)) (fun _ => Or.inr (Or.inr rfl))
      have ns : ∀ f q, f ≠ 422 → f ≠ 423 → f ≠ 35 → ¬ stP f q := fun f q h1 h2 h3 w => by rcases w with w | w | w <;> contradiction
      have R1 : Rc K I1 F1 a g 3 (tu s 14 ((s.2 14).eraseIdx e ++ [row0])) := Rc_st1 hR xs ⟨_, c, s1, g1, by rw [tu_at]; exact f2_app (f2_erase e (f2_mono (fun p _ row h => Er_x xs im_st (ns _ _ (by decide) (by decide) (by decide)) (ns _ _ (by decide) (by decide) (by decide)) h) s3)) ⟨Er_x xs im_st (ns _ _ (by decide) (by decide) (by decide)) (ns _ _ (by decide) (by decide) (by decide)) hE, trivial⟩⟩
      have b1 : I1 359 q 0 = tgr row0 := by rw [f1.1 359 (by decide) (by decide)]; exact hE.1.2.2.2.1
      have b2 : I1 108 (a 0) 0 = s.1 805 0 := by rw [f1.1 108 (by decide) (by decide)]; exact t0
      have b3 : I1 361 q 0 = row0 6 := by rw [f1.1 361 (by decide) (by decide)]; exact hE.1.2.2.2.2.1
      have b4 : I1 489 p 0 = tag := by rw [f1.1 489 (by decide) (by decide)]; exact e9
      refine s_FC_dealWithGet_43 ?_
      refine s_FC_dealWithGet_44 ?_
      refine s_FC_dealWithGet_45 (by rfl) (by exact kq) ?_
      refine s_FC_dealWithGet_48 ?_
      refine s_FC_dealWithGet_49 ?_
      refine s_FC_dealWithGet_50 (by first | rfl | assumption | (simp [*]; done)) (by first | rfl | assumption | (simp [*]; done)) ?_
      rw [b1, b2]
      refine s_FC_dealWithGet_53 (b1 := 0) (b2 := b + 1) (by rfl) (by exact kq) (ex_up (d := d) (by omega) (sp_age kq)) ?_ (by omega)
      rintro _ _ _ _ ⟨rfl, rfl, rfl, rfl⟩
      dsimp only [Option.toList, List.cons_append, List.nil_append]
      rw [b3]
      refine s_FC_dealWithGet_56 ?_
      refine s_FC_dealWithGet_57 (b1 := 0) (b2 := b + 1) (by rfl) (by exact kp) (ex_up (d := d) (by omega) (sp_answerOk kp b4)) ?_ (by omega)
      rintro _ _ I2 _ ⟨rfl, rfl, rfl, x2, a1, a2, a3, a4⟩
      dsimp only [Option.toList, List.cons_append, List.nil_append]
      refine s_FC_dealWithGet_60 ?_
      refine s_FC_dealWithGet_94 ?_
      subst hp
      have xa : xw (rP g rn) K I1 F1 K I2 F1 := x2
      have R2 := Rc_rep R1 hr1 hr2 xa a1 a2 a3 a4 (fun t ht _ w' hw' => by
        rw [tu_ne _ _ (by omega)] at hw'
        exact hx t ht w' hw')
      refine ⟨rfl, xi_trans (xi_of xs im_st) (xi_of xa im_r), ?_⟩
      unfold m_get2
      rw [hhit]
      simp only []
      rw [m_rep_tu] at R2
      have et : (if tgr row0 = tag then (304 : Int32) else 200) = (if tag = tgr row0 then 304 else 200) := by
        by_cases w : tag = tgr row0
        · rw [if_pos w, if_pos w.symm]
        · rw [if_neg w, if_neg (fun z => w z.symm)]
      rw [et] at R2
      exact R2
    · have hno : m_hit s (nI pp) v = none := by rw [htb_hit hh hrow, if_neg hb]
      have hk := sp_dealR (Γ := Γ) (d := d) (b := b) (l2 := some q) hR hr1 hr2 hp kp e4 e5 e6 e7 e8 e9 ez hz z1 z3 z4 z5 hx hJ hN hpp hno (Or.inr ⟨q, row0, rfl, hent', hE⟩) (tag := tag)
      refine s_FC_dealWithGet_0 ?_
      refine s_FC_dealWithGet_1 (by first | rfl | assumption | (simp [*]; done)) (by first | rfl | assumption | (simp [*]; done)) ?_
      refine s_FC_dealWithGet_4 ?_
      refine s_FC_dealWithGet_5 (by first | rfl | assumption | (simp [*]; done)) (by first | rfl | assumption | (simp [*]; done)) ?_
      refine s_FC_dealWithGet_8 ?_
      refine s_FC_dealWithGet_9 (by first | rfl | assumption | (simp [*]; done)) (by first | rfl | assumption | (simp [*]; done)) ?_
      rw [e6, e7]
      refine s_FC_dealWithGet_12 (b1 := 0) (b2 := b + 1) (by exact x2) (by exact s2.1) (ex_up (by omega) hfc) ?_ (by omega)
      rintro _ _ _ _ ⟨rfl, rfl, rfl, rfl⟩
      dsimp only [Option.toList, List.cons_append, List.nil_append]
      refine s_FC_dealWithGet_15 ?_
      refine s_FC_dealWithGet_16 ?_
      refine s_FC_dealWithGet_17 (fun h17 => absurd h17 (by intro w; cases w)) (fun ah17 h17 => ?_)
      refine s_FC_dealWithGet_20 ?_
      refine s_FC_dealWithGet_21 ?_
      refine s_FC_dealWithGet_22 (by first | rfl | assumption | (simp [*]; done)) (by first | rfl | assumption | (simp [*]; done)) ?_
      refine s_FC_dealWithGet_25 ?_
      refine s_FC_dealWithGet_26 (by first | rfl | assumption | (simp [*]; done)) (by first | rfl | assumption | (simp [*]; done)) ?_
      rw [ez, t0]
      refine s_FC_dealWithGet_29 (b1 := 0) (b2 := b + 1) (by rfl) (by exact kq) (ex_up (by omega) (sp_serves (d := d) hE.1 hz)) ?_ (by omega)
      rintro _ _ _ _ ⟨rfl, rfl, rfl, rfl⟩
      dsimp only [Option.toList, List.cons_append, List.nil_append]
      rw [if_neg hb]
      refine s_FC_dealWithGet_32 (fun h32 => ?_) (fun h32 => absurd h32 (by exact fun z => z rfl))
      exact hk
