/-! The class: its parts are made -/
def yP (K : ex_K) : Nat → Nat → Prop := fun _ c => (K c).1 = 1 ∨ (K c).1 = 31 ∨ (K c).1 = 32 ∨ (K c).1 = 33
section YY
variable {K K' : ex_K} {I I' : ex_I} {F F' : ex_F}
theorem y_at (h : xw (yP K) K I F K' I' F') {c k : Nat} (hk : (K c).1 = k) (h0 : k ∉ [0, 1, 31, 32, 33]) : K' c = K c ∧ ∀ f, I' f c = I f c ∧ F' f c = F f c := by
  have hn : (K c).1 ≠ 0 := fun e => h0 (by rw [← hk, e]; decide)
  have np : ∀ f, ¬ yP K f c := fun f w => by
    rcases w with w | w | w | w
    · exact h0 (by rw [← hk, w]; decide)
    · exact h0 (by rw [← hk, w]; decide)
    · exact h0 (by rw [← hk, w]; decide)
    · exact h0 (by rw [← hk, w]; decide)
  exact ⟨(h c hn).1, fun f => (h c hn).2 f (np f)⟩
theorem y_0 (h : xw (fun _ _ => False) K I F K' I' F') : xw (yP K) K I F K' I' F' := xw_mono h (fun _ _ _ w => w.elim)
theorem y_uf {f x i k : Nat} {v : Option Nat} (hx : (K x).1 = k) (hk : k = 1 ∨ k = 31 ∨ k = 32 ∨ k = 33) : xw (yP K) K I F K I (ex_uf F f x i v) := xw_uf (by rw [← hx] at hk; exact hk)
def cD (K : ex_K) (I : ex_I) (F : ex_F) (dr tx : Nat) : Prop := dr_ok K F dr tx ∧ I 22 tx = (fun _ => 0) ∧ I 229 dr 0 = 0
theorem cD_y (h : xw (yP K) K I F K' I' F') {dr tx : Nat} (hc : cD K I F dr tx) : cD K' I' F' dr tx := by
  obtain ⟨⟨d1, d2, d3⟩, d4, d5⟩ := hc
  obtain ⟨a1, a2⟩ := y_at h d1 (by decide)
  obtain ⟨b1, b2⟩ := y_at h (c := tx) (k := 22) (by rw [d3]) (by decide)
  exact ⟨⟨by rw [a1]; exact d1, by rw [(a2 228).2]; exact d2, by rw [b1]; exact d3⟩, by rw [(b2 22).1]; exact d4, by rw [(a2 229).1]; exact d5⟩
def cS (K : ex_K) (I : ex_I) (F : ex_F) (st rw c : Nat) : Prop := (K st).1 = 6 ∧ F 421 st 0 = some rw ∧ K rw = (35, c) ∧ I 420 st 0 = nI c ∧ I 422 st 0 = 0 ∧ I 423 st 0 = 0 ∧ F 35 rw = fun _ => none
theorem cS_y (h : xw (yP K) K I F K' I' F') {st rw c : Nat} (hc : cS K I F st rw c) : cS K' I' F' st rw c := by
  obtain ⟨d1, d2, d3, d4, d5, d6, d7⟩ := hc
  obtain ⟨a1, a2⟩ := y_at h d1 (by decide)
  obtain ⟨b1, b2⟩ := y_at h (c := rw) (k := 35) (by rw [d3]) (by decide)
  exact ⟨by rw [a1]; exact d1, by rw [(a2 421).2]; exact d2, by rw [b1]; exact d3, by rw [(a2 420).1]; exact d4, by rw [(a2 422).1]; exact d5, by rw [(a2 423).1]; exact d6, by rw [(b2 35).2]; exact d7⟩
theorem cS_rep {st rw c : Nat} (hc : cS K I F st rw c) (h40 : c ≤ 40) : st_rep K I F st rw c [] := by
  obtain ⟨d1, d2, d3, d4, d5, d6, d7⟩ := hc
  exact ⟨d1, d2, d3, d4, h40, d6, fun i p h => (by simp at h), fun j y h => (by rw [d7] at h; cases h), fun p h => (by cases h), d5, Nat.zero_le _⟩
def cU (K : ex_K) (I : ex_I) (F : ex_F) (u ms : Nat) : Prop := (K u).1 = 9 ∧ F 612 u 0 = some ms ∧ K ms = (36, 16) ∧ I 613 u 0 = 0 ∧ F 36 ms = fun _ => none
theorem cU_y (h : xw (yP K) K I F K' I' F') {u ms : Nat} (hc : cU K I F u ms) : cU K' I' F' u ms := by
  obtain ⟨d1, d2, d3, d4, d5⟩ := hc
  obtain ⟨a1, a2⟩ := y_at h d1 (by decide)
  obtain ⟨b1, b2⟩ := y_at h (c := ms) (k := 36) (by rw [d3]) (by decide)
  exact ⟨by rw [a1]; exact d1, by rw [(a2 612).2]; exact d2, by rw [b1]; exact d3, by rw [(a2 613).1]; exact d4, by rw [(b2 36).2]; exact d5⟩
theorem cU_rep {u ms : Nat} (hc : cU K I F u ms) : uw_rep K I F u ms [] := by
  obtain ⟨d1, d2, d3, d4, d5⟩ := hc
  exact ⟨d1, d2, d3, d4, by simp, fun i p h => (by simp at h), fun j y h => (by rw [d5] at h; cases h)⟩
theorem Rs_y (h : xw (yP K) K I F K' I' F') {q : Nat} {v n y : Int32} {c : Nat → Int32} (hr : Rs K I F q v n y c) : Rs K' I' F' q v n y c := by
  obtain ⟨r1, r2, r3, r4, z, r5, w, ⟨c1, c2, c3⟩, c4, c5⟩ := hr
  obtain ⟨a1, a2⟩ := y_at h r1 (by decide)
  obtain ⟨b1, b2⟩ := y_at h c1 (by decide)
  obtain ⟨d1, d2⟩ := y_at h (c := w) (k := 21) (by rw [c3]) (by decide)
  exact ⟨by rw [a1]; exact r1, by rw [(a2 292).1]; exact r2, by rw [(a2 293).1]; exact r3, by rw [(a2 294).1]; exact r4, z, by rw [(a2 295).2]; exact r5, w, ⟨by rw [b1]; exact c1, by rw [(b2 164).2]; exact c2, by rw [d1]; exact c3⟩, by rw [(d2 21).1]; exact c4, by rw [(d2 21).1]; exact c5⟩
/-- an origin and its connection, new -/
def cO (K : ex_K) (I : ex_I) (F : ex_F) (og : Nat) : Prop := (K og).1 = 10 ∧ I 676 og 0 = 1 ∧ I 677 og 0 = 0
def cC (K : ex_K) (I : ex_I) (F : ex_F) (cn qa pb t : Nat) : Prop := (K cn).1 = 11 ∧ I 740 cn 0 = nI t ∧ F 741 cn 0 = some pb ∧ F 742 cn 0 = some qa ∧ K qa = (34, 4) ∧ F 34 qa = (fun _ => none) ∧ I 743 cn 0 = 0 ∧ I 744 cn 0 = 0 ∧ I 747 cn 0 = 0 ∧ I 748 cn 0 = 0 ∧ F 745 cn 0 = none ∧ Ms K I F pb (prow (nI t))
theorem cO_y (h : xw (yP K) K I F K' I' F') {og : Nat} (hc : cO K I F og) : cO K' I' F' og := by
  obtain ⟨d1, d2, d3⟩ := hc
  obtain ⟨a1, a2⟩ := y_at h d1 (by decide)
  exact ⟨by rw [a1]; exact d1, by rw [(a2 676).1]; exact d2, by rw [(a2 677).1]; exact d3⟩
theorem MsP_y (h : xw (yP K) K I F K' I' F') {p : Nat} {x : Int32} (hc : Ms K I F p (prow x)) : Ms K' I' F' p (prow x) := by
  obtain ⟨m1, m2, m3, m4, m5, m6, m7, m8, -⟩ := hc
  obtain ⟨a1, a2⟩ := y_at h m1 (by decide)
  refine ⟨by rw [a1]; exact m1, by rw [(a2 548).1]; exact m2, by rw [(a2 549).1]; exact m3, by rw [(a2 550).1]; exact m4, by rw [(a2 551).1]; exact m5, by rw [(a2 552).1]; exact m6, by rw [(a2 555).1]; exact m7, fun e1 e2 => by rw [(a2 553).2]; exact m8 e1 e2, fun _ e => absurd rfl e, fun e => absurd rfl e, fun e => absurd rfl e⟩
theorem cC_y (h : xw (yP K) K I F K' I' F') {cn qa pb t : Nat} (hc : cC K I F cn qa pb t) : cC K' I' F' cn qa pb t := by
  obtain ⟨d1, d2, d3, d4, d5, d6, d7, d8, d9, d10, d11, d12⟩ := hc
  obtain ⟨a1, a2⟩ := y_at h d1 (by decide)
  obtain ⟨b1, b2⟩ := y_at h (c := qa) (k := 34) (by rw [d5]) (by decide)
  exact ⟨by rw [a1]; exact d1, by rw [(a2 740).1]; exact d2, by rw [(a2 741).2]; exact d3, by rw [(a2 742).2]; exact d4, by rw [b1]; exact d5, by rw [(b2 34).2]; exact d6, by rw [(a2 743).1]; exact d7, by rw [(a2 744).1]; exact d8, by rw [(a2 747).1]; exact d9, by rw [(a2 748).1]; exact d10, by rw [(a2 745).2]; exact d11, MsP_y h d12⟩
end YY
theorem sp_dini {Γ : ex_G} {d : Nat} {K : ex_K} {I : ex_I} {F : ex_F} {b : Nat} {z : Nat} (hz : (K z).1 = 3) (h0 : ∀ f, I f z 0 = 0) :
    ex_E Γ (d + 1) M_Drf_init 0 [some (.inr (some z))] [] K I F (b + 1) (fun r K' I' F' => r = none ∧ xw (fun _ c => c = z) K I F K' I' F' ∧ ∃ tx, cD K' I' F' z tx) := by
  refine s_Drf_init_0 ?_
  refine s_Drf_init_1 (by first | rfl | assumption | (simp [*]; done)) ?_
  refine s_Drf_init_4 ?_
  refine s_Drf_init_5 ?_
  refine s_Drf_init_7 (N := 40) (by decide) rfl (by decide) (fun n7 fn7 => ?_)
  refine s_Drf_init_9 (by rfl) (by rw [ex_nk_ne _ _ _ (fun e => by rw [← e, hz] at fn7; exact absurd fn7 (by decide))]; exact hz) ?_
  refine s_Drf_init_12 ?_
  have nz : z ≠ n7 := fun e => by rw [← e, hz] at fn7; exact absurd fn7 (by decide)
  refine ⟨rfl, fun c hc => ?_, n7, ⟨?_, ?_, ?_⟩, ?_, ?_⟩
  · have c1 : c ≠ n7 := fun e => hc (by rw [e]; exact fn7)
    exact ⟨by rw [ex_nk_ne _ _ _ c1], fun f hf => ⟨by rw [ex_ni_ne _ c1], by rw [ex_uf_ne _ _ _ _ hf, ex_nr_ne _ c1]⟩⟩
  · rw [ex_nk_ne _ _ _ nz]; exact hz
  · rw [ex_uf_eq]
  · rw [ex_nk_at]
  · rw [ex_ni_at]
  · rw [ex_ni_ne _ nz]; exact h0 229
theorem sp_sini {Γ : ex_G} {d : Nat} {K : ex_K} {I : ex_I} {F : ex_F} {b : Nat} {z c : Nat} (hz : (K z).1 = 6) (h0 : ∀ f, I f z 0 = 0) (hc : c ≤ 40) :
    ex_E Γ (d + 1) M_Sto_init 0 [some (.inr (some z)), some (.inl (nI c))] [] K I F (b + 1) (fun r K' I' F' => r = none ∧ xw (fun _ c => c = z) K I F K' I' F' ∧ ∃ rw, cS K' I' F' z rw c) := by
  refine s_Sto_init_0 ?_
  refine s_Sto_init_1 (by first | rfl | assumption | (simp [*]; done)) ?_
  refine s_Sto_init_4 ?_
  refine s_Sto_init_5 ?_
  refine s_Sto_init_6 (by first | rfl | assumption | (simp [*]; done)) (by first | rfl | assumption | (simp [*]; done)) ?_
  refine s_Sto_init_9 ?_
  refine s_Sto_init_10 ?_
  refine s_Sto_init_11 (N := c) (nI_pos (by omega)) (nI_clamp (by omega)) (by omega) (fun n11 fn11 => ?_)
  have nz : z ≠ n11 := fun e => by rw [← e, hz] at fn11; exact absurd fn11 (by decide)
  refine s_Sto_init_14 (by rfl) (by rw [ex_nk_ne _ _ _ nz]; exact hz) ?_
  refine s_Sto_init_17 ?_
  refine ⟨rfl, fun c' hc' => ?_, n11, ?_, ?_, ?_, ?_, ?_, ?_, ?_⟩
  · have c1 : c' ≠ n11 := fun e => hc' (by rw [e]; exact fn11)
    exact ⟨by rw [ex_nk_ne _ _ _ c1], fun f hf => ⟨by rw [ex_ni_ne _ c1, ex_ui_ne _ _ _ _ hf], by rw [ex_uf_ne _ _ _ _ hf, ex_nr_ne _ c1]⟩⟩
  · rw [ex_nk_ne _ _ _ nz]; exact hz
  · rw [ex_uf_eq]
  · rw [ex_nk_at]
  · rw [ex_ni_ne _ nz, ex_ui_eq]
  · rw [ex_ni_ne _ nz, ex_ui_f _ _ _ _ (by decide)]; exact h0 _
  · rw [ex_ni_ne _ nz, ex_ui_f _ _ _ _ (by decide)]; exact h0 _
  · rw [ex_uf_f _ _ _ _ (by decide), ex_nr_at]
theorem sp_uini {Γ : ex_G} {d : Nat} {K : ex_K} {I : ex_I} {F : ex_F} {b : Nat} {z : Nat} (hz : (K z).1 = 9) (h0 : ∀ f, I f z 0 = 0) :
    ex_E Γ (d + 1) M_UW_init 0 [some (.inr (some z))] [] K I F (b + 1) (fun r K' I' F' => r = none ∧ xw (fun _ c => c = z) K I F K' I' F' ∧ ∃ ms, cU K' I' F' z ms) := by
  refine s_UW_init_0 ?_
  refine s_UW_init_1 (by first | rfl | assumption | (simp [*]; done)) ?_
  refine s_UW_init_4 ?_
  refine s_UW_init_5 ?_
  refine s_UW_init_7 (N := _) (by decide) rfl (by decide) (fun n7 fn7 => ?_)
  refine s_UW_init_10 (by rfl) (by rw [ex_nk_ne _ _ _ (fun e => by rw [← e, hz] at fn7; exact absurd fn7 (by decide))]; exact hz) ?_
  refine s_UW_init_13 ?_
  have nz : z ≠ n7 := fun e => by rw [← e, hz] at fn7; exact absurd fn7 (by decide)
  refine ⟨rfl, fun c hc => ?_, n7, ?_, ?_, ?_, ?_, ?_⟩
  · have c1 : c ≠ n7 := fun e => hc (by rw [e]; exact fn7)
    exact ⟨by rw [ex_nk_ne _ _ _ c1], fun f hf => ⟨by rw [ex_ni_ne _ c1], by rw [ex_uf_ne _ _ _ _ hf, ex_nr_ne _ c1]⟩⟩
  · rw [ex_nk_ne _ _ _ nz]; exact hz
  · rw [ex_uf_eq]
  · rw [ex_nk_at]; rfl
  · rw [ex_ni_ne _ nz]; exact h0 _
  · rw [ex_uf_f _ _ _ _ (by decide), ex_nr_at]
theorem sp_oini {Γ : ex_G} {d : Nat} {K : ex_K} {I : ex_I} {F : ex_F} {b : Nat} {z : Nat} (hz : (K z).1 = 10) (h0 : ∀ f, I f z 0 = 0) :
    ex_E Γ (d + 1) M_Org_init 0 [some (.inr (some z))] [] K I F b (fun r K' I' F' => r = none ∧ xw (fun _ c => c = z) K I F K' I' F' ∧ cO K' I' F' z) := by
  refine s_Org_init_0 ?_
  refine s_Org_init_1 (by first | rfl | assumption | (simp [*]; done)) ?_
  refine s_Org_init_4 ?_
  refine s_Org_init_5 ?_
  refine s_Org_init_6 (by exact Or.inr rfl) (by rfl) (by exact hz) ?_
  refine s_Org_init_9 ?_
  refine ⟨rfl, fun c hc => ⟨rfl, fun f hf => ⟨by rw [ex_ui_ne _ _ _ _ hf], rfl⟩⟩, hz, ?_, ?_⟩
  · rw [ex_ui_eq]
  · rw [ex_ui_f _ _ _ _ (by decide)]; exact h0 _
theorem sp_cini {Γ : ex_G} {d : Nat} {K : ex_K} {I : ex_I} {F : ex_F} {b : Nat} {z t : Nat} (hz : (K z).1 = 11) (h0 : ∀ f, I f z 0 = 0) (h1 : ∀ f, F f z 0 = none) :
    ex_E Γ (d + 2) M_Con_init 0 [some (.inr (some z)), some (.inl (nI t))] [] K I F (b + 2) (fun r K' I' F' => r = none ∧ xw (fun _ c => c = z) K I F K' I' F' ∧ ∃ qa pb, (K qa).1 = 0 ∧ cC K' I' F' z qa pb t) := by
  refine s_Con_init_0 ?_
  refine s_Con_init_1 (by first | rfl | assumption | (simp [*]; done)) ?_
  refine s_Con_init_4 ?_
  refine s_Con_init_5 ?_
  refine s_Con_init_6 (N := _) (by decide) rfl (by decide) (fun n6 fn6 => ?_)
  refine s_Con_init_9 (by rfl) (by rw [ex_nk_ne _ _ _ (fun e => by rw [← e, hz] at fn6; exact absurd fn6 (by decide))]; exact hz) ?_
  refine s_Con_init_12 ?_
  refine s_Con_init_13 ?_
  refine s_Con_init_14 (by rfl) (by rw [ex_nk_ne _ _ _ (fun e => by rw [← e, hz] at fn6; exact absurd fn6 (by decide))]; exact hz) ?_
  refine s_Con_init_17 ?_
  have nz : z ≠ n6 := fun e => by rw [← e, hz] at fn6; exact absurd fn6 (by decide)
  have xa : xw (fun _ c => c = z) K I F (ex_nk K n6 34 (4 : Int32).toNatClampNeg) (ex_ui (ex_ni I n6) 740 z 0 (nI t)) (ex_uf (ex_nr F n6) 742 z 0 (some n6)) := fun c hc => by
    have c1 : c ≠ n6 := fun e => hc (by rw [e]; exact fn6)
    exact ⟨by rw [ex_nk_ne _ _ _ c1], fun f hf => ⟨by rw [ex_ui_ne _ _ _ _ hf, ex_ni_ne _ c1], by rw [ex_uf_ne _ _ _ _ hf, ex_nr_ne _ c1]⟩⟩
  have kz : (ex_nk K n6 34 (4 : Int32).toNatClampNeg z).1 = 11 := by rw [ex_nk_ne _ _ _ nz]; exact hz
  have kq : ex_nk K n6 34 (4 : Int32).toNatClampNeg n6 = (34, 4) := by rw [ex_nk_at]; rfl
  have j0 : ∀ f, f ≠ 740 → ex_ui (ex_ni I n6) 740 z 0 (nI t) f z 0 = 0 := fun f hf => by rw [ex_ui_f _ _ _ _ hf, ex_ni_ne _ nz]; exact h0 f
  have j1 : ∀ f, f ≠ 742 → ex_uf (ex_nr F n6) 742 z 0 (some n6) f z 0 = none := fun f hf => by rw [ex_uf_f _ _ _ _ hf, ex_nr_ne _ nz]; exact h1 f
  have j2 : ex_ui (ex_ni I n6) 740 z 0 (nI t) 740 z 0 = nI t := ex_ui_eq _ _ _ _ _
  have j3 : ex_uf (ex_nr F n6) 742 z 0 (some n6) 742 z 0 = some n6 := ex_uf_eq _ _ _ _ _
  have j4 : ex_uf (ex_nr F n6) 742 z 0 (some n6) 34 n6 = fun _ => none := by rw [ex_uf_f _ _ _ _ (by decide), ex_nr_at]
  generalize ex_nk K n6 34 (4 : Int32).toNatClampNeg = K1 at xa kz kq ⊢
  generalize ex_ui (ex_ni I n6) 740 z 0 (nI t) = I1 at xa j0 j2 ⊢
  generalize ex_uf (ex_nr F n6) 742 z 0 (some n6) = F1 at xa j1 j3 j4 ⊢
  refine s_Con_init_18 (fun n18 fn18 => ?_)
  have xn : xw (fun _ _ => False) K1 I1 F1 (ex_nk K1 n18 8 0) (ex_ni I1 n18) (ex_nr F1 n18) := xw_new fn18
  have k8 : (ex_nk K1 n18 8 0 n18).1 = 8 := by rw [ex_nk_at]
  have kz1 : (ex_nk K1 n18 8 0 z).1 = 11 := xw_K xn (by decide) kz
  have mk : ∀ {K' : ex_K} {I' : ex_I} {F' : ex_F}, xw (fun _ c => c = n18) (ex_nk K1 n18 8 0) (ex_ni I1 n18) (ex_nr F1 n18) K' I' F' → xw (fun _ _ => False) K1 I1 F1 K' I' F' := fun h => xw_made fn18 h
  generalize ex_nk K1 n18 8 0 = K2 at xn k8 kz1 mk ⊢
  generalize ex_ni I1 n18 = I2 at xn mk ⊢
  generalize ex_nr F1 n18 = F2 at xn mk ⊢
  refine s_Con_init_21 ?_
  refine s_Con_init_22 ?_
  refine s_Con_init_23 ?_
  refine s_Con_init_24 ?_
  refine s_Con_init_25 (b1 := 0) (b2 := b) (by first | rfl | assumption | (simp [*]; done)) (sp_msgP (d := d) k8) ?_ (by omega)
  rintro _ _ I3 F3 ⟨rfl, rfl, x3, m3⟩
  dsimp only [Option.toList, List.cons_append, List.nil_append]
  have xf := mk x3
  have kz2 : (K2 z).1 = 11 := xw_K xf (by decide) kz
  refine s_Con_init_28 (by rfl) (by exact kz2) ?_
  refine s_Con_init_31 ?_
  have nm : n18 ≠ z := fun e => by rw [e, kz2] at k8; exact absurd k8 (by decide)
  refine ⟨rfl, xw_trans xa (xw_trans (xw_mono xf (fun _ _ _ h => h.elim)) (xw_uf rfl)), n6, n18, fn6, kz2, ?_, ex_uf_eq _ _ _ _ _, ?_, xw_k xf (by decide) kq, ?_, ?_, ?_, ?_, ?_, ?_, ?_⟩
  · rw [xw_i xf (by decide) kz id]; exact j2
  · rw [ex_uf_f _ _ _ _ (by decide), xw_f xf (by decide) kz id]; exact j3
  · rw [ex_uf_f _ _ _ _ (by decide), xw_f xf (k := 34) (by decide) (by rw [kq]) id]; exact j4
  · rw [xw_i xf (by decide) kz id]; exact j0 _ (by decide)
  · rw [xw_i xf (by decide) kz id]; exact j0 _ (by decide)
  · rw [xw_i xf (by decide) kz id]; exact j0 _ (by decide)
  · rw [xw_i xf (by decide) kz id]; exact j0 _ (by decide)
  · rw [ex_uf_f _ _ _ _ (by decide), xw_f xf (by decide) kz id]; exact j1 _ (by decide)
  · obtain ⟨m1, m2, m3, m4, m5, m6, m7, m8, -⟩ := m3
    refine ⟨m1, m2, m3, m4, m5, m6, m7, fun e1 e2 => ?_, fun _ e => absurd rfl e, fun e => absurd rfl e, fun e => absurd rfl e⟩
    rw [ex_uf_ne _ _ _ _ nm]
    exact m8 e1 e2
theorem sp_abs {K : ex_K} {I : ex_I} {F : ex_F} {q z y : Nat} (hq : (K q).1 = 4) (e1 : I 292 q 0 = 0) (e2 : I 293 q 0 = 0) (e3 : I 294 q 0 = 0) (e4 : F 295 q 0 = some z) (hz : ct_ok K F z y) (hy : ∀ j, j < 7 → I 21 y j = -1) : Rs K I F q 0 0 0 cn_none := by
  refine ⟨hq, e1, e2, e3, z, e4, y, hz, fun j hj => Or.inl (hy j hj), fun j hj => ?_⟩
  rw [tx_4_c (N' := fun _ => -1) (fun j hj => hy j hj) j hj]
  rcases (by omega : j = 0 ∨ j = 1 ∨ j = 2 ∨ j = 3) with rfl | rfl | rfl | rfl <;> rfl
