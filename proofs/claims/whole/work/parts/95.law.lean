/-! The law: its turns -/
theorem rf_xx {K : ex_K} {F F' : ex_F} {m : Nat} {ad : Nat → Nat} (h : rf_ok K F m ad) (e : ∀ q, (K q).1 ≠ 0 → ∀ f, F' f q = F f q) : rf_ok K F' m ad := by
  obtain ⟨h1, h2, h3, h4⟩ := h
  exact ⟨h1, h2, h3, fun q hq => ⟨by rw [e m (by rw [h1]; decide)]; exact (h4 q hq).1, (h4 q hq).2⟩⟩
theorem rr_xx {K : ex_K} {F : ex_F} {I I' : ex_I} {m : Nat} {ad : Nat → Nat} {s : MS} (hR : rf_ok K F m ad) (h : rr I m ad s) (e : ∀ q, (K q).1 ≠ 0 → ∀ f, I' f q = I f q) : rr I' m ad s := by
  have em : ∀ f, I' f m = I f m := e m (by rw [hR.1]; decide)
  have ea : ∀ q, q ∈ rf_tab → q.2.1 ≠ 0 → ∀ f, I' f (ad q.1) = I f (ad q.1) := fun q hq h0 => e _ (by rw [(hR.2.2.2 q hq).2]; exact h0)
  have eA : ∀ k, k ∈ rrA → ∀ f, I' f (ad k) = I f (ad k) := by
    intro k hk
    have t : ∀ k, k ∈ rrA → ∃ q, q ∈ rf_tab ∧ q.1 = k ∧ q.2.1 ≠ 0 := by decide
    obtain ⟨q, q1, q2, q3⟩ := t k hk
    rw [← q2]
    exact ea q q1 q3
  have eB : ∀ k, k ∈ rrB → ∀ f, I' f (ad k) = I f (ad k) := by
    intro k hk
    have t : ∀ k, k ∈ rrB → ∃ q, q ∈ rf_tab ∧ q.1 = k ∧ q.2.1 ≠ 0 := by decide
    obtain ⟨q, q1, q2, q3⟩ := t k hk
    rw [← q2]
    exact ea q q1 q3
  obtain ⟨h1, h2, h3, h4, h5, h6, h7, h8, h9⟩ := h
  have e3 := ea (3, 22, 40) (by decide) (by decide)
  have e6 := ea (6, 22, 30) (by decide) (by decide)
  have e7 := ea (7, 22, 31) (by decide) (by decide)
  have e14 := ea (14, 21, 320) (by decide) (by decide)
  have e15 := ea (15, 21, 160) (by decide) (by decide)
  have e21 := ea (21, 21, 3) (by decide) (by decide)
  have e22 := ea (22, 21, 96) (by decide) (by decide)
  have e23 := ea (23, 21, 48) (by decide) (by decide)
  have e31 := ea (31, 21, 315) (by decide) (by decide)
  simp only [] at e3 e6 e7 e14 e15 e21 e22 e23 e31
  refine ⟨fun k hk => by rw [eA k hk]; exact h1 k hk, fun k hk => by rw [eB k hk]; exact h2 k hk, fun g hg => by rw [em]; exact h3 g hg, by rw [e3]; exact h4, ?_, ?_, ?_, fun t ht => ?_, fun t ht j hj => by rw [e31]; exact h9 t ht j hj⟩
  · unfold rt_ok at h5 ⊢
    rw [e6, e7]
    exact h5
  · unfold r_ent at h6 ⊢
    rw [em, e14, e15]
    exact h6
  · unfold r_fly at h7 ⊢
    rw [em, e31]
    exact h7
  · have := h8 t ht
    unfold r_que at this ⊢
    rw [e21, e22, e23]
    exact this
/-- both sides in one picture: the class's cells, the reference's cells -/
def LI (K : ex_K) (I : ex_I) (F : ex_F) (x m : Nat) (s sm : MS) : Prop := ∃ (Kc Km : ex_K) (a : Nat → Nat) (g : GH) (ad : Nat → Nat), a 0 = x ∧ Rc Kc I F a g 3 s ∧ rf_ok Km F m ad ∧ rr I m ad sm ∧ (∀ q, (Kc q).1 ≠ 0 → K q = Kc q) ∧ (∀ q, (Km q).1 ≠ 0 → K q = Km q) ∧ ∀ q, (Kc q).1 ≠ 0 → (Km q).1 = 0
theorem LI_c {K Kc Km K' : ex_K} {I I' : ex_I} {F F' : ex_F} {m : Nat} {a ad : Nat → Nat} {g' : GH} {s' sm : MS} (hM : rf_ok Km F m ad) (hr : rr I m ad sm) (h2 : ∀ q, (Km q).1 ≠ 0 → K q = Km q) (h3 : ∀ q, (Kc q).1 ≠ 0 → (Km q).1 = 0) (R : Rc K' I' F' a g' 3 s') (hf : ∀ q, (K' q).1 ≠ 0 → (Kc q).1 ≠ 0 ∨ (K q).1 = 0) : LI (mgK K Kc K') (mgI K' I I') (mgF K' F F') (a 0) m s' sm := by
  have hz : ∀ q, (Km q).1 ≠ 0 → (K' q).1 = 0 := fun q hq => by
    by_cases z : (K' q).1 = 0
    · exact z
    · rcases hf q z with w | w
      · exact absurd (h3 q w) hq
      · rw [h2 q hq] at w
        exact absurd w hq
  have hc0 : ∀ q, (Km q).1 ≠ 0 → (Kc q).1 = 0 := fun q hq => by
    by_cases z : (Kc q).1 = 0
    · exact z
    · exact absurd (h3 q z) hq
  refine ⟨K', Km, a, g', ad, rfl, Rc_0 (fun q hq => ⟨rfl, fun f _ => ⟨if_neg hq, if_neg hq⟩⟩) R, rf_xx hM (fun q hq f => if_pos (hz q hq)), rr_xx hM hr (fun q hq f => if_pos (hz q hq)), fun q hq => if_neg hq, fun q hq => ?_, fun q hq => ?_⟩
  · show (if (K' q).1 = 0 then (if (Kc q).1 = 0 then K q else (0, 0)) else K' q) = Km q
    rw [if_pos (hz q hq), if_pos (hc0 q hq)]
    exact h2 q hq
  · by_cases z : (Km q).1 = 0
    · exact z
    · exact absurd (hz q z) hq
theorem LI_m {K Kc Km K' : ex_K} {I I' : ex_I} {F F' : ex_F} {m : Nat} {a ad : Nat → Nat} {g : GH} {s s' : MS} (R : Rc Kc I F a g 3 s) (h1 : ∀ q, (Kc q).1 ≠ 0 → K q = Kc q) (h3 : ∀ q, (Kc q).1 ≠ 0 → (Km q).1 = 0) (hM : rf_ok K' F' m ad) (hr : rr I' m ad s') (hf : ∀ q, (K' q).1 ≠ 0 → (Km q).1 ≠ 0 ∨ (K q).1 = 0) : LI (mgK K Km K') (mgI K' I I') (mgF K' F F') (a 0) m s s' := by
  have hz : ∀ q, (Kc q).1 ≠ 0 → (K' q).1 = 0 := fun q hq => by
    by_cases z : (K' q).1 = 0
    · exact z
    · rcases hf q z with w | w
      · exact absurd (h3 q hq) w
      · rw [h1 q hq] at w
        exact absurd w hq
  refine ⟨Kc, K', a, g, ad, rfl, Rc_0 (fun q hq => ⟨rfl, fun f _ => ⟨if_pos (hz q hq), if_pos (hz q hq)⟩⟩) R, rf_xx hM (fun q hq f => if_neg hq), rr_xx hM hr (fun q hq f => if_neg hq), fun q hq => ?_, fun q hq => if_neg hq, hz⟩
  show (if (K' q).1 = 0 then (if (Km q).1 = 0 then K q else (0, 0)) else K' q) = Kc q
  rw [if_pos (hz q hq), if_pos (h3 q hq)]
  exact h1 q hq
theorem lo_type {Γ : ex_G} {k b N x m : Nat} {K : ex_K} {I : ex_I} {F : ex_F} {s : MS} {Q : Option ex_V → ex_K → ex_I → ex_F → Prop} (hL : LI K I F x m s s) (hJ : J N 3 3 s) (hN : N < 1000) (hk : k + 4 ≤ Γ.2.2.2.2.2.2.1) (hl : Γ.2.2.2.2.2.2.1 ≤ 2049) (kk : ∀ K' I' F' s', LI K' I' F' x m s' s' → J (N + 1) 3 3 s' → ex_E Γ 9 M_Law_law 663 [some (.inr (some Γ.2.2.2.2.2.1)), some (.inr (some x)), some (.inr (some m)), some (.inl (nI k))] [] K' I' F' b Q) :
    ex_E Γ 9 M_Law_law 132 [some (.inr (some Γ.2.2.2.2.2.1)), some (.inr (some x)), some (.inr (some m)), some (.inl (nI k))] [] K I F (b + 4) Q := by
  obtain ⟨Kc, Km, a, g, ad, rfl, hR, hM, hr, h1, h2, h3⟩ := hL
  obtain ⟨hz, h16⟩ := Rc_Z hR
  obtain ⟨v, s', hC, hD, hJ'⟩ := t2_type hJ hz _ (pk_vc (Γ.2.2.2.2.2.2.2 (nI k + 1).toNatClampNeg))
  replace hD := fun Γ K I F m ad h1 h2 => hD Γ K I F m ad h1 h2
  refine s_Law_law_132 ?_
  refine s_Law_law_133 ?_
  refine s_Law_law_134 ?_
  refine s_Law_law_135 ?_
  refine s_Law_law_136 ?_
  refine s_Law_law_137 (by rw [show nI k + 1 = nI (k + 1) from nI_add k 1]; exact vp_in_nI (by omega) (by omega)) ?_
  refine s_Law_law_138 ?_
  refine sf_Law_law_139 (b1 := 4) (b2 := b) (K1 := Kc) h1 (by rfl) (by exact (hR.1.1).1) (hC Γ Kc I F a g hR) ?_ (by omega)
  rintro _ K2 I2 F2 ⟨rfl, g2, R2⟩ hf2
  dsimp only [Option.toList, List.cons_append, List.nil_append]
  have L2 := LI_c hM hr h2 h3 R2 hf2
  generalize mgK K Kc K2 = K3 at L2 ⊢
  generalize mgI K2 I I2 = I3 at L2 ⊢
  generalize mgF K2 F F2 = F3 at L2 ⊢
  clear hR hM hr h1 h2 h3 hf2 R2
  obtain ⟨Kd, Kn, a', g', ad', ha, hR, hM, hr, h1, h2, h3⟩ := L2
  refine s_Law_law_142 ?_
  refine s_Law_law_143 ?_
  refine s_Law_law_144 ?_
  refine s_Law_law_145 ?_
  refine s_Law_law_146 ?_
  refine s_Law_law_147 (by rw [show nI k + 1 = nI (k + 1) from nI_add k 1]; exact vp_in_nI (by omega) (by omega)) ?_
  refine s_Law_law_148 ?_
  refine sf_Law_law_149 (b1 := 0) (b2 := b) (K1 := Kn) h2 (by rfl) (by exact (hM.1)) (hD Γ Kn I3 F3 m ad' hM hr) ?_ (by omega)
  rintro _ _ I4 _ ⟨rfl, rfl, rfl, r4⟩ hf4
  dsimp only [Option.toList, List.cons_append, List.nil_append]
  have L4 := LI_m hR h1 h3 hM r4 hf4
  rw [ha] at L4
  refine s_Law_law_152 (fun h152 => ?_) (fun h152 => absurd h152 (by exact fun z => z rfl))
  exact kk _ _ _ s' L4 hJ'
theorem lo_withdraw {Γ : ex_G} {k b N x m : Nat} {K : ex_K} {I : ex_I} {F : ex_F} {s : MS} {Q : Option ex_V → ex_K → ex_I → ex_F → Prop} (hL : LI K I F x m s s) (hJ : J N 3 3 s) (hN : N < 1000) (hk : k + 4 ≤ Γ.2.2.2.2.2.2.1) (hl : Γ.2.2.2.2.2.2.1 ≤ 2049) (kk : ∀ K' I' F' s', LI K' I' F' x m s' s' → J (N + 1) 3 3 s' → ex_E Γ 9 M_Law_law 663 [some (.inr (some Γ.2.2.2.2.2.1)), some (.inr (some x)), some (.inr (some m)), some (.inl (nI k))] [] K' I' F' b Q) :
    ex_E Γ 9 M_Law_law 216 [some (.inr (some Γ.2.2.2.2.2.1)), some (.inr (some x)), some (.inr (some m)), some (.inl (nI k))] [] K I F (b + 4) Q := by
  obtain ⟨Kc, Km, a, g, ad, rfl, hR, hM, hr, h1, h2, h3⟩ := hL
  obtain ⟨hz, h16⟩ := Rc_Z hR
  obtain ⟨v, s', hC, hD, hJ'⟩ := t2_withdraw hJ (Γ.2.2.2.2.2.2.2 (nI k + 1).toNatClampNeg)
  replace hD := fun Γ K I F m ad h1 h2 => hD Γ K I F m ad h1 h2
  refine s_Law_law_216 ?_
  refine s_Law_law_217 ?_
  refine s_Law_law_218 ?_
  refine s_Law_law_219 ?_
  refine s_Law_law_220 ?_
  refine s_Law_law_221 (by rw [show nI k + 1 = nI (k + 1) from nI_add k 1]; exact vp_in_nI (by omega) (by omega)) ?_
  refine sf_Law_law_222 (b1 := 4) (b2 := b) (K1 := Kc) h1 (by rfl) (by exact (hR.1.1).1) (hC Γ Kc I F a g hR) ?_ (by omega)
  rintro _ K2 I2 F2 ⟨rfl, g2, R2⟩ hf2
  dsimp only [Option.toList, List.cons_append, List.nil_append]
  have L2 := LI_c hM hr h2 h3 R2 hf2
  generalize mgK K Kc K2 = K3 at L2 ⊢
  generalize mgI K2 I I2 = I3 at L2 ⊢
  generalize mgF K2 F F2 = F3 at L2 ⊢
  clear hR hM hr h1 h2 h3 hf2 R2
  obtain ⟨Kd, Kn, a', g', ad', ha, hR, hM, hr, h1, h2, h3⟩ := L2
  refine s_Law_law_225 ?_
  refine s_Law_law_226 ?_
  refine s_Law_law_227 ?_
  refine s_Law_law_228 ?_
  refine s_Law_law_229 ?_
  refine s_Law_law_230 (by rw [show nI k + 1 = nI (k + 1) from nI_add k 1]; exact vp_in_nI (by omega) (by omega)) ?_
  refine sf_Law_law_231 (b1 := 0) (b2 := b) (K1 := Kn) h2 (by rfl) (by exact (hM.1)) (hD Γ Kn I3 F3 m ad' hM hr) ?_ (by omega)
  rintro _ _ I4 _ ⟨rfl, rfl, rfl, r4⟩ hf4
  dsimp only [Option.toList, List.cons_append, List.nil_append]
  have L4 := LI_m hR h1 h3 hM r4 hf4
  rw [ha] at L4
  refine s_Law_law_234 (fun h234 => ?_) (fun h234 => absurd h234 (by exact fun z => z rfl))
  exact kk _ _ _ s' L4 hJ'
theorem lo_get {Γ : ex_G} {k b N x m : Nat} {K : ex_K} {I : ex_I} {F : ex_F} {s : MS} {Q : Option ex_V → ex_K → ex_I → ex_F → Prop} (hL : LI K I F x m s s) (hJ : J N 3 3 s) (hN : N < 1000) (hk : k + 4 ≤ Γ.2.2.2.2.2.2.1) (hl : Γ.2.2.2.2.2.2.1 ≤ 2049) (kk : ∀ K' I' F' s', LI K' I' F' x m s' s' → J (N + 1) 3 3 s' → ex_E Γ 9 M_Law_law 663 [some (.inr (some Γ.2.2.2.2.2.1)), some (.inr (some x)), some (.inr (some m)), some (.inl (nI k))] [] K' I' F' b Q) :
    ex_E Γ 9 M_Law_law 239 [some (.inr (some Γ.2.2.2.2.2.1)), some (.inr (some x)), some (.inr (some m)), some (.inl (nI k))] [] K I F (b + 4) Q := by
  obtain ⟨Kc, Km, a, g, ad, rfl, hR, hM, hr, h1, h2, h3⟩ := hL
  obtain ⟨hz, h16⟩ := Rc_Z hR
  obtain ⟨v, s', hC, hD, hJ'⟩ := t2_get hJ hN hz (Γ.2.2.2.2.2.2.2 (nI k + 1).toNatClampNeg) (Γ.2.2.2.2.2.2.2 (nI k + 2).toNatClampNeg) (Γ.2.2.2.2.2.2.2 (nI k + 3).toNatClampNeg)
  replace hD := fun Γ K I F m ad h1 h2 => hD Γ K I F m ad h1 h2
  refine s_Law_law_239 ?_
  refine s_Law_law_240 ?_
  refine s_Law_law_241 ?_
  refine s_Law_law_242 ?_
  refine s_Law_law_243 ?_
  refine s_Law_law_244 (by rw [show nI k + 1 = nI (k + 1) from nI_add k 1]; exact vp_in_nI (by omega) (by omega)) ?_
  refine s_Law_law_245 ?_
  refine s_Law_law_246 ?_
  refine s_Law_law_247 ?_
  refine s_Law_law_248 ?_
  refine s_Law_law_249 (by rw [show nI k + 2 = nI (k + 2) from nI_add k 2]; exact vp_in_nI (by omega) (by omega)) ?_
  refine s_Law_law_250 ?_
  refine s_Law_law_251 ?_
  refine s_Law_law_252 ?_
  refine s_Law_law_253 ?_
  refine s_Law_law_254 (by rw [show nI k + 3 = nI (k + 3) from nI_add k 3]; exact vp_in_nI (by omega) (by omega)) ?_
  refine sf_Law_law_255 (b1 := 4) (b2 := b) (K1 := Kc) h1 (by rfl) (by exact (hR.1.1).1) (hC Γ Kc I F a g hR) ?_ (by omega)
  rintro _ K2 I2 F2 ⟨rfl, g2, R2⟩ hf2
  dsimp only [Option.toList, List.cons_append, List.nil_append]
  have L2 := LI_c hM hr h2 h3 R2 hf2
  generalize mgK K Kc K2 = K3 at L2 ⊢
  generalize mgI K2 I I2 = I3 at L2 ⊢
  generalize mgF K2 F F2 = F3 at L2 ⊢
  clear hR hM hr h1 h2 h3 hf2 R2
  obtain ⟨Kd, Kn, a', g', ad', ha, hR, hM, hr, h1, h2, h3⟩ := L2
  refine s_Law_law_258 ?_
  refine s_Law_law_259 ?_
  refine s_Law_law_260 ?_
  refine s_Law_law_261 ?_
  refine s_Law_law_262 ?_
  refine s_Law_law_263 (by rw [show nI k + 1 = nI (k + 1) from nI_add k 1]; exact vp_in_nI (by omega) (by omega)) ?_
  refine s_Law_law_264 ?_
  refine s_Law_law_265 ?_
  refine s_Law_law_266 ?_
  refine s_Law_law_267 ?_
  refine s_Law_law_268 (by rw [show nI k + 2 = nI (k + 2) from nI_add k 2]; exact vp_in_nI (by omega) (by omega)) ?_
  refine s_Law_law_269 ?_
  refine s_Law_law_270 ?_
  refine s_Law_law_271 ?_
  refine s_Law_law_272 ?_
  refine s_Law_law_273 (by rw [show nI k + 3 = nI (k + 3) from nI_add k 3]; exact vp_in_nI (by omega) (by omega)) ?_
  refine sf_Law_law_274 (b1 := 0) (b2 := b) (K1 := Kn) h2 (by rfl) (by exact (hM.1)) (hD Γ Kn I3 F3 m ad' hM hr) ?_ (by omega)
  rintro _ _ I4 _ ⟨rfl, rfl, rfl, r4⟩ hf4
  dsimp only [Option.toList, List.cons_append, List.nil_append]
  have L4 := LI_m hR h1 h3 hM r4 hf4
  rw [ha] at L4
  refine s_Law_law_277 (fun h277 => ?_) (fun h277 => absurd h277 (by exact fun z => z rfl))
  exact kk _ _ _ s' L4 hJ'
theorem lo_put {Γ : ex_G} {k b N x m : Nat} {K : ex_K} {I : ex_I} {F : ex_F} {s : MS} {Q : Option ex_V → ex_K → ex_I → ex_F → Prop} (hL : LI K I F x m s s) (hJ : J N 3 3 s) (hN : N < 1000) (hk : k + 4 ≤ Γ.2.2.2.2.2.2.1) (hl : Γ.2.2.2.2.2.2.1 ≤ 2049) (kk : ∀ K' I' F' s', LI K' I' F' x m s' s' → J (N + 1) 3 3 s' → ex_E Γ 9 M_Law_law 663 [some (.inr (some Γ.2.2.2.2.2.1)), some (.inr (some x)), some (.inr (some m)), some (.inl (nI k))] [] K' I' F' b Q) :
    ex_E Γ 9 M_Law_law 282 [some (.inr (some Γ.2.2.2.2.2.1)), some (.inr (some x)), some (.inr (some m)), some (.inl (nI k))] [] K I F (b + 4) Q := by
  obtain ⟨Kc, Km, a, g, ad, rfl, hR, hM, hr, h1, h2, h3⟩ := hL
  obtain ⟨hz, h16⟩ := Rc_Z hR
  obtain ⟨v, s', hC, hD, hJ'⟩ := t2_put hJ hN (Γ.2.2.2.2.2.2.2 (nI k + 1).toNatClampNeg) (Γ.2.2.2.2.2.2.2 (nI k + 2).toNatClampNeg)
  replace hD := fun Γ K I F m ad h1 h2 => hD Γ K I F m ad h1 h2
  refine s_Law_law_282 ?_
  refine s_Law_law_283 ?_
  refine s_Law_law_284 ?_
  refine s_Law_law_285 ?_
  refine s_Law_law_286 ?_
  refine s_Law_law_287 (by rw [show nI k + 1 = nI (k + 1) from nI_add k 1]; exact vp_in_nI (by omega) (by omega)) ?_
  refine s_Law_law_288 ?_
  refine s_Law_law_289 ?_
  refine s_Law_law_290 ?_
  refine s_Law_law_291 ?_
  refine s_Law_law_292 (by rw [show nI k + 2 = nI (k + 2) from nI_add k 2]; exact vp_in_nI (by omega) (by omega)) ?_
  refine sf_Law_law_293 (b1 := 4) (b2 := b) (K1 := Kc) h1 (by rfl) (by exact (hR.1.1).1) (hC Γ Kc I F a g hR) ?_ (by omega)
  rintro _ K2 I2 F2 ⟨rfl, g2, R2⟩ hf2
  dsimp only [Option.toList, List.cons_append, List.nil_append]
  have L2 := LI_c hM hr h2 h3 R2 hf2
  generalize mgK K Kc K2 = K3 at L2 ⊢
  generalize mgI K2 I I2 = I3 at L2 ⊢
  generalize mgF K2 F F2 = F3 at L2 ⊢
  clear hR hM hr h1 h2 h3 hf2 R2
  obtain ⟨Kd, Kn, a', g', ad', ha, hR, hM, hr, h1, h2, h3⟩ := L2
  refine s_Law_law_296 ?_
  refine s_Law_law_297 ?_
  refine s_Law_law_298 ?_
  refine s_Law_law_299 ?_
  refine s_Law_law_300 ?_
  refine s_Law_law_301 (by rw [show nI k + 1 = nI (k + 1) from nI_add k 1]; exact vp_in_nI (by omega) (by omega)) ?_
  refine s_Law_law_302 ?_
  refine s_Law_law_303 ?_
  refine s_Law_law_304 ?_
  refine s_Law_law_305 ?_
  refine s_Law_law_306 (by rw [show nI k + 2 = nI (k + 2) from nI_add k 2]; exact vp_in_nI (by omega) (by omega)) ?_
  refine sf_Law_law_307 (b1 := 0) (b2 := b) (K1 := Kn) h2 (by rfl) (by exact (hM.1)) (hD Γ Kn I3 F3 m ad' hM hr) ?_ (by omega)
  rintro _ _ I4 _ ⟨rfl, rfl, rfl, r4⟩ hf4
  dsimp only [Option.toList, List.cons_append, List.nil_append]
  have L4 := LI_m hR h1 h3 hM r4 hf4
  rw [ha] at L4
  refine s_Law_law_310 (fun h310 => ?_) (fun h310 => absurd h310 (by exact fun z => z rfl))
  exact kk _ _ _ s' L4 hJ'
theorem lo_delete {Γ : ex_G} {k b N x m : Nat} {K : ex_K} {I : ex_I} {F : ex_F} {s : MS} {Q : Option ex_V → ex_K → ex_I → ex_F → Prop} (hL : LI K I F x m s s) (hJ : J N 3 3 s) (hN : N < 1000) (hk : k + 4 ≤ Γ.2.2.2.2.2.2.1) (hl : Γ.2.2.2.2.2.2.1 ≤ 2049) (kk : ∀ K' I' F' s', LI K' I' F' x m s' s' → J (N + 1) 3 3 s' → ex_E Γ 9 M_Law_law 663 [some (.inr (some Γ.2.2.2.2.2.1)), some (.inr (some x)), some (.inr (some m)), some (.inl (nI k))] [] K' I' F' b Q) :
    ex_E Γ 9 M_Law_law 315 [some (.inr (some Γ.2.2.2.2.2.1)), some (.inr (some x)), some (.inr (some m)), some (.inl (nI k))] [] K I F (b + 4) Q := by
  obtain ⟨Kc, Km, a, g, ad, rfl, hR, hM, hr, h1, h2, h3⟩ := hL
  obtain ⟨hz, h16⟩ := Rc_Z hR
  obtain ⟨v, s', hC, hD, hJ'⟩ := t2_delete hJ hN (Γ.2.2.2.2.2.2.2 (nI k + 1).toNatClampNeg)
  replace hD := fun Γ K I F m ad h1 h2 => hD Γ K I F m ad h1 h2
  refine s_Law_law_315 ?_
  refine s_Law_law_316 ?_
  refine s_Law_law_317 ?_
  refine s_Law_law_318 ?_
  refine s_Law_law_319 ?_
  refine s_Law_law_320 (by rw [show nI k + 1 = nI (k + 1) from nI_add k 1]; exact vp_in_nI (by omega) (by omega)) ?_
  refine sf_Law_law_321 (b1 := 4) (b2 := b) (K1 := Kc) h1 (by rfl) (by exact (hR.1.1).1) (hC Γ Kc I F a g hR) ?_ (by omega)
  rintro _ K2 I2 F2 ⟨rfl, g2, R2⟩ hf2
  dsimp only [Option.toList, List.cons_append, List.nil_append]
  have L2 := LI_c hM hr h2 h3 R2 hf2
  generalize mgK K Kc K2 = K3 at L2 ⊢
  generalize mgI K2 I I2 = I3 at L2 ⊢
  generalize mgF K2 F F2 = F3 at L2 ⊢
  clear hR hM hr h1 h2 h3 hf2 R2
  obtain ⟨Kd, Kn, a', g', ad', ha, hR, hM, hr, h1, h2, h3⟩ := L2
  refine s_Law_law_324 ?_
  refine s_Law_law_325 ?_
  refine s_Law_law_326 ?_
  refine s_Law_law_327 ?_
  refine s_Law_law_328 ?_
  refine s_Law_law_329 (by rw [show nI k + 1 = nI (k + 1) from nI_add k 1]; exact vp_in_nI (by omega) (by omega)) ?_
  refine sf_Law_law_330 (b1 := 0) (b2 := b) (K1 := Kn) h2 (by rfl) (by exact (hM.1)) (hD Γ Kn I3 F3 m ad' hM hr) ?_ (by omega)
  rintro _ _ I4 _ ⟨rfl, rfl, rfl, r4⟩ hf4
  dsimp only [Option.toList, List.cons_append, List.nil_append]
  have L4 := LI_m hR h1 h3 hM r4 hf4
  rw [ha] at L4
  refine s_Law_law_333 (fun h333 => ?_) (fun h333 => absurd h333 (by exact fun z => z rfl))
  exact kk _ _ _ s' L4 hJ'
theorem lo_deliver {Γ : ex_G} {k b N x m : Nat} {K : ex_K} {I : ex_I} {F : ex_F} {s : MS} {Q : Option ex_V → ex_K → ex_I → ex_F → Prop} (hL : LI K I F x m s s) (hJ : J N 3 3 s) (hN : N < 1000) (hk : k + 4 ≤ Γ.2.2.2.2.2.2.1) (hl : Γ.2.2.2.2.2.2.1 ≤ 2049) (kk : ∀ K' I' F' s', LI K' I' F' x m s' s' → J (N + 1) 3 3 s' → ex_E Γ 9 M_Law_law 663 [some (.inr (some Γ.2.2.2.2.2.1)), some (.inr (some x)), some (.inr (some m)), some (.inl (nI k))] [] K' I' F' b Q) :
    ex_E Γ 9 M_Law_law 338 [some (.inr (some Γ.2.2.2.2.2.1)), some (.inr (some x)), some (.inr (some m)), some (.inl (nI k))] [] K I F (b + 4) Q := by
  obtain ⟨Kc, Km, a, g, ad, rfl, hR, hM, hr, h1, h2, h3⟩ := hL
  obtain ⟨hz, h16⟩ := Rc_Z hR
  obtain ⟨v, s', hC, hD, hJ'⟩ := t2_deliver hJ hN hz h16 (Γ.2.2.2.2.2.2.2 (nI k + 1).toNatClampNeg)
  replace hD := fun Γ K I F m ad h1 h2 => hD Γ K I F m ad h1 h2
  refine s_Law_law_338 ?_
  refine s_Law_law_339 ?_
  refine s_Law_law_340 ?_
  refine s_Law_law_341 ?_
  refine s_Law_law_342 ?_
  refine s_Law_law_343 (by rw [show nI k + 1 = nI (k + 1) from nI_add k 1]; exact vp_in_nI (by omega) (by omega)) ?_
  refine sf_Law_law_344 (b1 := 4) (b2 := b) (K1 := Kc) h1 (by rfl) (by exact (hR.1.1).1) (hC Γ Kc I F a g hR) ?_ (by omega)
  rintro _ K2 I2 F2 ⟨rfl, g2, R2⟩ hf2
  dsimp only [Option.toList, List.cons_append, List.nil_append]
  have L2 := LI_c hM hr h2 h3 R2 hf2
  generalize mgK K Kc K2 = K3 at L2 ⊢
  generalize mgI K2 I I2 = I3 at L2 ⊢
  generalize mgF K2 F F2 = F3 at L2 ⊢
  clear hR hM hr h1 h2 h3 hf2 R2
  obtain ⟨Kd, Kn, a', g', ad', ha, hR, hM, hr, h1, h2, h3⟩ := L2
  refine s_Law_law_347 ?_
  refine s_Law_law_348 ?_
  refine s_Law_law_349 ?_
  refine s_Law_law_350 ?_
  refine s_Law_law_351 ?_
  refine s_Law_law_352 (by rw [show nI k + 1 = nI (k + 1) from nI_add k 1]; exact vp_in_nI (by omega) (by omega)) ?_
  refine sf_Law_law_353 (b1 := 0) (b2 := b) (K1 := Kn) h2 (by rfl) (by exact (hM.1)) (hD Γ Kn I3 F3 m ad' hM hr) ?_ (by omega)
  rintro _ _ I4 _ ⟨rfl, rfl, rfl, r4⟩ hf4
  dsimp only [Option.toList, List.cons_append, List.nil_append]
  have L4 := LI_m hR h1 h3 hM r4 hf4
  rw [ha] at L4
  refine s_Law_law_356 (fun h356 => ?_) (fun h356 => absurd h356 (by exact fun z => z rfl))
  exact kk _ _ _ s' L4 hJ'
theorem lo_lose {Γ : ex_G} {k b N x m : Nat} {K : ex_K} {I : ex_I} {F : ex_F} {s : MS} {Q : Option ex_V → ex_K → ex_I → ex_F → Prop} (hL : LI K I F x m s s) (hJ : J N 3 3 s) (hN : N < 1000) (hk : k + 4 ≤ Γ.2.2.2.2.2.2.1) (hl : Γ.2.2.2.2.2.2.1 ≤ 2049) (kk : ∀ K' I' F' s', LI K' I' F' x m s' s' → J (N + 1) 3 3 s' → ex_E Γ 9 M_Law_law 663 [some (.inr (some Γ.2.2.2.2.2.1)), some (.inr (some x)), some (.inr (some m)), some (.inl (nI k))] [] K' I' F' b Q) :
    ex_E Γ 9 M_Law_law 361 [some (.inr (some Γ.2.2.2.2.2.1)), some (.inr (some x)), some (.inr (some m)), some (.inl (nI k))] [] K I F (b + 4) Q := by
  obtain ⟨Kc, Km, a, g, ad, rfl, hR, hM, hr, h1, h2, h3⟩ := hL
  obtain ⟨hz, h16⟩ := Rc_Z hR
  obtain ⟨v, s', hC, hD, hJ'⟩ := t2_lose hJ h16 (Γ.2.2.2.2.2.2.2 (nI k + 1).toNatClampNeg)
  replace hD := fun Γ K I F m ad h1 h2 => hD Γ K I F m ad h1 h2
  refine s_Law_law_361 ?_
  refine s_Law_law_362 ?_
  refine s_Law_law_363 ?_
  refine s_Law_law_364 ?_
  refine s_Law_law_365 ?_
  refine s_Law_law_366 (by rw [show nI k + 1 = nI (k + 1) from nI_add k 1]; exact vp_in_nI (by omega) (by omega)) ?_
  refine sf_Law_law_367 (b1 := 4) (b2 := b) (K1 := Kc) h1 (by rfl) (by exact (hR.1.1).1) (hC Γ Kc I F a g hR) ?_ (by omega)
  rintro _ K2 I2 F2 ⟨rfl, g2, R2⟩ hf2
  dsimp only [Option.toList, List.cons_append, List.nil_append]
  have L2 := LI_c hM hr h2 h3 R2 hf2
  generalize mgK K Kc K2 = K3 at L2 ⊢
  generalize mgI K2 I I2 = I3 at L2 ⊢
  generalize mgF K2 F F2 = F3 at L2 ⊢
  clear hR hM hr h1 h2 h3 hf2 R2
  obtain ⟨Kd, Kn, a', g', ad', ha, hR, hM, hr, h1, h2, h3⟩ := L2
  refine s_Law_law_370 ?_
  refine s_Law_law_371 ?_
  refine s_Law_law_372 ?_
  refine s_Law_law_373 ?_
  refine s_Law_law_374 ?_
  refine s_Law_law_375 (by rw [show nI k + 1 = nI (k + 1) from nI_add k 1]; exact vp_in_nI (by omega) (by omega)) ?_
  refine sf_Law_law_376 (b1 := 0) (b2 := b) (K1 := Kn) h2 (by rfl) (by exact (hM.1)) (hD Γ Kn I3 F3 m ad' hM hr) ?_ (by omega)
  rintro _ _ I4 _ ⟨rfl, rfl, rfl, r4⟩ hf4
  dsimp only [Option.toList, List.cons_append, List.nil_append]
  have L4 := LI_m hR h1 h3 hM r4 hf4
  rw [ha] at L4
  refine s_Law_law_379 (fun h379 => ?_) (fun h379 => absurd h379 (by exact fun z => z rfl))
  exact kk _ _ _ s' L4 hJ'
theorem lo_copy {Γ : ex_G} {k b N x m : Nat} {K : ex_K} {I : ex_I} {F : ex_F} {s : MS} {Q : Option ex_V → ex_K → ex_I → ex_F → Prop} (hL : LI K I F x m s s) (hJ : J N 3 3 s) (hN : N < 1000) (hk : k + 4 ≤ Γ.2.2.2.2.2.2.1) (hl : Γ.2.2.2.2.2.2.1 ≤ 2049) (kk : ∀ K' I' F' s', LI K' I' F' x m s' s' → J (N + 1) 3 3 s' → ex_E Γ 9 M_Law_law 663 [some (.inr (some Γ.2.2.2.2.2.1)), some (.inr (some x)), some (.inr (some m)), some (.inl (nI k))] [] K' I' F' b Q) :
    ex_E Γ 9 M_Law_law 384 [some (.inr (some Γ.2.2.2.2.2.1)), some (.inr (some x)), some (.inr (some m)), some (.inl (nI k))] [] K I F (b + 4) Q := by
  obtain ⟨Kc, Km, a, g, ad, rfl, hR, hM, hr, h1, h2, h3⟩ := hL
  obtain ⟨hz, h16⟩ := Rc_Z hR
  obtain ⟨v, s', hC, hD, hJ'⟩ := t2_copy hJ h16 (Γ.2.2.2.2.2.2.2 (nI k + 1).toNatClampNeg)
  replace hD := fun Γ K I F m ad h1 h2 => hD Γ K I F m ad h1 h2
  refine s_Law_law_384 ?_
  refine s_Law_law_385 ?_
  refine s_Law_law_386 ?_
  refine s_Law_law_387 ?_
  refine s_Law_law_388 ?_
  refine s_Law_law_389 (by rw [show nI k + 1 = nI (k + 1) from nI_add k 1]; exact vp_in_nI (by omega) (by omega)) ?_
  refine sf_Law_law_390 (b1 := 4) (b2 := b) (K1 := Kc) h1 (by rfl) (by exact (hR.1.1).1) (hC Γ Kc I F a g hR) ?_ (by omega)
  rintro _ K2 I2 F2 ⟨rfl, g2, R2⟩ hf2
  dsimp only [Option.toList, List.cons_append, List.nil_append]
  have L2 := LI_c hM hr h2 h3 R2 hf2
  generalize mgK K Kc K2 = K3 at L2 ⊢
  generalize mgI K2 I I2 = I3 at L2 ⊢
  generalize mgF K2 F F2 = F3 at L2 ⊢
  clear hR hM hr h1 h2 h3 hf2 R2
  obtain ⟨Kd, Kn, a', g', ad', ha, hR, hM, hr, h1, h2, h3⟩ := L2
  refine s_Law_law_393 ?_
  refine s_Law_law_394 ?_
  refine s_Law_law_395 ?_
  refine s_Law_law_396 ?_
  refine s_Law_law_397 ?_
  refine s_Law_law_398 (by rw [show nI k + 1 = nI (k + 1) from nI_add k 1]; exact vp_in_nI (by omega) (by omega)) ?_
  refine sf_Law_law_399 (b1 := 0) (b2 := b) (K1 := Kn) h2 (by rfl) (by exact (hM.1)) (hD Γ Kn I3 F3 m ad' hM hr) ?_ (by omega)
  rintro _ _ I4 _ ⟨rfl, rfl, rfl, r4⟩ hf4
  dsimp only [Option.toList, List.cons_append, List.nil_append]
  have L4 := LI_m hR h1 h3 hM r4 hf4
  rw [ha] at L4
  refine s_Law_law_402 (fun h402 => ?_) (fun h402 => absurd h402 (by exact fun z => z rfl))
  exact kk _ _ _ s' L4 hJ'
theorem lo_tick {Γ : ex_G} {k b N x m : Nat} {K : ex_K} {I : ex_I} {F : ex_F} {s : MS} {Q : Option ex_V → ex_K → ex_I → ex_F → Prop} (hL : LI K I F x m s s) (hJ : J N 3 3 s) (hN : N < 1000) (hk : k + 4 ≤ Γ.2.2.2.2.2.2.1) (hl : Γ.2.2.2.2.2.2.1 ≤ 2049) (kk : ∀ K' I' F' s', LI K' I' F' x m s' s' → J (N + 1) 3 3 s' → ex_E Γ 9 M_Law_law 663 [some (.inr (some Γ.2.2.2.2.2.1)), some (.inr (some x)), some (.inr (some m)), some (.inl (nI k))] [] K' I' F' b Q) :
    ex_E Γ 9 M_Law_law 407 [some (.inr (some Γ.2.2.2.2.2.1)), some (.inr (some x)), some (.inr (some m)), some (.inl (nI k))] [] K I F (b + 4) Q := by
  obtain ⟨Kc, Km, a, g, ad, rfl, hR, hM, hr, h1, h2, h3⟩ := hL
  obtain ⟨hz, h16⟩ := Rc_Z hR
  obtain ⟨v, s', hC, hD, hJ'⟩ := t2_tick hJ hN
  replace hD := fun Γ K I F m ad h1 h2 => hD Γ K I F m ad h1 h2
  refine s_Law_law_407 ?_
  refine sf_Law_law_408 (b1 := 4) (b2 := b) (K1 := Kc) h1 (by rfl) (by exact (hR.1.1).1) (hC Γ Kc I F a g hR) ?_ (by omega)
  rintro _ K2 I2 F2 ⟨rfl, g2, R2⟩ hf2
  dsimp only [Option.toList, List.cons_append, List.nil_append]
  have L2 := LI_c hM hr h2 h3 R2 hf2
  generalize mgK K Kc K2 = K3 at L2 ⊢
  generalize mgI K2 I I2 = I3 at L2 ⊢
  generalize mgF K2 F F2 = F3 at L2 ⊢
  clear hR hM hr h1 h2 h3 hf2 R2
  obtain ⟨Kd, Kn, a', g', ad', ha, hR, hM, hr, h1, h2, h3⟩ := L2
  refine s_Law_law_411 ?_
  refine sf_Law_law_412 (b1 := 0) (b2 := b) (K1 := Kn) h2 (by rfl) (by exact (hM.1)) (hD Γ Kn I3 F3 m ad' hM hr) ?_ (by omega)
  rintro _ _ I4 _ ⟨rfl, rfl, rfl, r4⟩ hf4
  dsimp only [Option.toList, List.cons_append, List.nil_append]
  have L4 := LI_m hR h1 h3 hM r4 hf4
  rw [ha] at L4
  refine s_Law_law_415 (fun h415 => ?_) (fun h415 => absurd h415 (by exact fun z => z rfl))
  exact kk _ _ _ s' L4 hJ'
theorem lo_answer {Γ : ex_G} {k b N x m : Nat} {K : ex_K} {I : ex_I} {F : ex_F} {s : MS} {Q : Option ex_V → ex_K → ex_I → ex_F → Prop} (hL : LI K I F x m s s) (hJ : J N 3 3 s) (hN : N < 1000) (hk : k + 4 ≤ Γ.2.2.2.2.2.2.1) (hl : Γ.2.2.2.2.2.2.1 ≤ 2049) (kk : ∀ K' I' F' s', LI K' I' F' x m s' s' → J (N + 1) 3 3 s' → ex_E Γ 9 M_Law_law 663 [some (.inr (some Γ.2.2.2.2.2.1)), some (.inr (some x)), some (.inr (some m)), some (.inl (nI k))] [] K' I' F' b Q) :
    ex_E Γ 9 M_Law_law 469 [some (.inr (some Γ.2.2.2.2.2.1)), some (.inr (some x)), some (.inr (some m)), some (.inl (nI k))] [] K I F (b + 4) Q := by
  obtain ⟨Kc, Km, a, g, ad, rfl, hR, hM, hr, h1, h2, h3⟩ := hL
  obtain ⟨hz, h16⟩ := Rc_Z hR
  obtain ⟨v, s', hC, hD, hJ'⟩ := t2_answer hJ (Γ.2.2.2.2.2.2.2 (nI k + 1).toNatClampNeg) (Γ.2.2.2.2.2.2.2 (nI k + 2).toNatClampNeg)
  replace hD := fun Γ K I F m ad h1 h2 => hD Γ K I F m ad h1 h2
  refine s_Law_law_469 ?_
  refine s_Law_law_470 ?_
  refine s_Law_law_471 ?_
  refine s_Law_law_472 ?_
  refine s_Law_law_473 ?_
  refine s_Law_law_474 (by rw [show nI k + 1 = nI (k + 1) from nI_add k 1]; exact vp_in_nI (by omega) (by omega)) ?_
  refine s_Law_law_475 ?_
  refine s_Law_law_476 ?_
  refine s_Law_law_477 ?_
  refine s_Law_law_478 ?_
  refine s_Law_law_479 (by rw [show nI k + 2 = nI (k + 2) from nI_add k 2]; exact vp_in_nI (by omega) (by omega)) ?_
  refine sf_Law_law_480 (b1 := 4) (b2 := b) (K1 := Kc) h1 (by rfl) (by exact (hR.1.1).1) (hC Γ Kc I F a g hR) ?_ (by omega)
  rintro _ K2 I2 F2 ⟨rfl, g2, R2⟩ hf2
  dsimp only [Option.toList, List.cons_append, List.nil_append]
  have L2 := LI_c hM hr h2 h3 R2 hf2
  generalize mgK K Kc K2 = K3 at L2 ⊢
  generalize mgI K2 I I2 = I3 at L2 ⊢
  generalize mgF K2 F F2 = F3 at L2 ⊢
  clear hR hM hr h1 h2 h3 hf2 R2
  obtain ⟨Kd, Kn, a', g', ad', ha, hR, hM, hr, h1, h2, h3⟩ := L2
  refine s_Law_law_483 ?_
  refine s_Law_law_484 ?_
  refine s_Law_law_485 ?_
  refine s_Law_law_486 ?_
  refine s_Law_law_487 ?_
  refine s_Law_law_488 (by rw [show nI k + 1 = nI (k + 1) from nI_add k 1]; exact vp_in_nI (by omega) (by omega)) ?_
  refine s_Law_law_489 ?_
  refine s_Law_law_490 ?_
  refine s_Law_law_491 ?_
  refine s_Law_law_492 ?_
  refine s_Law_law_493 (by rw [show nI k + 2 = nI (k + 2) from nI_add k 2]; exact vp_in_nI (by omega) (by omega)) ?_
  refine sf_Law_law_494 (b1 := 0) (b2 := b) (K1 := Kn) h2 (by rfl) (by exact (hM.1)) (hD Γ Kn I3 F3 m ad' hM hr) ?_ (by omega)
  rintro _ _ I4 _ ⟨rfl, rfl, rfl, r4⟩ hf4
  dsimp only [Option.toList, List.cons_append, List.nil_append]
  have L4 := LI_m hR h1 h3 hM r4 hf4
  rw [ha] at L4
  refine s_Law_law_497 (fun h497 => ?_) (fun h497 => absurd h497 (by exact fun z => z rfl))
  exact kk _ _ _ s' L4 hJ'
theorem lo_flights {Γ : ex_G} {k b N x m : Nat} {K : ex_K} {I : ex_I} {F : ex_F} {s : MS} {Q : Option ex_V → ex_K → ex_I → ex_F → Prop} (hL : LI K I F x m s s) (hJ : J N 3 3 s) (hN : N < 1000) (hk : k + 4 ≤ Γ.2.2.2.2.2.2.1) (hl : Γ.2.2.2.2.2.2.1 ≤ 2049) (kk : ∀ K' I' F' s', LI K' I' F' x m s' s' → J (N + 1) 3 3 s' → ex_E Γ 9 M_Law_law 663 [some (.inr (some Γ.2.2.2.2.2.1)), some (.inr (some x)), some (.inr (some m)), some (.inl (nI k))] [] K' I' F' b Q) :
    ex_E Γ 9 M_Law_law 502 [some (.inr (some Γ.2.2.2.2.2.1)), some (.inr (some x)), some (.inr (some m)), some (.inl (nI k))] [] K I F (b + 4) Q := by
  obtain ⟨Kc, Km, a, g, ad, rfl, hR, hM, hr, h1, h2, h3⟩ := hL
  obtain ⟨hz, h16⟩ := Rc_Z hR
  obtain ⟨v, s', hC, hD, hJ'⟩ := t2_flights hJ
  replace hD := fun Γ K I F m ad h1 h2 => hD Γ K I F m ad h1 h2
  refine s_Law_law_502 ?_
  refine sf_Law_law_503 (b1 := 4) (b2 := b) (K1 := Kc) h1 (by rfl) (by exact (hR.1.1).1) (hC Γ Kc I F a g hR) ?_ (by omega)
  rintro _ K2 I2 F2 ⟨rfl, g2, R2⟩ hf2
  dsimp only [Option.toList, List.cons_append, List.nil_append]
  have L2 := LI_c hM hr h2 h3 R2 hf2
  generalize mgK K Kc K2 = K3 at L2 ⊢
  generalize mgI K2 I I2 = I3 at L2 ⊢
  generalize mgF K2 F F2 = F3 at L2 ⊢
  clear hR hM hr h1 h2 h3 hf2 R2
  obtain ⟨Kd, Kn, a', g', ad', ha, hR, hM, hr, h1, h2, h3⟩ := L2
  refine s_Law_law_506 ?_
  refine sf_Law_law_507 (b1 := 0) (b2 := b) (K1 := Kn) h2 (by rfl) (by exact (hM.1)) (hD Γ Kn I3 F3 m ad' hM hr) ?_ (by omega)
  rintro _ _ I4 _ ⟨rfl, rfl, rfl, r4⟩ hf4
  dsimp only [Option.toList, List.cons_append, List.nil_append]
  have L4 := LI_m hR h1 h3 hM r4 hf4
  rw [ha] at L4
  refine s_Law_law_510 (fun h510 => ?_) (fun h510 => absurd h510 (by exact fun z => z rfl))
  exact kk _ _ _ s' L4 hJ'
theorem lo_flight {Γ : ex_G} {k b N x m : Nat} {K : ex_K} {I : ex_I} {F : ex_F} {s : MS} {Q : Option ex_V → ex_K → ex_I → ex_F → Prop} (hL : LI K I F x m s s) (hJ : J N 3 3 s) (hN : N < 1000) (hk : k + 4 ≤ Γ.2.2.2.2.2.2.1) (hl : Γ.2.2.2.2.2.2.1 ≤ 2049) (kk : ∀ K' I' F' s', LI K' I' F' x m s' s' → J (N + 1) 3 3 s' → ex_E Γ 9 M_Law_law 663 [some (.inr (some Γ.2.2.2.2.2.1)), some (.inr (some x)), some (.inr (some m)), some (.inl (nI k))] [] K' I' F' b Q) :
    ex_E Γ 9 M_Law_law 515 [some (.inr (some Γ.2.2.2.2.2.1)), some (.inr (some x)), some (.inr (some m)), some (.inl (nI k))] [] K I F (b + 4) Q := by
  obtain ⟨Kc, Km, a, g, ad, rfl, hR, hM, hr, h1, h2, h3⟩ := hL
  obtain ⟨hz, h16⟩ := Rc_Z hR
  obtain ⟨v, s', hC, hD, hJ'⟩ := t2_flight hJ h16 (Γ.2.2.2.2.2.2.2 (nI k + 1).toNatClampNeg) (Γ.2.2.2.2.2.2.2 (nI k + 2).toNatClampNeg)
  replace hD := fun Γ K I F m ad h1 h2 => hD Γ K I F m ad h1 h2
  refine s_Law_law_515 ?_
  refine s_Law_law_516 ?_
  refine s_Law_law_517 ?_
  refine s_Law_law_518 ?_
  refine s_Law_law_519 ?_
  refine s_Law_law_520 (by rw [show nI k + 1 = nI (k + 1) from nI_add k 1]; exact vp_in_nI (by omega) (by omega)) ?_
  refine s_Law_law_521 ?_
  refine s_Law_law_522 ?_
  refine s_Law_law_523 ?_
  refine s_Law_law_524 ?_
  refine s_Law_law_525 (by rw [show nI k + 2 = nI (k + 2) from nI_add k 2]; exact vp_in_nI (by omega) (by omega)) ?_
  refine sf_Law_law_526 (b1 := 4) (b2 := b) (K1 := Kc) h1 (by rfl) (by exact (hR.1.1).1) (hC Γ Kc I F a g hR) ?_ (by omega)
  rintro _ K2 I2 F2 ⟨rfl, g2, R2⟩ hf2
  dsimp only [Option.toList, List.cons_append, List.nil_append]
  have L2 := LI_c hM hr h2 h3 R2 hf2
  generalize mgK K Kc K2 = K3 at L2 ⊢
  generalize mgI K2 I I2 = I3 at L2 ⊢
  generalize mgF K2 F F2 = F3 at L2 ⊢
  clear hR hM hr h1 h2 h3 hf2 R2
  obtain ⟨Kd, Kn, a', g', ad', ha, hR, hM, hr, h1, h2, h3⟩ := L2
  refine s_Law_law_529 ?_
  refine s_Law_law_530 ?_
  refine s_Law_law_531 ?_
  refine s_Law_law_532 ?_
  refine s_Law_law_533 ?_
  refine s_Law_law_534 (by rw [show nI k + 1 = nI (k + 1) from nI_add k 1]; exact vp_in_nI (by omega) (by omega)) ?_
  refine s_Law_law_535 ?_
  refine s_Law_law_536 ?_
  refine s_Law_law_537 ?_
  refine s_Law_law_538 ?_
  refine s_Law_law_539 (by rw [show nI k + 2 = nI (k + 2) from nI_add k 2]; exact vp_in_nI (by omega) (by omega)) ?_
  refine sf_Law_law_540 (b1 := 0) (b2 := b) (K1 := Kn) h2 (by rfl) (by exact (hM.1)) (hD Γ Kn I3 F3 m ad' hM hr) ?_ (by omega)
  rintro _ _ I4 _ ⟨rfl, rfl, rfl, r4⟩ hf4
  dsimp only [Option.toList, List.cons_append, List.nil_append]
  have L4 := LI_m hR h1 h3 hM r4 hf4
  rw [ha] at L4
  refine s_Law_law_543 (fun h543 => ?_) (fun h543 => absurd h543 (by exact fun z => z rfl))
  exact kk _ _ _ s' L4 hJ'
theorem lo_entries {Γ : ex_G} {k b N x m : Nat} {K : ex_K} {I : ex_I} {F : ex_F} {s : MS} {Q : Option ex_V → ex_K → ex_I → ex_F → Prop} (hL : LI K I F x m s s) (hJ : J N 3 3 s) (hN : N < 1000) (hk : k + 4 ≤ Γ.2.2.2.2.2.2.1) (hl : Γ.2.2.2.2.2.2.1 ≤ 2049) (kk : ∀ K' I' F' s', LI K' I' F' x m s' s' → J (N + 1) 3 3 s' → ex_E Γ 9 M_Law_law 663 [some (.inr (some Γ.2.2.2.2.2.1)), some (.inr (some x)), some (.inr (some m)), some (.inl (nI k))] [] K' I' F' b Q) :
    ex_E Γ 9 M_Law_law 548 [some (.inr (some Γ.2.2.2.2.2.1)), some (.inr (some x)), some (.inr (some m)), some (.inl (nI k))] [] K I F (b + 4) Q := by
  obtain ⟨Kc, Km, a, g, ad, rfl, hR, hM, hr, h1, h2, h3⟩ := hL
  obtain ⟨hz, h16⟩ := Rc_Z hR
  obtain ⟨v, s', hC, hD, hJ'⟩ := t2_entries hJ
  replace hD := fun Γ K I F m ad h1 h2 => hD Γ K I F m ad h1 h2
  refine s_Law_law_548 ?_
  refine sf_Law_law_549 (b1 := 4) (b2 := b) (K1 := Kc) h1 (by rfl) (by exact (hR.1.1).1) (hC Γ Kc I F a g hR) ?_ (by omega)
  rintro _ K2 I2 F2 ⟨rfl, g2, R2⟩ hf2
  dsimp only [Option.toList, List.cons_append, List.nil_append]
  have L2 := LI_c hM hr h2 h3 R2 hf2
  generalize mgK K Kc K2 = K3 at L2 ⊢
  generalize mgI K2 I I2 = I3 at L2 ⊢
  generalize mgF K2 F F2 = F3 at L2 ⊢
  clear hR hM hr h1 h2 h3 hf2 R2
  obtain ⟨Kd, Kn, a', g', ad', ha, hR, hM, hr, h1, h2, h3⟩ := L2
  refine s_Law_law_552 ?_
  refine sf_Law_law_553 (b1 := 0) (b2 := b) (K1 := Kn) h2 (by rfl) (by exact (hM.1)) (hD Γ Kn I3 F3 m ad' hM hr) ?_ (by omega)
  rintro _ _ I4 _ ⟨rfl, rfl, rfl, r4⟩ hf4
  dsimp only [Option.toList, List.cons_append, List.nil_append]
  have L4 := LI_m hR h1 h3 hM r4 hf4
  rw [ha] at L4
  refine s_Law_law_556 (fun h556 => ?_) (fun h556 => absurd h556 (by exact fun z => z rfl))
  exact kk _ _ _ s' L4 hJ'
theorem lo_entry {Γ : ex_G} {k b N x m : Nat} {K : ex_K} {I : ex_I} {F : ex_F} {s : MS} {Q : Option ex_V → ex_K → ex_I → ex_F → Prop} (hL : LI K I F x m s s) (hJ : J N 3 3 s) (hN : N < 1000) (hk : k + 4 ≤ Γ.2.2.2.2.2.2.1) (hl : Γ.2.2.2.2.2.2.1 ≤ 2049) (kk : ∀ K' I' F' s', LI K' I' F' x m s' s' → J (N + 1) 3 3 s' → ex_E Γ 9 M_Law_law 663 [some (.inr (some Γ.2.2.2.2.2.1)), some (.inr (some x)), some (.inr (some m)), some (.inl (nI k))] [] K' I' F' b Q) :
    ex_E Γ 9 M_Law_law 561 [some (.inr (some Γ.2.2.2.2.2.1)), some (.inr (some x)), some (.inr (some m)), some (.inl (nI k))] [] K I F (b + 4) Q := by
  obtain ⟨Kc, Km, a, g, ad, rfl, hR, hM, hr, h1, h2, h3⟩ := hL
  obtain ⟨hz, h16⟩ := Rc_Z hR
  obtain ⟨v, s', hC, hD, hJ'⟩ := t2_entry hJ hz (Γ.2.2.2.2.2.2.2 (nI k + 1).toNatClampNeg) (Γ.2.2.2.2.2.2.2 (nI k + 2).toNatClampNeg)
  replace hD := fun Γ K I F m ad h1 h2 => hD Γ K I F m ad h1 h2
  refine s_Law_law_561 ?_
  refine s_Law_law_562 ?_
  refine s_Law_law_563 ?_
  refine s_Law_law_564 ?_
  refine s_Law_law_565 ?_
  refine s_Law_law_566 (by rw [show nI k + 1 = nI (k + 1) from nI_add k 1]; exact vp_in_nI (by omega) (by omega)) ?_
  refine s_Law_law_567 ?_
  refine s_Law_law_568 ?_
  refine s_Law_law_569 ?_
  refine s_Law_law_570 ?_
  refine s_Law_law_571 (by rw [show nI k + 2 = nI (k + 2) from nI_add k 2]; exact vp_in_nI (by omega) (by omega)) ?_
  refine sf_Law_law_572 (b1 := 4) (b2 := b) (K1 := Kc) h1 (by rfl) (by exact (hR.1.1).1) (hC Γ Kc I F a g hR) ?_ (by omega)
  rintro _ K2 I2 F2 ⟨rfl, g2, R2⟩ hf2
  dsimp only [Option.toList, List.cons_append, List.nil_append]
  have L2 := LI_c hM hr h2 h3 R2 hf2
  generalize mgK K Kc K2 = K3 at L2 ⊢
  generalize mgI K2 I I2 = I3 at L2 ⊢
  generalize mgF K2 F F2 = F3 at L2 ⊢
  clear hR hM hr h1 h2 h3 hf2 R2
  obtain ⟨Kd, Kn, a', g', ad', ha, hR, hM, hr, h1, h2, h3⟩ := L2
  refine s_Law_law_575 ?_
  refine s_Law_law_576 ?_
  refine s_Law_law_577 ?_
  refine s_Law_law_578 ?_
  refine s_Law_law_579 ?_
  refine s_Law_law_580 (by rw [show nI k + 1 = nI (k + 1) from nI_add k 1]; exact vp_in_nI (by omega) (by omega)) ?_
  refine s_Law_law_581 ?_
  refine s_Law_law_582 ?_
  refine s_Law_law_583 ?_
  refine s_Law_law_584 ?_
  refine s_Law_law_585 (by rw [show nI k + 2 = nI (k + 2) from nI_add k 2]; exact vp_in_nI (by omega) (by omega)) ?_
  refine sf_Law_law_586 (b1 := 0) (b2 := b) (K1 := Kn) h2 (by rfl) (by exact (hM.1)) (hD Γ Kn I3 F3 m ad' hM hr) ?_ (by omega)
  rintro _ _ I4 _ ⟨rfl, rfl, rfl, r4⟩ hf4
  dsimp only [Option.toList, List.cons_append, List.nil_append]
  have L4 := LI_m hR h1 h3 hM r4 hf4
  rw [ha] at L4
  refine s_Law_law_589 (fun h589 => ?_) (fun h589 => absurd h589 (by exact fun z => z rfl))
  exact kk _ _ _ s' L4 hJ'
theorem lo_owner {Γ : ex_G} {k b N x m : Nat} {K : ex_K} {I : ex_I} {F : ex_F} {s : MS} {Q : Option ex_V → ex_K → ex_I → ex_F → Prop} (hL : LI K I F x m s s) (hJ : J N 3 3 s) (hN : N < 1000) (hk : k + 4 ≤ Γ.2.2.2.2.2.2.1) (hl : Γ.2.2.2.2.2.2.1 ≤ 2049) (kk : ∀ K' I' F' s', LI K' I' F' x m s' s' → J (N + 1) 3 3 s' → ex_E Γ 9 M_Law_law 663 [some (.inr (some Γ.2.2.2.2.2.1)), some (.inr (some x)), some (.inr (some m)), some (.inl (nI k))] [] K' I' F' b Q) :
    ex_E Γ 9 M_Law_law 594 [some (.inr (some Γ.2.2.2.2.2.1)), some (.inr (some x)), some (.inr (some m)), some (.inl (nI k))] [] K I F (b + 4) Q := by
  obtain ⟨Kc, Km, a, g, ad, rfl, hR, hM, hr, h1, h2, h3⟩ := hL
  obtain ⟨hz, h16⟩ := Rc_Z hR
  obtain ⟨v, s', hC, hD, hJ'⟩ := t2_owner hJ (Γ.2.2.2.2.2.2.2 (nI k + 1).toNatClampNeg)
  replace hD := fun Γ K I F m ad h1 h2 => hD Γ K I F m ad h1 h2
  refine s_Law_law_594 ?_
  refine s_Law_law_595 ?_
  refine s_Law_law_596 ?_
  refine s_Law_law_597 ?_
  refine s_Law_law_598 ?_
  refine s_Law_law_599 (by rw [show nI k + 1 = nI (k + 1) from nI_add k 1]; exact vp_in_nI (by omega) (by omega)) ?_
  refine sf_Law_law_600 (b1 := 4) (b2 := b) (K1 := Kc) h1 (by rfl) (by exact (hR.1.1).1) (hC Γ Kc I F a g hR) ?_ (by omega)
  rintro _ K2 I2 F2 ⟨rfl, g2, R2⟩ hf2
  dsimp only [Option.toList, List.cons_append, List.nil_append]
  have L2 := LI_c hM hr h2 h3 R2 hf2
  generalize mgK K Kc K2 = K3 at L2 ⊢
  generalize mgI K2 I I2 = I3 at L2 ⊢
  generalize mgF K2 F F2 = F3 at L2 ⊢
  clear hR hM hr h1 h2 h3 hf2 R2
  obtain ⟨Kd, Kn, a', g', ad', ha, hR, hM, hr, h1, h2, h3⟩ := L2
  refine s_Law_law_603 ?_
  refine s_Law_law_604 ?_
  refine s_Law_law_605 ?_
  refine s_Law_law_606 ?_
  refine s_Law_law_607 ?_
  refine s_Law_law_608 (by rw [show nI k + 1 = nI (k + 1) from nI_add k 1]; exact vp_in_nI (by omega) (by omega)) ?_
  refine sf_Law_law_609 (b1 := 0) (b2 := b) (K1 := Kn) h2 (by rfl) (by exact (hM.1)) (hD Γ Kn I3 F3 m ad' hM hr) ?_ (by omega)
  rintro _ _ I4 _ ⟨rfl, rfl, rfl, r4⟩ hf4
  dsimp only [Option.toList, List.cons_append, List.nil_append]
  have L4 := LI_m hR h1 h3 hM r4 hf4
  rw [ha] at L4
  refine s_Law_law_612 (fun h612 => ?_) (fun h612 => absurd h612 (by exact fun z => z rfl))
  exact kk _ _ _ s' L4 hJ'
theorem lo_waiting {Γ : ex_G} {k b N x m : Nat} {K : ex_K} {I : ex_I} {F : ex_F} {s : MS} {Q : Option ex_V → ex_K → ex_I → ex_F → Prop} (hL : LI K I F x m s s) (hJ : J N 3 3 s) (hN : N < 1000) (hk : k + 4 ≤ Γ.2.2.2.2.2.2.1) (hl : Γ.2.2.2.2.2.2.1 ≤ 2049) (kk : ∀ K' I' F' s', LI K' I' F' x m s' s' → J (N + 1) 3 3 s' → ex_E Γ 9 M_Law_law 663 [some (.inr (some Γ.2.2.2.2.2.1)), some (.inr (some x)), some (.inr (some m)), some (.inl (nI k))] [] K' I' F' b Q) :
    ex_E Γ 9 M_Law_law 617 [some (.inr (some Γ.2.2.2.2.2.1)), some (.inr (some x)), some (.inr (some m)), some (.inl (nI k))] [] K I F (b + 4) Q := by
  obtain ⟨Kc, Km, a, g, ad, rfl, hR, hM, hr, h1, h2, h3⟩ := hL
  obtain ⟨hz, h16⟩ := Rc_Z hR
  obtain ⟨v, s', hC, hD, hJ'⟩ := t2_waiting hJ (Γ.2.2.2.2.2.2.2 (nI k + 1).toNatClampNeg)
  replace hD := fun Γ K I F m ad h1 h2 => hD Γ K I F m ad h1 h2
  refine s_Law_law_617 ?_
  refine s_Law_law_618 ?_
  refine s_Law_law_619 ?_
  refine s_Law_law_620 ?_
  refine s_Law_law_621 ?_
  refine s_Law_law_622 (by rw [show nI k + 1 = nI (k + 1) from nI_add k 1]; exact vp_in_nI (by omega) (by omega)) ?_
  refine sf_Law_law_623 (b1 := 4) (b2 := b) (K1 := Kc) h1 (by rfl) (by exact (hR.1.1).1) (hC Γ Kc I F a g hR) ?_ (by omega)
  rintro _ K2 I2 F2 ⟨rfl, g2, R2⟩ hf2
  dsimp only [Option.toList, List.cons_append, List.nil_append]
  have L2 := LI_c hM hr h2 h3 R2 hf2
  generalize mgK K Kc K2 = K3 at L2 ⊢
  generalize mgI K2 I I2 = I3 at L2 ⊢
  generalize mgF K2 F F2 = F3 at L2 ⊢
  clear hR hM hr h1 h2 h3 hf2 R2
  obtain ⟨Kd, Kn, a', g', ad', ha, hR, hM, hr, h1, h2, h3⟩ := L2
  refine s_Law_law_626 ?_
  refine s_Law_law_627 ?_
  refine s_Law_law_628 ?_
  refine s_Law_law_629 ?_
  refine s_Law_law_630 ?_
  refine s_Law_law_631 (by rw [show nI k + 1 = nI (k + 1) from nI_add k 1]; exact vp_in_nI (by omega) (by omega)) ?_
  refine sf_Law_law_632 (b1 := 0) (b2 := b) (K1 := Kn) h2 (by rfl) (by exact (hM.1)) (hD Γ Kn I3 F3 m ad' hM hr) ?_ (by omega)
  rintro _ _ I4 _ ⟨rfl, rfl, rfl, r4⟩ hf4
  dsimp only [Option.toList, List.cons_append, List.nil_append]
  have L4 := LI_m hR h1 h3 hM r4 hf4
  rw [ha] at L4
  refine s_Law_law_635 (fun h635 => ?_) (fun h635 => absurd h635 (by exact fun z => z rfl))
  exact kk _ _ _ s' L4 hJ'
theorem lo_version {Γ : ex_G} {k b N x m : Nat} {K : ex_K} {I : ex_I} {F : ex_F} {s : MS} {Q : Option ex_V → ex_K → ex_I → ex_F → Prop} (hL : LI K I F x m s s) (hJ : J N 3 3 s) (hN : N < 1000) (hk : k + 4 ≤ Γ.2.2.2.2.2.2.1) (hl : Γ.2.2.2.2.2.2.1 ≤ 2049) (kk : ∀ K' I' F' s', LI K' I' F' x m s' s' → J (N + 1) 3 3 s' → ex_E Γ 9 M_Law_law 663 [some (.inr (some Γ.2.2.2.2.2.1)), some (.inr (some x)), some (.inr (some m)), some (.inl (nI k))] [] K' I' F' b Q) :
    ex_E Γ 9 M_Law_law 640 [some (.inr (some Γ.2.2.2.2.2.1)), some (.inr (some x)), some (.inr (some m)), some (.inl (nI k))] [] K I F (b + 4) Q := by
  obtain ⟨Kc, Km, a, g, ad, rfl, hR, hM, hr, h1, h2, h3⟩ := hL
  obtain ⟨hz, h16⟩ := Rc_Z hR
  obtain ⟨v, s', hC, hD, hJ'⟩ := t2_version hJ (Γ.2.2.2.2.2.2.2 (nI k + 1).toNatClampNeg)
  replace hD := fun Γ K I F m ad h1 h2 => hD Γ K I F m ad h1 h2
  refine s_Law_law_640 ?_
  refine s_Law_law_641 ?_
  refine s_Law_law_642 ?_
  refine s_Law_law_643 ?_
  refine s_Law_law_644 ?_
  refine s_Law_law_645 (by rw [show nI k + 1 = nI (k + 1) from nI_add k 1]; exact vp_in_nI (by omega) (by omega)) ?_
  refine sf_Law_law_646 (b1 := 4) (b2 := b) (K1 := Kc) h1 (by rfl) (by exact (hR.1.1).1) (hC Γ Kc I F a g hR) ?_ (by omega)
  rintro _ K2 I2 F2 ⟨rfl, g2, R2⟩ hf2
  dsimp only [Option.toList, List.cons_append, List.nil_append]
  have L2 := LI_c hM hr h2 h3 R2 hf2
  generalize mgK K Kc K2 = K3 at L2 ⊢
  generalize mgI K2 I I2 = I3 at L2 ⊢
  generalize mgF K2 F F2 = F3 at L2 ⊢
  clear hR hM hr h1 h2 h3 hf2 R2
  obtain ⟨Kd, Kn, a', g', ad', ha, hR, hM, hr, h1, h2, h3⟩ := L2
  refine s_Law_law_649 ?_
  refine s_Law_law_650 ?_
  refine s_Law_law_651 ?_
  refine s_Law_law_652 ?_
  refine s_Law_law_653 ?_
  refine s_Law_law_654 (by rw [show nI k + 1 = nI (k + 1) from nI_add k 1]; exact vp_in_nI (by omega) (by omega)) ?_
  refine sf_Law_law_655 (b1 := 0) (b2 := b) (K1 := Kn) h2 (by rfl) (by exact (hM.1)) (hD Γ Kn I3 F3 m ad' hM hr) ?_ (by omega)
  rintro _ _ I4 _ ⟨rfl, rfl, rfl, r4⟩ hf4
  dsimp only [Option.toList, List.cons_append, List.nil_append]
  have L4 := LI_m hR h1 h3 hM r4 hf4
  rw [ha] at L4
  refine s_Law_law_658 (fun h658 => ?_) (fun h658 => absurd h658 (by exact fun z => z rfl))
  exact kk _ _ _ s' L4 hJ'
theorem lo_publish0 {Γ : ex_G} {k b N x m : Nat} {K : ex_K} {I : ex_I} {F : ex_F} {s : MS} {Q : Option ex_V → ex_K → ex_I → ex_F → Prop} (hL : LI K I F x m s s) (hb : (Γ.2.2.2.2.2.2.2 (nI k + 3).toNatClampNeg) = 0) (hJ : J N 3 3 s) (hN : N < 1000) (hk : k + 4 ≤ Γ.2.2.2.2.2.2.1) (hl : Γ.2.2.2.2.2.2.1 ≤ 2049) (kk : ∀ K' I' F' s', LI K' I' F' x m s' s' → J (N + 1) 3 3 s' → ex_E Γ 9 M_Law_law 663 [some (.inr (some Γ.2.2.2.2.2.1)), some (.inr (some x)), some (.inr (some m)), some (.inl (nI k))] [] K' I' F' b Q) :
    ex_E Γ 9 M_Law_law 157 [some (.inr (some Γ.2.2.2.2.2.1)), some (.inr (some x)), some (.inr (some m)), some (.inl (nI k))] [] K I F (b + 4) Q := by
  obtain ⟨Kc, Km, a, g, ad, rfl, hR, hM, hr, h1, h2, h3⟩ := hL
  obtain ⟨hz, h16⟩ := Rc_Z hR
  obtain ⟨v, s', hC, hD, hJ'⟩ := t2_publish hJ hN hz (Γ.2.2.2.2.2.2.2 (nI k + 1).toNatClampNeg) (Γ.2.2.2.2.2.2.2 (nI k + 2).toNatClampNeg) 0 (by decide)
  replace hD := fun Γ K I F m ad h1 h2 => hD Γ K I F m ad h1 h2
  refine s_Law_law_157 ?_
  refine s_Law_law_158 ?_
  refine s_Law_law_159 ?_
  refine s_Law_law_160 ?_
  refine s_Law_law_161 ?_
  refine s_Law_law_162 (by rw [show nI k + 1 = nI (k + 1) from nI_add k 1]; exact vp_in_nI (by omega) (by omega)) ?_
  refine s_Law_law_163 ?_
  refine s_Law_law_164 ?_
  refine s_Law_law_165 ?_
  refine s_Law_law_166 ?_
  refine s_Law_law_167 (by rw [show nI k + 2 = nI (k + 2) from nI_add k 2]; exact vp_in_nI (by omega) (by omega)) ?_
  refine s_Law_law_168 ?_
  refine s_Law_law_169 ?_
  refine s_Law_law_170 ?_
  refine s_Law_law_171 ?_
  refine s_Law_law_172 (by rw [show nI k + 3 = nI (k + 3) from nI_add k 3]; exact vp_in_nI (by omega) (by omega)) ?_
  refine s_Law_law_173 (fun h173 => ?_) (fun h173 => absurd h173 (by exact fun z => z hb))
  refine s_Law_law_180 ?_
  refine sf_Law_law_181 (b1 := 4) (b2 := b) (K1 := Kc) h1 (by rfl) (by exact (hR.1.1).1) (hC Γ Kc I F a g hR) ?_ (by omega)
  rintro _ K2 I2 F2 ⟨rfl, g2, R2⟩ hf2
  dsimp only [Option.toList, List.cons_append, List.nil_append]
  have L2 := LI_c hM hr h2 h3 R2 hf2
  generalize mgK K Kc K2 = K3 at L2 ⊢
  generalize mgI K2 I I2 = I3 at L2 ⊢
  generalize mgF K2 F F2 = F3 at L2 ⊢
  clear hR hM hr h1 h2 h3 hf2 R2
  obtain ⟨Kd, Kn, a', g', ad', ha, hR, hM, hr, h1, h2, h3⟩ := L2
  refine s_Law_law_184 ?_
  refine s_Law_law_185 ?_
  refine s_Law_law_186 ?_
  refine s_Law_law_187 ?_
  refine s_Law_law_188 ?_
  refine s_Law_law_189 (by rw [show nI k + 1 = nI (k + 1) from nI_add k 1]; exact vp_in_nI (by omega) (by omega)) ?_
  refine s_Law_law_190 ?_
  refine s_Law_law_191 ?_
  refine s_Law_law_192 ?_
  refine s_Law_law_193 ?_
  refine s_Law_law_194 (by rw [show nI k + 2 = nI (k + 2) from nI_add k 2]; exact vp_in_nI (by omega) (by omega)) ?_
  refine s_Law_law_195 ?_
  refine s_Law_law_196 ?_
  refine s_Law_law_197 ?_
  refine s_Law_law_198 ?_
  refine s_Law_law_199 (by rw [show nI k + 3 = nI (k + 3) from nI_add k 3]; exact vp_in_nI (by omega) (by omega)) ?_
  refine s_Law_law_200 (fun h200 => ?_) (fun h200 => absurd h200 (by exact fun z => z hb))
  refine s_Law_law_207 ?_
  refine sf_Law_law_208 (b1 := 0) (b2 := b) (K1 := Kn) h2 (by rfl) (by exact (hM.1)) (hD Γ Kn I3 F3 m ad' hM hr) ?_ (by omega)
  rintro _ _ I4 _ ⟨rfl, rfl, rfl, r4⟩ hf4
  dsimp only [Option.toList, List.cons_append, List.nil_append]
  have L4 := LI_m hR h1 h3 hM r4 hf4
  rw [ha] at L4
  refine s_Law_law_211 (fun h211 => ?_) (fun h211 => absurd h211 (by exact fun z => z rfl))
  exact kk _ _ _ s' L4 hJ'
theorem lo_power0 {Γ : ex_G} {k b N x m : Nat} {K : ex_K} {I : ex_I} {F : ex_F} {s : MS} {Q : Option ex_V → ex_K → ex_I → ex_F → Prop} (hL : LI K I F x m s s) (hb : (Γ.2.2.2.2.2.2.2 (nI k + 2).toNatClampNeg) = 0) (hJ : J N 3 3 s) (hN : N < 1000) (hk : k + 4 ≤ Γ.2.2.2.2.2.2.1) (hl : Γ.2.2.2.2.2.2.1 ≤ 2049) (kk : ∀ K' I' F' s', LI K' I' F' x m s' s' → J (N + 1) 3 3 s' → ex_E Γ 9 M_Law_law 663 [some (.inr (some Γ.2.2.2.2.2.1)), some (.inr (some x)), some (.inr (some m)), some (.inl (nI k))] [] K' I' F' b Q) :
    ex_E Γ 9 M_Law_law 420 [some (.inr (some Γ.2.2.2.2.2.1)), some (.inr (some x)), some (.inr (some m)), some (.inl (nI k))] [] K I F (b + 4) Q := by
  obtain ⟨Kc, Km, a, g, ad, rfl, hR, hM, hr, h1, h2, h3⟩ := hL
  obtain ⟨hz, h16⟩ := Rc_Z hR
  obtain ⟨v, s', hC, hD, hJ'⟩ := t2_power hJ (Γ.2.2.2.2.2.2.2 (nI k + 1).toNatClampNeg) 0 (by decide)
  replace hD := fun Γ K I F m ad h1 h2 => hD Γ K I F m ad h1 h2
  refine s_Law_law_420 ?_
  refine s_Law_law_421 ?_
  refine s_Law_law_422 ?_
  refine s_Law_law_423 ?_
  refine s_Law_law_424 ?_
  refine s_Law_law_425 (by rw [show nI k + 1 = nI (k + 1) from nI_add k 1]; exact vp_in_nI (by omega) (by omega)) ?_
  refine s_Law_law_426 ?_
  refine s_Law_law_427 ?_
  refine s_Law_law_428 ?_
  refine s_Law_law_429 ?_
  refine s_Law_law_430 (by rw [show nI k + 2 = nI (k + 2) from nI_add k 2]; exact vp_in_nI (by omega) (by omega)) ?_
  refine s_Law_law_431 (fun h431 => ?_) (fun h431 => absurd h431 (by exact fun z => z hb))
  refine s_Law_law_438 ?_
  refine sf_Law_law_439 (b1 := 4) (b2 := b) (K1 := Kc) h1 (by rfl) (by exact (hR.1.1).1) (hC Γ Kc I F a g hR) ?_ (by omega)
  rintro _ K2 I2 F2 ⟨rfl, g2, R2⟩ hf2
  dsimp only [Option.toList, List.cons_append, List.nil_append]
  have L2 := LI_c hM hr h2 h3 R2 hf2
  generalize mgK K Kc K2 = K3 at L2 ⊢
  generalize mgI K2 I I2 = I3 at L2 ⊢
  generalize mgF K2 F F2 = F3 at L2 ⊢
  clear hR hM hr h1 h2 h3 hf2 R2
  obtain ⟨Kd, Kn, a', g', ad', ha, hR, hM, hr, h1, h2, h3⟩ := L2
  refine s_Law_law_442 ?_
  refine s_Law_law_443 ?_
  refine s_Law_law_444 ?_
  refine s_Law_law_445 ?_
  refine s_Law_law_446 ?_
  refine s_Law_law_447 (by rw [show nI k + 1 = nI (k + 1) from nI_add k 1]; exact vp_in_nI (by omega) (by omega)) ?_
  refine s_Law_law_448 ?_
  refine s_Law_law_449 ?_
  refine s_Law_law_450 ?_
  refine s_Law_law_451 ?_
  refine s_Law_law_452 (by rw [show nI k + 2 = nI (k + 2) from nI_add k 2]; exact vp_in_nI (by omega) (by omega)) ?_
  refine s_Law_law_453 (fun h453 => ?_) (fun h453 => absurd h453 (by exact fun z => z hb))
  refine s_Law_law_460 ?_
  refine sf_Law_law_461 (b1 := 0) (b2 := b) (K1 := Kn) h2 (by rfl) (by exact (hM.1)) (hD Γ Kn I3 F3 m ad' hM hr) ?_ (by omega)
  rintro _ _ I4 _ ⟨rfl, rfl, rfl, r4⟩ hf4
  dsimp only [Option.toList, List.cons_append, List.nil_append]
  have L4 := LI_m hR h1 h3 hM r4 hf4
  rw [ha] at L4
  refine s_Law_law_464 (fun h464 => ?_) (fun h464 => absurd h464 (by exact fun z => z rfl))
  exact kk _ _ _ s' L4 hJ'
theorem lo_publish1 {Γ : ex_G} {k b N x m : Nat} {K : ex_K} {I : ex_I} {F : ex_F} {s : MS} {Q : Option ex_V → ex_K → ex_I → ex_F → Prop} (hL : LI K I F x m s s) (hb : ¬ (Γ.2.2.2.2.2.2.2 (nI k + 3).toNatClampNeg) = 0) (hJ : J N 3 3 s) (hN : N < 1000) (hk : k + 4 ≤ Γ.2.2.2.2.2.2.1) (hl : Γ.2.2.2.2.2.2.1 ≤ 2049) (kk : ∀ K' I' F' s', LI K' I' F' x m s' s' → J (N + 1) 3 3 s' → ex_E Γ 9 M_Law_law 663 [some (.inr (some Γ.2.2.2.2.2.1)), some (.inr (some x)), some (.inr (some m)), some (.inl (nI k))] [] K' I' F' b Q) :
    ex_E Γ 9 M_Law_law 157 [some (.inr (some Γ.2.2.2.2.2.1)), some (.inr (some x)), some (.inr (some m)), some (.inl (nI k))] [] K I F (b + 4) Q := by
  obtain ⟨Kc, Km, a, g, ad, rfl, hR, hM, hr, h1, h2, h3⟩ := hL
  obtain ⟨hz, h16⟩ := Rc_Z hR
  obtain ⟨v, s', hC, hD, hJ'⟩ := t2_publish hJ hN hz (Γ.2.2.2.2.2.2.2 (nI k + 1).toNatClampNeg) (Γ.2.2.2.2.2.2.2 (nI k + 2).toNatClampNeg) 1 (by decide)
  replace hD := fun Γ K I F m ad h1 h2 => hD Γ K I F m ad h1 h2
  refine s_Law_law_157 ?_
  refine s_Law_law_158 ?_
  refine s_Law_law_159 ?_
  refine s_Law_law_160 ?_
  refine s_Law_law_161 ?_
  refine s_Law_law_162 (by rw [show nI k + 1 = nI (k + 1) from nI_add k 1]; exact vp_in_nI (by omega) (by omega)) ?_
  refine s_Law_law_163 ?_
  refine s_Law_law_164 ?_
  refine s_Law_law_165 ?_
  refine s_Law_law_166 ?_
  refine s_Law_law_167 (by rw [show nI k + 2 = nI (k + 2) from nI_add k 2]; exact vp_in_nI (by omega) (by omega)) ?_
  refine s_Law_law_168 ?_
  refine s_Law_law_169 ?_
  refine s_Law_law_170 ?_
  refine s_Law_law_171 ?_
  refine s_Law_law_172 (by rw [show nI k + 3 = nI (k + 3) from nI_add k 3]; exact vp_in_nI (by omega) (by omega)) ?_
  refine s_Law_law_173 (fun h173 => absurd h173 (by exact hb)) (fun h173 => ?_)
  refine s_Law_law_176 ?_
  refine s_Law_law_177 ?_
  refine sf_Law_law_181 (b1 := 4) (b2 := b) (K1 := Kc) h1 (by rfl) (by exact (hR.1.1).1) (hC Γ Kc I F a g hR) ?_ (by omega)
  rintro _ K2 I2 F2 ⟨rfl, g2, R2⟩ hf2
  dsimp only [Option.toList, List.cons_append, List.nil_append]
  have L2 := LI_c hM hr h2 h3 R2 hf2
  generalize mgK K Kc K2 = K3 at L2 ⊢
  generalize mgI K2 I I2 = I3 at L2 ⊢
  generalize mgF K2 F F2 = F3 at L2 ⊢
  clear hR hM hr h1 h2 h3 hf2 R2
  obtain ⟨Kd, Kn, a', g', ad', ha, hR, hM, hr, h1, h2, h3⟩ := L2
  refine s_Law_law_184 ?_
  refine s_Law_law_185 ?_
  refine s_Law_law_186 ?_
  refine s_Law_law_187 ?_
  refine s_Law_law_188 ?_
  refine s_Law_law_189 (by rw [show nI k + 1 = nI (k + 1) from nI_add k 1]; exact vp_in_nI (by omega) (by omega)) ?_
  refine s_Law_law_190 ?_
  refine s_Law_law_191 ?_
  refine s_Law_law_192 ?_
  refine s_Law_law_193 ?_
  refine s_Law_law_194 (by rw [show nI k + 2 = nI (k + 2) from nI_add k 2]; exact vp_in_nI (by omega) (by omega)) ?_
  refine s_Law_law_195 ?_
  refine s_Law_law_196 ?_
  refine s_Law_law_197 ?_
  refine s_Law_law_198 ?_
  refine s_Law_law_199 (by rw [show nI k + 3 = nI (k + 3) from nI_add k 3]; exact vp_in_nI (by omega) (by omega)) ?_
  refine s_Law_law_200 (fun h200 => absurd h200 (by exact hb)) (fun h200 => ?_)
  refine s_Law_law_203 ?_
  refine s_Law_law_204 ?_
  refine sf_Law_law_208 (b1 := 0) (b2 := b) (K1 := Kn) h2 (by rfl) (by exact (hM.1)) (hD Γ Kn I3 F3 m ad' hM hr) ?_ (by omega)
  rintro _ _ I4 _ ⟨rfl, rfl, rfl, r4⟩ hf4
  dsimp only [Option.toList, List.cons_append, List.nil_append]
  have L4 := LI_m hR h1 h3 hM r4 hf4
  rw [ha] at L4
  refine s_Law_law_211 (fun h211 => ?_) (fun h211 => absurd h211 (by exact fun z => z rfl))
  exact kk _ _ _ s' L4 hJ'
theorem lo_power1 {Γ : ex_G} {k b N x m : Nat} {K : ex_K} {I : ex_I} {F : ex_F} {s : MS} {Q : Option ex_V → ex_K → ex_I → ex_F → Prop} (hL : LI K I F x m s s) (hb : ¬ (Γ.2.2.2.2.2.2.2 (nI k + 2).toNatClampNeg) = 0) (hJ : J N 3 3 s) (hN : N < 1000) (hk : k + 4 ≤ Γ.2.2.2.2.2.2.1) (hl : Γ.2.2.2.2.2.2.1 ≤ 2049) (kk : ∀ K' I' F' s', LI K' I' F' x m s' s' → J (N + 1) 3 3 s' → ex_E Γ 9 M_Law_law 663 [some (.inr (some Γ.2.2.2.2.2.1)), some (.inr (some x)), some (.inr (some m)), some (.inl (nI k))] [] K' I' F' b Q) :
    ex_E Γ 9 M_Law_law 420 [some (.inr (some Γ.2.2.2.2.2.1)), some (.inr (some x)), some (.inr (some m)), some (.inl (nI k))] [] K I F (b + 4) Q := by
  obtain ⟨Kc, Km, a, g, ad, rfl, hR, hM, hr, h1, h2, h3⟩ := hL
  obtain ⟨hz, h16⟩ := Rc_Z hR
  obtain ⟨v, s', hC, hD, hJ'⟩ := t2_power hJ (Γ.2.2.2.2.2.2.2 (nI k + 1).toNatClampNeg) 1 (by decide)
  replace hD := fun Γ K I F m ad h1 h2 => hD Γ K I F m ad h1 h2
  refine s_Law_law_420 ?_
  refine s_Law_law_421 ?_
  refine s_Law_law_422 ?_
  refine s_Law_law_423 ?_
  refine s_Law_law_424 ?_
  refine s_Law_law_425 (by rw [show nI k + 1 = nI (k + 1) from nI_add k 1]; exact vp_in_nI (by omega) (by omega)) ?_
  refine s_Law_law_426 ?_
  refine s_Law_law_427 ?_
  refine s_Law_law_428 ?_
  refine s_Law_law_429 ?_
  refine s_Law_law_430 (by rw [show nI k + 2 = nI (k + 2) from nI_add k 2]; exact vp_in_nI (by omega) (by omega)) ?_
  refine s_Law_law_431 (fun h431 => absurd h431 (by exact hb)) (fun h431 => ?_)
  refine s_Law_law_434 ?_
  refine s_Law_law_435 ?_
  refine sf_Law_law_439 (b1 := 4) (b2 := b) (K1 := Kc) h1 (by rfl) (by exact (hR.1.1).1) (hC Γ Kc I F a g hR) ?_ (by omega)
  rintro _ K2 I2 F2 ⟨rfl, g2, R2⟩ hf2
  dsimp only [Option.toList, List.cons_append, List.nil_append]
  have L2 := LI_c hM hr h2 h3 R2 hf2
  generalize mgK K Kc K2 = K3 at L2 ⊢
  generalize mgI K2 I I2 = I3 at L2 ⊢
  generalize mgF K2 F F2 = F3 at L2 ⊢
  clear hR hM hr h1 h2 h3 hf2 R2
  obtain ⟨Kd, Kn, a', g', ad', ha, hR, hM, hr, h1, h2, h3⟩ := L2
  refine s_Law_law_442 ?_
  refine s_Law_law_443 ?_
  refine s_Law_law_444 ?_
  refine s_Law_law_445 ?_
  refine s_Law_law_446 ?_
  refine s_Law_law_447 (by rw [show nI k + 1 = nI (k + 1) from nI_add k 1]; exact vp_in_nI (by omega) (by omega)) ?_
  refine s_Law_law_448 ?_
  refine s_Law_law_449 ?_
  refine s_Law_law_450 ?_
  refine s_Law_law_451 ?_
  refine s_Law_law_452 (by rw [show nI k + 2 = nI (k + 2) from nI_add k 2]; exact vp_in_nI (by omega) (by omega)) ?_
  refine s_Law_law_453 (fun h453 => absurd h453 (by exact hb)) (fun h453 => ?_)
  refine s_Law_law_456 ?_
  refine s_Law_law_457 ?_
  refine sf_Law_law_461 (b1 := 0) (b2 := b) (K1 := Kn) h2 (by rfl) (by exact (hM.1)) (hD Γ Kn I3 F3 m ad' hM hr) ?_ (by omega)
  rintro _ _ I4 _ ⟨rfl, rfl, rfl, r4⟩ hf4
  dsimp only [Option.toList, List.cons_append, List.nil_append]
  have L4 := LI_m hR h1 h3 hM r4 hf4
  rw [ha] at L4
  refine s_Law_law_464 (fun h464 => ?_) (fun h464 => absurd h464 (by exact fun z => z rfl))
  exact kk _ _ _ s' L4 hJ'
