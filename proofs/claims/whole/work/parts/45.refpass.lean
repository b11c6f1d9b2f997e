/-! The reference: requests passed on -/
theorem r_que_add {I J : ex_I} {ad : Nat → Nat} {t : Nat} {Q : List (Nat → Int32)} {w : Nat → Int32} (hQ : r_que I ad t Q) (hl : Q.length < 4) (h1 : J 21 (ad 21) = upd1 (I 21 (ad 21)) t (nI (Q.length + 1)))
    (h2 : ∀ k, (k < 32 * t + 8 * Q.length ∨ 32 * t + 8 * Q.length + 8 ≤ k) → J 21 (ad 22) k = I 21 (ad 22) k) (h3 : ∀ j, j < 8 → J 21 (ad 22) (32 * t + 8 * Q.length + j) = w j)
    (h4 : ∀ k, (k < 16 * t + 4 * Q.length ∨ 16 * t + 4 * Q.length + 4 ≤ k) → J 21 (ad 23) k = I 21 (ad 23) k) (h5 : ∀ j, j < 4 → J 21 (ad 23) (16 * t + 4 * Q.length + j) = w (8 + j)) :
    r_que J ad t (Q ++ [w]) ∧ ∀ t2 Q2, t2 ≠ t → t2 < 3 → r_que I ad t2 Q2 → r_que J ad t2 Q2 := by
  obtain ⟨q1, q2, q3⟩ := hQ
  refine ⟨⟨?_, ?_, ?_⟩, ?_⟩
  · rw [h1]
    unfold upd1
    rw [if_pos rfl, List.length_append]
    rfl
  · rw [List.length_append]
    exact hl
  · intro e row he
    by_cases c : e < Q.length
    · rw [List.getElem?_append_left c] at he
      obtain ⟨r1, r2⟩ := q3 e row he
      refine ⟨fun j hj => ?_, fun j hj => ?_⟩
      · rw [h2 _ (by omega), r1 j hj]
      · rw [h4 _ (by omega), r2 j hj]
    · have z := (List.getElem?_eq_some_iff.mp he).1
      rw [List.length_append, List.length_singleton] at z
      have e0 : e = Q.length := by omega
      subst e0
      rw [List.getElem?_append_right (Nat.le_refl _), Nat.sub_self] at he
      have e1 : w = row := Option.some.inj he
      subst e1
      exact ⟨h3, h5⟩
  · intro t2 Q2 hn ht2 hq
    obtain ⟨p1, p2, p3⟩ := hq
    refine ⟨?_, p2, fun e row he => ?_⟩
    · rw [h1]
      unfold upd1
      rw [if_neg hn, p1]
    · have z := (List.getElem?_eq_some_iff.mp he).1
      obtain ⟨r1, r2⟩ := p3 e row he
      refine ⟨fun j hj => ?_, fun j hj => ?_⟩
      · rw [h2 _ (by omega), r1 j hj]
      · rw [h4 _ (by omega), r2 j hj]
def prw (rd : Nat → Int32) (r kind p v tag n : Int32) (er : Option (Nat → Int32)) : Nat → Int32 := fun j => match j with
  | 0 => r
  | 1 => kind
  | 2 => p
  | 3 => v
  | 4 => tag
  | 5 => n
  | 6 => match er with
    | none => 0
    | some row => row 0
  | 7 => match er with
    | none => 0
    | some row => tgr row
  | 8 => rd 0
  | 9 => rd 1
  | 10 => rd 2
  | _ => rd 3
def m_ps2 (s : MS) (t : Nat) (w : Nat → Int32) : MS := if (s.2 (100 + t)).length = 0 then m_beg (tu s (100 + t) (s.2 (100 + t) ++ [w])) t else tu s (100 + t) (s.2 (100 + t) ++ [w])
def m_ent (s : MS) (kind p v : Int32) : Option (Nat → Int32) := if kind = 1 then (fix (mtb p v) (s.2 14) 0).bind (fun e => (s.2 14)[e]?) else none
def m_pass (s : MS) (r kind : Int32) (p : Nat) (v tag n : Int32) : MS :=
  if s.1 27 (own p) = 0 then
    if (s.2 (100 + own p)).length = 4 then m_rep s r 503 0 0 0
    else m_ps2 s (own p) (prw (s.1 5) r kind (nI p) v tag n (m_ent s kind (nI p) v))
  else m_rep s r 502 0 0 0
theorem lp_p3 {Γ : ex_G} {d : Nat} {K : ex_K} {I : ex_I} {F : ex_F} {b : Nat} {m : Nat} {ad : Nat → Nat} {s : MS} (hR : rf_ok K F m ad) (h : rr I m ad s) {t : Nat} (ht : t < 3) (hl : (s.2 (100 + t)).length < 4) {w X : Nat → Int32} {l1 l2 l3 l4 l5 l6 l8 l9 l10 : Option ex_V}
    (h2 : ∀ k, (k < 32 * t + 8 * (s.2 (100 + t)).length ∨ 32 * t + 8 * (s.2 (100 + t)).length + 8 ≤ k) → X k = I 21 (ad 22) k) (h3 : ∀ j, j < 8 → X (32 * t + 8 * (s.2 (100 + t)).length + j) = w j) (h5 : ∀ j, j < 4 → w (8 + j) = s.1 5 j) :
    ex_E Γ (d + 3) M_Mdl_pass 203 [some (.inr (some m)), l1, l2, l3, l4, l5, l6, some (.inl (nI t)), l8, l9, l10] [] K (ex_wi I 21 (ad 22) X) F b (fun x K' I' F' => x = none ∧ K = K' ∧ F = F' ∧ rr I' m ad (m_ps2 s t w)) := by
  have m1 := hR.1
  have n22 : ad 21 ≠ ad 22 := rf_ne hR (by decide)
  have n23 : ad 21 ≠ ad 23 := rf_ne hR (by decide)
  have n52 : ad 5 ≠ ad 22 := rf_ne hR (by decide)
  have n53 : ad 5 ≠ ad 23 := rf_ne hR (by decide)
  have m223 : ad 22 ≠ ad 23 := rf_ne hR (by decide)
  have m221 : ad 22 ≠ ad 21 := rf_ne hR (by decide)
  have m231 : ad 23 ≠ ad 21 := rf_ne hR (by decide)
  have hq := h.2.2.2.2.2.2.2.1 t ht
  have hrd := h.1 5 (by decide)
  generalize hQ : s.2 (100 + t) = Q at *
  have hc := hq.1
  have e1 : nI Q.length + 1 = nI (Q.length + 1) := by rw [nl_1, nI_add]
  have fin : ∀ J, J = ex_ui (ex_wi (ex_wi I 21 (ad 22) X) 21 (ad 23) (fun j => if j = 4 * (4 * t + Q.length) + 3 then s.1 5 3 else if j = 4 * (4 * t + Q.length) + 2 then s.1 5 2 else if j = 4 * (4 * t + Q.length) + 1 then s.1 5 1 else if j = 4 * (4 * t + Q.length) then s.1 5 0 else I 21 (ad 23) j)) 21 (ad 21) t (nI (Q.length + 1)) → rr J m ad (tu s (100 + t) (Q ++ [w])) := by
    intro J hJ
    have f1 : fr I J ad [] [21, 22, 23] := by
      rw [hJ]
      exact fr_trans (fr_trans (fr_wa hR.2.1 (Or.inl rfl) (by simp)) (fr_wa hR.2.1 (Or.inl rfl) (by simp))) (fr_ua hR.2.1 (Or.inl rfl) (by simp))
    obtain ⟨g1, g2⟩ := r_que_add (J := J) (w := w) hq hl (by
        rw [hJ, ex_ui_at, ex_wi_ne _ _ _ n23, ex_wi_ne _ _ _ n22]
        rfl) (fun k hk => by
        rw [hJ, ex_ui_ne _ _ _ _ m221, ex_wi_ne _ _ _ m223, ex_wi_at, h2 k hk]) (fun j hj => by
        rw [hJ, ex_ui_ne _ _ _ _ m221, ex_wi_ne _ _ _ m223, ex_wi_at, h3 j hj]) (fun k hk => by
        rw [hJ, ex_ui_ne _ _ _ _ m231, ex_wi_at]
        rw [if_neg (by omega), if_neg (by omega), if_neg (by omega), if_neg (by omega)]) (fun j hj => by
        rw [hJ, ex_ui_ne _ _ _ _ m231, ex_wi_at, h5 j hj]
        rcases (by omega : j = 0 ∨ j = 1 ∨ j = 2 ∨ j = 3) with rfl | rfl | rfl | rfl
        · rw [if_neg (by omega), if_neg (by omega), if_neg (by omega), if_pos (by omega)]
        · rw [if_neg (by omega), if_neg (by omega), if_pos (by omega)]
        · rw [if_neg (by omega), if_pos (by omega)]
        · rw [if_pos (by omega)])
    exact rr_que hR ht h f1 g1 g2
  refine s_Mdl_pass_203 ?_
  refine s_Mdl_pass_204 ?_
  refine s_Mdl_pass_206 ?_
  refine s_Mdl_pass_208 ?_
  refine s_Mdl_pass_209 (fun h209 => absurd h209 (by decide)) (fun h209 => ?_)
  refine s_Mdl_pass_212 ?_
  refine s_Mdl_pass_213 (by first | rfl | assumption | (simp [*]; done)) (by first | rfl | assumption | (simp [*]; done)) ?_
  refine s_Mdl_pass_216 ?_
  refine s_Mdl_pass_217 ?_
  refine s_Mdl_pass_218 ?_
  refine s_Mdl_pass_220 ?_
  refine s_Mdl_pass_221 ?_
  refine s_Mdl_pass_222 (by first | rfl | assumption | (simp [*]; done)) (by first | rfl | assumption | (simp [*]; done)) ?_
  refine s_Mdl_pass_225 ?_
  refine s_Mdl_pass_227 (by first | exact rf_count hR | rfl) (by exact rk_count hR) (by rw [rn_count hR]; exact n_in (a := t) (by first | rfl | (simp only [nl_1, nl_2, nl_3, nl_4, nl_5, nl_6, nl_7, nl_8, nl_9, nl_10, nl_11, nl_12, nl_13, nl_14, nl_15, nl_16, nl_32, nl_240, nl_250, nl_255, nl_265, nl_270, nl_0, nI_add, pk_mul]; done)) (by omega) (by omega)) ?_
  refine ex_ixl (q := t) (by first | rfl | (simp only [nl_1, nl_2, nl_3, nl_4, nl_5, nl_6, nl_7, nl_8, nl_9, nl_10, nl_11, nl_12, nl_13, nl_14, nl_15, nl_16, nl_32, nl_240, nl_250, nl_255, nl_265, nl_270, nl_0, nI_add, pk_mul]; done)) (by omega) ?_
  simp only [ex_ui_ne _ _ _ _ n23, ex_wi_ne _ _ _ n22, hc]
  refine s_Mdl_pass_228 ?_
  refine s_Mdl_pass_229 ?_
  refine s_Mdl_pass_230 ?_
  refine s_Mdl_pass_232 ?_
  refine s_Mdl_pass_233 ?_
  refine s_Mdl_pass_234 (by first | rfl | assumption | (simp [*]; done)) (by first | rfl | assumption | (simp [*]; done)) ?_
  refine s_Mdl_pass_237 ?_
  refine s_Mdl_pass_239 (by first | exact rf_read hR | rfl) (by exact rk_read hR) (by rw [rn_read hR]; exact n_in (a := 0) (by first | rfl | (simp only [nl_1, nl_2, nl_3, nl_4, nl_5, nl_6, nl_7, nl_8, nl_9, nl_10, nl_11, nl_12, nl_13, nl_14, nl_15, nl_16, nl_32, nl_240, nl_250, nl_255, nl_265, nl_270, nl_0, nI_add, pk_mul]; done)) (by omega) (by omega)) ?_
  refine ex_ixl (q := 0) (by first | rfl | (simp only [nl_1, nl_2, nl_3, nl_4, nl_5, nl_6, nl_7, nl_8, nl_9, nl_10, nl_11, nl_12, nl_13, nl_14, nl_15, nl_16, nl_32, nl_240, nl_250, nl_255, nl_265, nl_270, nl_0, nI_add, pk_mul]; done)) (by omega) ?_
  simp only [ex_ui_ne _ _ _ _ n53, ex_wi_ne _ _ _ n52, hrd]
  refine s_Mdl_pass_240 (by first | exact rf_wish hR | rfl) (by exact rk_wish hR) (by rw [rn_wish hR]; exact n_in (a := ((4 * ((4 * t) + Q.length)) + 0)) (by first | rfl | (simp only [nl_1, nl_2, nl_3, nl_4, nl_5, nl_6, nl_7, nl_8, nl_9, nl_10, nl_11, nl_12, nl_13, nl_14, nl_15, nl_16, nl_32, nl_240, nl_250, nl_255, nl_265, nl_270, nl_0, nI_add, pk_mul]; done)) (by omega) (by omega)) ?_
  refine ex_ixs (q := ((4 * ((4 * t) + Q.length)) + 0)) (by first | rfl | (simp only [nl_1, nl_2, nl_3, nl_4, nl_5, nl_6, nl_7, nl_8, nl_9, nl_10, nl_11, nl_12, nl_13, nl_14, nl_15, nl_16, nl_32, nl_240, nl_250, nl_255, nl_265, nl_270, nl_0, nI_add, pk_mul]; done)) (by omega) ?_
  refine s_Mdl_pass_241 ?_
  refine s_Mdl_pass_244 ?_
  refine s_Mdl_pass_206 ?_
  refine s_Mdl_pass_208 ?_
  refine s_Mdl_pass_209 (fun h209 => absurd h209 (by decide)) (fun h209 => ?_)
  refine s_Mdl_pass_212 ?_
  refine s_Mdl_pass_213 (by first | rfl | assumption | (simp [*]; done)) (by first | rfl | assumption | (simp [*]; done)) ?_
  refine s_Mdl_pass_216 ?_
  refine s_Mdl_pass_217 ?_
  refine s_Mdl_pass_218 ?_
  refine s_Mdl_pass_220 ?_
  refine s_Mdl_pass_221 ?_
  refine s_Mdl_pass_222 (by first | rfl | assumption | (simp [*]; done)) (by first | rfl | assumption | (simp [*]; done)) ?_
  refine s_Mdl_pass_225 ?_
  refine s_Mdl_pass_227 (by first | exact rf_count hR | rfl) (by exact rk_count hR) (by rw [rn_count hR]; exact n_in (a := t) (by first | rfl | (simp only [nl_1, nl_2, nl_3, nl_4, nl_5, nl_6, nl_7, nl_8, nl_9, nl_10, nl_11, nl_12, nl_13, nl_14, nl_15, nl_16, nl_32, nl_240, nl_250, nl_255, nl_265, nl_270, nl_0, nI_add, pk_mul]; done)) (by omega) (by omega)) ?_
  refine ex_ixl (q := t) (by first | rfl | (simp only [nl_1, nl_2, nl_3, nl_4, nl_5, nl_6, nl_7, nl_8, nl_9, nl_10, nl_11, nl_12, nl_13, nl_14, nl_15, nl_16, nl_32, nl_240, nl_250, nl_255, nl_265, nl_270, nl_0, nI_add, pk_mul]; done)) (by omega) ?_
  simp only [ex_ui_ne _ _ _ _ n23, ex_wi_ne _ _ _ n22, hc]
  refine s_Mdl_pass_228 ?_
  refine s_Mdl_pass_229 ?_
  refine s_Mdl_pass_230 ?_
  refine s_Mdl_pass_232 ?_
  refine s_Mdl_pass_233 ?_
  refine s_Mdl_pass_234 (by first | rfl | assumption | (simp [*]; done)) (by first | rfl | assumption | (simp [*]; done)) ?_
  refine s_Mdl_pass_237 ?_
  refine s_Mdl_pass_239 (by first | exact rf_read hR | rfl) (by exact rk_read hR) (by rw [rn_read hR]; exact n_in (a := (0 + 1)) (by first | rfl | (simp only [nl_1, nl_2, nl_3, nl_4, nl_5, nl_6, nl_7, nl_8, nl_9, nl_10, nl_11, nl_12, nl_13, nl_14, nl_15, nl_16, nl_32, nl_240, nl_250, nl_255, nl_265, nl_270, nl_0, nI_add, pk_mul]; done)) (by omega) (by omega)) ?_
  refine ex_ixl (q := (0 + 1)) (by first | rfl | (simp only [nl_1, nl_2, nl_3, nl_4, nl_5, nl_6, nl_7, nl_8, nl_9, nl_10, nl_11, nl_12, nl_13, nl_14, nl_15, nl_16, nl_32, nl_240, nl_250, nl_255, nl_265, nl_270, nl_0, nI_add, pk_mul]; done)) (by omega) ?_
  simp only [ex_ui_ne _ _ _ _ n53, ex_wi_ne _ _ _ n52, hrd]
  refine s_Mdl_pass_240 (by first | exact rf_wish hR | rfl) (by exact rk_wish hR) (by rw [rn_wish hR]; exact n_in (a := ((4 * ((4 * t) + Q.length)) + (0 + 1))) (by first | rfl | (simp only [nl_1, nl_2, nl_3, nl_4, nl_5, nl_6, nl_7, nl_8, nl_9, nl_10, nl_11, nl_12, nl_13, nl_14, nl_15, nl_16, nl_32, nl_240, nl_250, nl_255, nl_265, nl_270, nl_0, nI_add, pk_mul]; done)) (by omega) (by omega)) ?_
  refine ex_ixs (q := ((4 * ((4 * t) + Q.length)) + (0 + 1))) (by first | rfl | (simp only [nl_1, nl_2, nl_3, nl_4, nl_5, nl_6, nl_7, nl_8, nl_9, nl_10, nl_11, nl_12, nl_13, nl_14, nl_15, nl_16, nl_32, nl_240, nl_250, nl_255, nl_265, nl_270, nl_0, nI_add, pk_mul]; done)) (by omega) ?_
  refine s_Mdl_pass_241 ?_
  refine s_Mdl_pass_244 ?_
  refine s_Mdl_pass_206 ?_
  refine s_Mdl_pass_208 ?_
  refine s_Mdl_pass_209 (fun h209 => absurd h209 (by decide)) (fun h209 => ?_)
  refine s_Mdl_pass_212 ?_
  refine s_Mdl_pass_213 (by first | rfl | assumption | (simp [*]; done)) (by first | rfl | assumption | (simp [*]; done)) ?_
  refine s_Mdl_pass_216 ?_
  refine s_Mdl_pass_217 ?_
  refine s_Mdl_pass_218 ?_
  refine s_Mdl_pass_220 ?_
  refine s_Mdl_pass_221 ?_
  refine s_Mdl_pass_222 (by first | rfl | assumption | (simp [*]; done)) (by first | rfl | assumption | (simp [*]; done)) ?_
  refine s_Mdl_pass_225 ?_
  refine s_Mdl_pass_227 (by first | exact rf_count hR | rfl) (by exact rk_count hR) (by rw [rn_count hR]; exact n_in (a := t) (by first | rfl | (simp only [nl_1, nl_2, nl_3, nl_4, nl_5, nl_6, nl_7, nl_8, nl_9, nl_10, nl_11, nl_12, nl_13, nl_14, nl_15, nl_16, nl_32, nl_240, nl_250, nl_255, nl_265, nl_270, nl_0, nI_add, pk_mul]; done)) (by omega) (by omega)) ?_
  refine ex_ixl (q := t) (by first | rfl | (simp only [nl_1, nl_2, nl_3, nl_4, nl_5, nl_6, nl_7, nl_8, nl_9, nl_10, nl_11, nl_12, nl_13, nl_14, nl_15, nl_16, nl_32, nl_240, nl_250, nl_255, nl_265, nl_270, nl_0, nI_add, pk_mul]; done)) (by omega) ?_
  simp only [ex_ui_ne _ _ _ _ n23, ex_wi_ne _ _ _ n22, hc]
  refine s_Mdl_pass_228 ?_
  refine s_Mdl_pass_229 ?_
  refine s_Mdl_pass_230 ?_
  refine s_Mdl_pass_232 ?_
  refine s_Mdl_pass_233 ?_
  refine s_Mdl_pass_234 (by first | rfl | assumption | (simp [*]; done)) (by first | rfl | assumption | (simp [*]; done)) ?_
  refine s_Mdl_pass_237 ?_
  refine s_Mdl_pass_239 (by first | exact rf_read hR | rfl) (by exact rk_read hR) (by rw [rn_read hR]; exact n_in (a := ((0 + 1) + 1)) (by first | rfl | (simp only [nl_1, nl_2, nl_3, nl_4, nl_5, nl_6, nl_7, nl_8, nl_9, nl_10, nl_11, nl_12, nl_13, nl_14, nl_15, nl_16, nl_32, nl_240, nl_250, nl_255, nl_265, nl_270, nl_0, nI_add, pk_mul]; done)) (by omega) (by omega)) ?_
  refine ex_ixl (q := ((0 + 1) + 1)) (by first | rfl | (simp only [nl_1, nl_2, nl_3, nl_4, nl_5, nl_6, nl_7, nl_8, nl_9, nl_10, nl_11, nl_12, nl_13, nl_14, nl_15, nl_16, nl_32, nl_240, nl_250, nl_255, nl_265, nl_270, nl_0, nI_add, pk_mul]; done)) (by omega) ?_
  simp only [ex_ui_ne _ _ _ _ n53, ex_wi_ne _ _ _ n52, hrd]
  refine s_Mdl_pass_240 (by first | exact rf_wish hR | rfl) (by exact rk_wish hR) (by rw [rn_wish hR]; exact n_in (a := ((4 * ((4 * t) + Q.length)) + ((0 + 1) + 1))) (by first | rfl | (simp only [nl_1, nl_2, nl_3, nl_4, nl_5, nl_6, nl_7, nl_8, nl_9, nl_10, nl_11, nl_12, nl_13, nl_14, nl_15, nl_16, nl_32, nl_240, nl_250, nl_255, nl_265, nl_270, nl_0, nI_add, pk_mul]; done)) (by omega) (by omega)) ?_
  refine ex_ixs (q := ((4 * ((4 * t) + Q.length)) + ((0 + 1) + 1))) (by first | rfl | (simp only [nl_1, nl_2, nl_3, nl_4, nl_5, nl_6, nl_7, nl_8, nl_9, nl_10, nl_11, nl_12, nl_13, nl_14, nl_15, nl_16, nl_32, nl_240, nl_250, nl_255, nl_265, nl_270, nl_0, nI_add, pk_mul]; done)) (by omega) ?_
  refine s_Mdl_pass_241 ?_
  refine s_Mdl_pass_244 ?_
  refine s_Mdl_pass_206 ?_
  refine s_Mdl_pass_208 ?_
  refine s_Mdl_pass_209 (fun h209 => absurd h209 (by decide)) (fun h209 => ?_)
  refine s_Mdl_pass_212 ?_
  refine s_Mdl_pass_213 (by first | rfl | assumption | (simp [*]; done)) (by first | rfl | assumption | (simp [*]; done)) ?_
  refine s_Mdl_pass_216 ?_
  refine s_Mdl_pass_217 ?_
  refine s_Mdl_pass_218 ?_
  refine s_Mdl_pass_220 ?_
  refine s_Mdl_pass_221 ?_
  refine s_Mdl_pass_222 (by first | rfl | assumption | (simp [*]; done)) (by first | rfl | assumption | (simp [*]; done)) ?_
  refine s_Mdl_pass_225 ?_
  refine s_Mdl_pass_227 (by first | exact rf_count hR | rfl) (by exact rk_count hR) (by rw [rn_count hR]; exact n_in (a := t) (by first | rfl | (simp only [nl_1, nl_2, nl_3, nl_4, nl_5, nl_6, nl_7, nl_8, nl_9, nl_10, nl_11, nl_12, nl_13, nl_14, nl_15, nl_16, nl_32, nl_240, nl_250, nl_255, nl_265, nl_270, nl_0, nI_add, pk_mul]; done)) (by omega) (by omega)) ?_
  refine ex_ixl (q := t) (by first | rfl | (simp only [nl_1, nl_2, nl_3, nl_4, nl_5, nl_6, nl_7, nl_8, nl_9, nl_10, nl_11, nl_12, nl_13, nl_14, nl_15, nl_16, nl_32, nl_240, nl_250, nl_255, nl_265, nl_270, nl_0, nI_add, pk_mul]; done)) (by omega) ?_
  simp only [ex_ui_ne _ _ _ _ n23, ex_wi_ne _ _ _ n22, hc]
  refine s_Mdl_pass_228 ?_
  refine s_Mdl_pass_229 ?_
  refine s_Mdl_pass_230 ?_
  refine s_Mdl_pass_232 ?_
  refine s_Mdl_pass_233 ?_
  refine s_Mdl_pass_234 (by first | rfl | assumption | (simp [*]; done)) (by first | rfl | assumption | (simp [*]; done)) ?_
  refine s_Mdl_pass_237 ?_
  refine s_Mdl_pass_239 (by first | exact rf_read hR | rfl) (by exact rk_read hR) (by rw [rn_read hR]; exact n_in (a := (((0 + 1) + 1) + 1)) (by first | rfl | (simp only [nl_1, nl_2, nl_3, nl_4, nl_5, nl_6, nl_7, nl_8, nl_9, nl_10, nl_11, nl_12, nl_13, nl_14, nl_15, nl_16, nl_32, nl_240, nl_250, nl_255, nl_265, nl_270, nl_0, nI_add, pk_mul]; done)) (by omega) (by omega)) ?_
  refine ex_ixl (q := (((0 + 1) + 1) + 1)) (by first | rfl | (simp only [nl_1, nl_2, nl_3, nl_4, nl_5, nl_6, nl_7, nl_8, nl_9, nl_10, nl_11, nl_12, nl_13, nl_14, nl_15, nl_16, nl_32, nl_240, nl_250, nl_255, nl_265, nl_270, nl_0, nI_add, pk_mul]; done)) (by omega) ?_
  simp only [ex_ui_ne _ _ _ _ n53, ex_wi_ne _ _ _ n52, hrd]
  refine s_Mdl_pass_240 (by first | exact rf_wish hR | rfl) (by exact rk_wish hR) (by rw [rn_wish hR]; exact n_in (a := ((4 * ((4 * t) + Q.length)) + (((0 + 1) + 1) + 1))) (by first | rfl | (simp only [nl_1, nl_2, nl_3, nl_4, nl_5, nl_6, nl_7, nl_8, nl_9, nl_10, nl_11, nl_12, nl_13, nl_14, nl_15, nl_16, nl_32, nl_240, nl_250, nl_255, nl_265, nl_270, nl_0, nI_add, pk_mul]; done)) (by omega) (by omega)) ?_
  refine ex_ixs (q := ((4 * ((4 * t) + Q.length)) + (((0 + 1) + 1) + 1))) (by first | rfl | (simp only [nl_1, nl_2, nl_3, nl_4, nl_5, nl_6, nl_7, nl_8, nl_9, nl_10, nl_11, nl_12, nl_13, nl_14, nl_15, nl_16, nl_32, nl_240, nl_250, nl_255, nl_265, nl_270, nl_0, nI_add, pk_mul]; done)) (by omega) ?_
  refine s_Mdl_pass_241 ?_
  refine s_Mdl_pass_244 ?_
  refine s_Mdl_pass_206 ?_
  refine s_Mdl_pass_208 ?_
  refine s_Mdl_pass_209 (fun h209 => ?_) (fun h209 => absurd h209 (by exact fun q => q (by decide)))
  refine s_Mdl_pass_247 ?_
  refine s_Mdl_pass_248 (by first | rfl | assumption | (simp [*]; done)) (by first | rfl | assumption | (simp [*]; done)) ?_
  refine s_Mdl_pass_251 ?_
  refine s_Mdl_pass_253 ?_
  refine s_Mdl_pass_254 (by first | exact rf_count hR | rfl) (by exact rk_count hR) (by rw [rn_count hR]; exact n_in (a := t) (by first | rfl | (simp only [nl_1, nl_2, nl_3, nl_4, nl_5, nl_6, nl_7, nl_8, nl_9, nl_10, nl_11, nl_12, nl_13, nl_14, nl_15, nl_16, nl_32, nl_240, nl_250, nl_255, nl_265, nl_270, nl_0, nI_add, pk_mul]; done)) (by omega) (by omega)) ?_
  refine ex_ixl (q := t) (by first | rfl | (simp only [nl_1, nl_2, nl_3, nl_4, nl_5, nl_6, nl_7, nl_8, nl_9, nl_10, nl_11, nl_12, nl_13, nl_14, nl_15, nl_16, nl_32, nl_240, nl_250, nl_255, nl_265, nl_270, nl_0, nI_add, pk_mul]; done)) (by omega) ?_
  simp only [ex_ui_ne _ _ _ _ n23, ex_wi_ne _ _ _ n22, hc]
  refine s_Mdl_pass_255 ?_
  refine s_Mdl_pass_256 ?_
  refine s_Mdl_pass_257 (by first | exact rf_count hR | rfl) (by exact rk_count hR) (by rw [rn_count hR]; exact n_in (a := t) (by first | rfl | (simp only [nl_1, nl_2, nl_3, nl_4, nl_5, nl_6, nl_7, nl_8, nl_9, nl_10, nl_11, nl_12, nl_13, nl_14, nl_15, nl_16, nl_32, nl_240, nl_250, nl_255, nl_265, nl_270, nl_0, nI_add, pk_mul]; done)) (by omega) (by omega)) ?_
  refine ex_ixs (q := t) (by first | rfl | (simp only [nl_1, nl_2, nl_3, nl_4, nl_5, nl_6, nl_7, nl_8, nl_9, nl_10, nl_11, nl_12, nl_13, nl_14, nl_15, nl_16, nl_32, nl_240, nl_250, nl_255, nl_265, nl_270, nl_0, nI_add, pk_mul]; done)) (by omega) ?_
  rw [e1, ex_ui_w (ex_wi I 21 (ad 22) X) 21 (ad 23), ex_wi_u, ex_wi_u, ex_wi_u, ex_wi_ne _ _ _ (Ne.symm m223)]
  have k := fin _ rfl
  generalize hJ : ex_ui _ 21 (ad 21) t (nI (Q.length + 1)) = J at k ⊢
  refine s_Mdl_pass_258 ?_
  refine s_Mdl_pass_259 (by first | rfl | assumption | (simp [*]; done)) (by first | rfl | assumption | (simp [*]; done)) ?_
  refine s_Mdl_pass_262 ?_
  refine s_Mdl_pass_264 (by first | exact rf_count hR | rfl) (by exact rk_count hR) (by rw [rn_count hR]; exact n_in (a := t) (by first | rfl | (simp only [nl_1, nl_2, nl_3, nl_4, nl_5, nl_6, nl_7, nl_8, nl_9, nl_10, nl_11, nl_12, nl_13, nl_14, nl_15, nl_16, nl_32, nl_240, nl_250, nl_255, nl_265, nl_270, nl_0, nI_add, pk_mul]; done)) (by omega) (by omega)) ?_
  refine ex_ixl (q := t) (by first | rfl | (simp only [nl_1, nl_2, nl_3, nl_4, nl_5, nl_6, nl_7, nl_8, nl_9, nl_10, nl_11, nl_12, nl_13, nl_14, nl_15, nl_16, nl_32, nl_240, nl_250, nl_255, nl_265, nl_270, nl_0, nI_add, pk_mul]; done)) (by omega) ?_
  refine s_Mdl_pass_265 ?_
  rw [(k.2.2.2.2.2.2.2.1 t ht).1, tu_at, List.length_append, List.length_singleton]
  refine s_Mdl_pass_266 (fun h266 => ?_) (fun h266 => ?_)
  · refine s_Mdl_pass_275 ?_
    refine ⟨rfl, rfl, rfl, ?_⟩
    unfold m_ps2
    rw [hQ, if_neg (fun z => h266 (by rw [z]; rfl))]
    exact k
  · refine s_Mdl_pass_269 ?_
    refine s_Mdl_pass_270 ?_
    refine s_Mdl_pass_272 (b1 := b) (b2 := 0) (by first | rfl | assumption | (simp [*]; done)) (by first | rfl | assumption | (simp [*]; done)) (sp_begR hR k ht) ?_ (by omega)
    rintro _ _ _ _ ⟨rfl, rfl, rfl, k2⟩
    dsimp only [Option.toList, List.cons_append, List.nil_append]
    refine s_Mdl_pass_275 ?_
    refine ⟨rfl, rfl, rfl, ?_⟩
    have z : Q.length = 0 := by
      have := (n_eq rfl nl_1 (by omega) (by omega)).mp h266
      omega
    unfold m_ps2
    rw [hQ, if_pos z]
    exact k2
theorem lp_p2n {Γ : ex_G} {d : Nat} {K : ex_K} {I : ex_I} {F : ex_F} {b : Nat} {m : Nat} {ad : Nat → Nat} {s : MS} (hR : rf_ok K F m ad) (h : rr I m ad s) {t : Nat} {r kind p v tag n : Int32} (ht : t < 3) (hl : (s.2 (100 + t)).length < 4) :
    ex_E Γ (d + 3) M_Mdl_pass 91 [some (.inr (some m)), some (.inl r), some (.inl kind), some (.inl p), some (.inl v), some (.inl tag), some (.inl n), some (.inl (nI t)), some (.inl (nI (8 * (4 * t + (s.2 (100 + t)).length)))), some (.inl (-1)), none] [] K I F b (fun x K' I' F' => x = none ∧ K = K' ∧ F = F' ∧ rr I' m ad (m_ps2 s t (prw (s.1 5) r kind p v tag n none))) := by
  have m1 := hR.1
  refine s_Mdl_pass_91 ?_
  refine s_Mdl_pass_92 (by first | rfl | assumption | (simp [*]; done)) (by first | rfl | assumption | (simp [*]; done)) ?_
  refine s_Mdl_pass_95 ?_
  refine s_Mdl_pass_97 ?_
  refine s_Mdl_pass_98 (by first | exact rf_wait hR | rfl) (by exact rk_wait hR) (by rw [rn_wait hR]; exact n_in (a := (8 * (4 * t + (s.2 (100 + t)).length))) (by first | rfl | (simp only [nl_1, nl_2, nl_3, nl_4, nl_5, nl_6, nl_7, nl_8, nl_9, nl_10, nl_11, nl_12, nl_13, nl_14, nl_15, nl_16, nl_32, nl_240, nl_250, nl_255, nl_265, nl_270, nl_0, nI_add, pk_mul]; done)) (by omega) (by omega)) ?_
  refine ex_ixs (q := (8 * (4 * t + (s.2 (100 + t)).length))) (by first | rfl | (simp only [nl_1, nl_2, nl_3, nl_4, nl_5, nl_6, nl_7, nl_8, nl_9, nl_10, nl_11, nl_12, nl_13, nl_14, nl_15, nl_16, nl_32, nl_240, nl_250, nl_255, nl_265, nl_270, nl_0, nI_add, pk_mul]; done)) (by omega) ?_
  refine s_Mdl_pass_99 ?_
  refine s_Mdl_pass_100 (by first | rfl | assumption | (simp [*]; done)) (by first | rfl | assumption | (simp [*]; done)) ?_
  refine s_Mdl_pass_103 ?_
  refine s_Mdl_pass_105 ?_
  refine s_Mdl_pass_106 ?_
  refine s_Mdl_pass_107 ?_
  refine s_Mdl_pass_108 (by first | exact rf_wait hR | rfl) (by exact rk_wait hR) (by rw [rn_wait hR]; exact n_in (a := ((8 * (4 * t + (s.2 (100 + t)).length)) + 1)) (by first | rfl | (simp only [nl_1, nl_2, nl_3, nl_4, nl_5, nl_6, nl_7, nl_8, nl_9, nl_10, nl_11, nl_12, nl_13, nl_14, nl_15, nl_16, nl_32, nl_240, nl_250, nl_255, nl_265, nl_270, nl_0, nI_add, pk_mul]; done)) (by omega) (by omega)) ?_
  refine ex_ixs (q := ((8 * (4 * t + (s.2 (100 + t)).length)) + 1)) (by first | rfl | (simp only [nl_1, nl_2, nl_3, nl_4, nl_5, nl_6, nl_7, nl_8, nl_9, nl_10, nl_11, nl_12, nl_13, nl_14, nl_15, nl_16, nl_32, nl_240, nl_250, nl_255, nl_265, nl_270, nl_0, nI_add, pk_mul]; done)) (by omega) ?_
  refine s_Mdl_pass_109 ?_
  refine s_Mdl_pass_110 (by first | rfl | assumption | (simp [*]; done)) (by first | rfl | assumption | (simp [*]; done)) ?_
  refine s_Mdl_pass_113 ?_
  refine s_Mdl_pass_115 ?_
  refine s_Mdl_pass_116 ?_
  refine s_Mdl_pass_117 ?_
  refine s_Mdl_pass_118 (by first | exact rf_wait hR | rfl) (by exact rk_wait hR) (by rw [rn_wait hR]; exact n_in (a := ((8 * (4 * t + (s.2 (100 + t)).length)) + 2)) (by first | rfl | (simp only [nl_1, nl_2, nl_3, nl_4, nl_5, nl_6, nl_7, nl_8, nl_9, nl_10, nl_11, nl_12, nl_13, nl_14, nl_15, nl_16, nl_32, nl_240, nl_250, nl_255, nl_265, nl_270, nl_0, nI_add, pk_mul]; done)) (by omega) (by omega)) ?_
  refine ex_ixs (q := ((8 * (4 * t + (s.2 (100 + t)).length)) + 2)) (by first | rfl | (simp only [nl_1, nl_2, nl_3, nl_4, nl_5, nl_6, nl_7, nl_8, nl_9, nl_10, nl_11, nl_12, nl_13, nl_14, nl_15, nl_16, nl_32, nl_240, nl_250, nl_255, nl_265, nl_270, nl_0, nI_add, pk_mul]; done)) (by omega) ?_
  refine s_Mdl_pass_119 ?_
  refine s_Mdl_pass_120 (by first | rfl | assumption | (simp [*]; done)) (by first | rfl | assumption | (simp [*]; done)) ?_
  refine s_Mdl_pass_123 ?_
  refine s_Mdl_pass_125 ?_
  refine s_Mdl_pass_126 ?_
  refine s_Mdl_pass_127 ?_
  refine s_Mdl_pass_129 (by first | exact rf_wait hR | rfl) (by exact rk_wait hR) (by rw [rn_wait hR]; exact n_in (a := ((8 * (4 * t + (s.2 (100 + t)).length)) + 3)) (by first | rfl | (simp only [nl_1, nl_2, nl_3, nl_4, nl_5, nl_6, nl_7, nl_8, nl_9, nl_10, nl_11, nl_12, nl_13, nl_14, nl_15, nl_16, nl_32, nl_240, nl_250, nl_255, nl_265, nl_270, nl_0, nI_add, pk_mul]; done)) (by omega) (by omega)) ?_
  refine ex_ixs (q := ((8 * (4 * t + (s.2 (100 + t)).length)) + 3)) (by first | rfl | (simp only [nl_1, nl_2, nl_3, nl_4, nl_5, nl_6, nl_7, nl_8, nl_9, nl_10, nl_11, nl_12, nl_13, nl_14, nl_15, nl_16, nl_32, nl_240, nl_250, nl_255, nl_265, nl_270, nl_0, nI_add, pk_mul]; done)) (by omega) ?_
  refine s_Mdl_pass_130 ?_
  refine s_Mdl_pass_131 (by first | rfl | assumption | (simp [*]; done)) (by first | rfl | assumption | (simp [*]; done)) ?_
  refine s_Mdl_pass_134 ?_
  refine s_Mdl_pass_136 ?_
  refine s_Mdl_pass_137 ?_
  refine s_Mdl_pass_138 ?_
  refine s_Mdl_pass_140 (by first | exact rf_wait hR | rfl) (by exact rk_wait hR) (by rw [rn_wait hR]; exact n_in (a := ((8 * (4 * t + (s.2 (100 + t)).length)) + 4)) (by first | rfl | (simp only [nl_1, nl_2, nl_3, nl_4, nl_5, nl_6, nl_7, nl_8, nl_9, nl_10, nl_11, nl_12, nl_13, nl_14, nl_15, nl_16, nl_32, nl_240, nl_250, nl_255, nl_265, nl_270, nl_0, nI_add, pk_mul]; done)) (by omega) (by omega)) ?_
  refine ex_ixs (q := ((8 * (4 * t + (s.2 (100 + t)).length)) + 4)) (by first | rfl | (simp only [nl_1, nl_2, nl_3, nl_4, nl_5, nl_6, nl_7, nl_8, nl_9, nl_10, nl_11, nl_12, nl_13, nl_14, nl_15, nl_16, nl_32, nl_240, nl_250, nl_255, nl_265, nl_270, nl_0, nI_add, pk_mul]; done)) (by omega) ?_
  refine s_Mdl_pass_141 ?_
  refine s_Mdl_pass_142 (by first | rfl | assumption | (simp [*]; done)) (by first | rfl | assumption | (simp [*]; done)) ?_
  refine s_Mdl_pass_145 ?_
  refine s_Mdl_pass_147 ?_
  refine s_Mdl_pass_148 ?_
  refine s_Mdl_pass_149 ?_
  refine s_Mdl_pass_151 (by first | exact rf_wait hR | rfl) (by exact rk_wait hR) (by rw [rn_wait hR]; exact n_in (a := ((8 * (4 * t + (s.2 (100 + t)).length)) + 5)) (by first | rfl | (simp only [nl_1, nl_2, nl_3, nl_4, nl_5, nl_6, nl_7, nl_8, nl_9, nl_10, nl_11, nl_12, nl_13, nl_14, nl_15, nl_16, nl_32, nl_240, nl_250, nl_255, nl_265, nl_270, nl_0, nI_add, pk_mul]; done)) (by omega) (by omega)) ?_
  refine ex_ixs (q := ((8 * (4 * t + (s.2 (100 + t)).length)) + 5)) (by first | rfl | (simp only [nl_1, nl_2, nl_3, nl_4, nl_5, nl_6, nl_7, nl_8, nl_9, nl_10, nl_11, nl_12, nl_13, nl_14, nl_15, nl_16, nl_32, nl_240, nl_250, nl_255, nl_265, nl_270, nl_0, nI_add, pk_mul]; done)) (by omega) ?_
  refine s_Mdl_pass_152 ?_
  refine s_Mdl_pass_153 (by first | rfl | assumption | (simp [*]; done)) (by first | rfl | assumption | (simp [*]; done)) ?_
  refine s_Mdl_pass_156 ?_
  refine s_Mdl_pass_158 ?_
  refine s_Mdl_pass_160 ?_
  refine s_Mdl_pass_161 ?_
  refine s_Mdl_pass_163 (fun h163 => absurd h163 (by decide)) (fun h163 => ?_)
  refine s_Mdl_pass_166 ?_
  refine s_Mdl_pass_167 ?_
  refine s_Mdl_pass_177 (by first | exact rf_wait hR | rfl) (by exact rk_wait hR) (by rw [rn_wait hR]; exact n_in (a := ((8 * (4 * t + (s.2 (100 + t)).length)) + 6)) (by first | rfl | (simp only [nl_1, nl_2, nl_3, nl_4, nl_5, nl_6, nl_7, nl_8, nl_9, nl_10, nl_11, nl_12, nl_13, nl_14, nl_15, nl_16, nl_32, nl_240, nl_250, nl_255, nl_265, nl_270, nl_0, nI_add, pk_mul]; done)) (by omega) (by omega)) ?_
  refine ex_ixs (q := ((8 * (4 * t + (s.2 (100 + t)).length)) + 6)) (by first | rfl | (simp only [nl_1, nl_2, nl_3, nl_4, nl_5, nl_6, nl_7, nl_8, nl_9, nl_10, nl_11, nl_12, nl_13, nl_14, nl_15, nl_16, nl_32, nl_240, nl_250, nl_255, nl_265, nl_270, nl_0, nI_add, pk_mul]; done)) (by omega) ?_
  refine s_Mdl_pass_178 ?_
  refine s_Mdl_pass_179 (by first | rfl | assumption | (simp [*]; done)) (by first | rfl | assumption | (simp [*]; done)) ?_
  refine s_Mdl_pass_182 ?_
  refine s_Mdl_pass_184 ?_
  refine s_Mdl_pass_186 ?_
  refine s_Mdl_pass_187 ?_
  refine s_Mdl_pass_189 (fun h189 => absurd h189 (by decide)) (fun h189 => ?_)
  refine s_Mdl_pass_192 ?_
  refine s_Mdl_pass_193 ?_
  refine s_Mdl_pass_202 (by first | exact rf_wait hR | rfl) (by exact rk_wait hR) (by rw [rn_wait hR]; exact n_in (a := ((8 * (4 * t + (s.2 (100 + t)).length)) + 7)) (by first | rfl | (simp only [nl_1, nl_2, nl_3, nl_4, nl_5, nl_6, nl_7, nl_8, nl_9, nl_10, nl_11, nl_12, nl_13, nl_14, nl_15, nl_16, nl_32, nl_240, nl_250, nl_255, nl_265, nl_270, nl_0, nI_add, pk_mul]; done)) (by omega) (by omega)) ?_
  refine ex_ixs (q := ((8 * (4 * t + (s.2 (100 + t)).length)) + 7)) (by first | rfl | (simp only [nl_1, nl_2, nl_3, nl_4, nl_5, nl_6, nl_7, nl_8, nl_9, nl_10, nl_11, nl_12, nl_13, nl_14, nl_15, nl_16, nl_32, nl_240, nl_250, nl_255, nl_265, nl_270, nl_0, nI_add, pk_mul]; done)) (by omega) ?_
  rw [ex_ui_w I, ex_wi_u, ex_wi_u, ex_wi_u, ex_wi_u, ex_wi_u, ex_wi_u, ex_wi_u]
  refine lp_p3 hR h ht hl (w := prw (s.1 5) r kind p v tag n none) (fun k hk => ?_) (fun j hj => ?_) (fun j hj => ?_)
  · repeat rw [if_neg (by omega)]
  · rcases (by omega : j = 0 ∨ j = 1 ∨ j = 2 ∨ j = 3 ∨ j = 4 ∨ j = 5 ∨ j = 6 ∨ j = 7) with rfl | rfl | rfl | rfl | rfl | rfl | rfl | rfl
    all_goals
      repeat rw [if_neg (by omega)]
      rw [if_pos (by omega)]
      rfl
  · rcases (by omega : j = 0 ∨ j = 1 ∨ j = 2 ∨ j = 3) with rfl | rfl | rfl | rfl
    all_goals rfl
theorem lp_p2s {Γ : ex_G} {d : Nat} {K : ex_K} {I : ex_I} {F : ex_F} {b : Nat} {m : Nat} {ad : Nat → Nat} {s : MS} (hR : rf_ok K F m ad) (h : rr I m ad s) {t e : Nat} {row : Nat → Int32} {r kind p v tag n : Int32} (ht : t < 3) (hl : (s.2 (100 + t)).length < 4) (he : (s.2 14)[e]? = some row) :
    ex_E Γ (d + 3) M_Mdl_pass 91 [some (.inr (some m)), some (.inl r), some (.inl kind), some (.inl p), some (.inl v), some (.inl tag), some (.inl n), some (.inl (nI t)), some (.inl (nI (8 * (4 * t + (s.2 (100 + t)).length)))), some (.inl (nI e)), none] [] K I F b (fun x K' I' F' => x = none ∧ K = K' ∧ F = F' ∧ rr I' m ad (m_ps2 s t (prw (s.1 5) r kind p v tag n (some row)))) := by
  have m1 := hR.1
  obtain ⟨l1, l2, l3⟩ := h.2.2.2.2.2.1
  have le := (List.getElem?_eq_some_iff.mp he).1
  obtain ⟨r1, -⟩ := l3 e row he
  have r10 := r1 0 (by decide)
  have m142 : ad 14 ≠ ad 22 := rf_ne hR (by decide)
  refine s_Mdl_pass_91 ?_
  refine s_Mdl_pass_92 (by first | rfl | assumption | (simp [*]; done)) (by first | rfl | assumption | (simp [*]; done)) ?_
  refine s_Mdl_pass_95 ?_
  refine s_Mdl_pass_97 ?_
  refine s_Mdl_pass_98 (by first | exact rf_wait hR | rfl) (by exact rk_wait hR) (by rw [rn_wait hR]; exact n_in (a := (8 * (4 * t + (s.2 (100 + t)).length))) (by first | rfl | (simp only [nl_1, nl_2, nl_3, nl_4, nl_5, nl_6, nl_7, nl_8, nl_9, nl_10, nl_11, nl_12, nl_13, nl_14, nl_15, nl_16, nl_32, nl_240, nl_250, nl_255, nl_265, nl_270, nl_0, nI_add, pk_mul]; done)) (by omega) (by omega)) ?_
  refine ex_ixs (q := (8 * (4 * t + (s.2 (100 + t)).length))) (by first | rfl | (simp only [nl_1, nl_2, nl_3, nl_4, nl_5, nl_6, nl_7, nl_8, nl_9, nl_10, nl_11, nl_12, nl_13, nl_14, nl_15, nl_16, nl_32, nl_240, nl_250, nl_255, nl_265, nl_270, nl_0, nI_add, pk_mul]; done)) (by omega) ?_
  refine s_Mdl_pass_99 ?_
  refine s_Mdl_pass_100 (by first | rfl | assumption | (simp [*]; done)) (by first | rfl | assumption | (simp [*]; done)) ?_
  refine s_Mdl_pass_103 ?_
  refine s_Mdl_pass_105 ?_
  refine s_Mdl_pass_106 ?_
  refine s_Mdl_pass_107 ?_
  refine s_Mdl_pass_108 (by first | exact rf_wait hR | rfl) (by exact rk_wait hR) (by rw [rn_wait hR]; exact n_in (a := ((8 * (4 * t + (s.2 (100 + t)).length)) + 1)) (by first | rfl | (simp only [nl_1, nl_2, nl_3, nl_4, nl_5, nl_6, nl_7, nl_8, nl_9, nl_10, nl_11, nl_12, nl_13, nl_14, nl_15, nl_16, nl_32, nl_240, nl_250, nl_255, nl_265, nl_270, nl_0, nI_add, pk_mul]; done)) (by omega) (by omega)) ?_
  refine ex_ixs (q := ((8 * (4 * t + (s.2 (100 + t)).length)) + 1)) (by first | rfl | (simp only [nl_1, nl_2, nl_3, nl_4, nl_5, nl_6, nl_7, nl_8, nl_9, nl_10, nl_11, nl_12, nl_13, nl_14, nl_15, nl_16, nl_32, nl_240, nl_250, nl_255, nl_265, nl_270, nl_0, nI_add, pk_mul]; done)) (by omega) ?_
  refine s_Mdl_pass_109 ?_
  refine s_Mdl_pass_110 (by first | rfl | assumption | (simp [*]; done)) (by first | rfl | assumption | (simp [*]; done)) ?_
  refine s_Mdl_pass_113 ?_
  refine s_Mdl_pass_115 ?_
  refine s_Mdl_pass_116 ?_
  refine s_Mdl_pass_117 ?_
  refine s_Mdl_pass_118 (by first | exact rf_wait hR | rfl) (by exact rk_wait hR) (by rw [rn_wait hR]; exact n_in (a := ((8 * (4 * t + (s.2 (100 + t)).length)) + 2)) (by first | rfl | (simp only [nl_1, nl_2, nl_3, nl_4, nl_5, nl_6, nl_7, nl_8, nl_9, nl_10, nl_11, nl_12, nl_13, nl_14, nl_15, nl_16, nl_32, nl_240, nl_250, nl_255, nl_265, nl_270, nl_0, nI_add, pk_mul]; done)) (by omega) (by omega)) ?_
  refine ex_ixs (q := ((8 * (4 * t + (s.2 (100 + t)).length)) + 2)) (by first | rfl | (simp only [nl_1, nl_2, nl_3, nl_4, nl_5, nl_6, nl_7, nl_8, nl_9, nl_10, nl_11, nl_12, nl_13, nl_14, nl_15, nl_16, nl_32, nl_240, nl_250, nl_255, nl_265, nl_270, nl_0, nI_add, pk_mul]; done)) (by omega) ?_
  refine s_Mdl_pass_119 ?_
  refine s_Mdl_pass_120 (by first | rfl | assumption | (simp [*]; done)) (by first | rfl | assumption | (simp [*]; done)) ?_
  refine s_Mdl_pass_123 ?_
  refine s_Mdl_pass_125 ?_
  refine s_Mdl_pass_126 ?_
  refine s_Mdl_pass_127 ?_
  refine s_Mdl_pass_129 (by first | exact rf_wait hR | rfl) (by exact rk_wait hR) (by rw [rn_wait hR]; exact n_in (a := ((8 * (4 * t + (s.2 (100 + t)).length)) + 3)) (by first | rfl | (simp only [nl_1, nl_2, nl_3, nl_4, nl_5, nl_6, nl_7, nl_8, nl_9, nl_10, nl_11, nl_12, nl_13, nl_14, nl_15, nl_16, nl_32, nl_240, nl_250, nl_255, nl_265, nl_270, nl_0, nI_add, pk_mul]; done)) (by omega) (by omega)) ?_
  refine ex_ixs (q := ((8 * (4 * t + (s.2 (100 + t)).length)) + 3)) (by first | rfl | (simp only [nl_1, nl_2, nl_3, nl_4, nl_5, nl_6, nl_7, nl_8, nl_9, nl_10, nl_11, nl_12, nl_13, nl_14, nl_15, nl_16, nl_32, nl_240, nl_250, nl_255, nl_265, nl_270, nl_0, nI_add, pk_mul]; done)) (by omega) ?_
  refine s_Mdl_pass_130 ?_
  refine s_Mdl_pass_131 (by first | rfl | assumption | (simp [*]; done)) (by first | rfl | assumption | (simp [*]; done)) ?_
  refine s_Mdl_pass_134 ?_
  refine s_Mdl_pass_136 ?_
  refine s_Mdl_pass_137 ?_
  refine s_Mdl_pass_138 ?_
  refine s_Mdl_pass_140 (by first | exact rf_wait hR | rfl) (by exact rk_wait hR) (by rw [rn_wait hR]; exact n_in (a := ((8 * (4 * t + (s.2 (100 + t)).length)) + 4)) (by first | rfl | (simp only [nl_1, nl_2, nl_3, nl_4, nl_5, nl_6, nl_7, nl_8, nl_9, nl_10, nl_11, nl_12, nl_13, nl_14, nl_15, nl_16, nl_32, nl_240, nl_250, nl_255, nl_265, nl_270, nl_0, nI_add, pk_mul]; done)) (by omega) (by omega)) ?_
  refine ex_ixs (q := ((8 * (4 * t + (s.2 (100 + t)).length)) + 4)) (by first | rfl | (simp only [nl_1, nl_2, nl_3, nl_4, nl_5, nl_6, nl_7, nl_8, nl_9, nl_10, nl_11, nl_12, nl_13, nl_14, nl_15, nl_16, nl_32, nl_240, nl_250, nl_255, nl_265, nl_270, nl_0, nI_add, pk_mul]; done)) (by omega) ?_
  refine s_Mdl_pass_141 ?_
  refine s_Mdl_pass_142 (by first | rfl | assumption | (simp [*]; done)) (by first | rfl | assumption | (simp [*]; done)) ?_
  refine s_Mdl_pass_145 ?_
  refine s_Mdl_pass_147 ?_
  refine s_Mdl_pass_148 ?_
  refine s_Mdl_pass_149 ?_
  refine s_Mdl_pass_151 (by first | exact rf_wait hR | rfl) (by exact rk_wait hR) (by rw [rn_wait hR]; exact n_in (a := ((8 * (4 * t + (s.2 (100 + t)).length)) + 5)) (by first | rfl | (simp only [nl_1, nl_2, nl_3, nl_4, nl_5, nl_6, nl_7, nl_8, nl_9, nl_10, nl_11, nl_12, nl_13, nl_14, nl_15, nl_16, nl_32, nl_240, nl_250, nl_255, nl_265, nl_270, nl_0, nI_add, pk_mul]; done)) (by omega) (by omega)) ?_
  refine ex_ixs (q := ((8 * (4 * t + (s.2 (100 + t)).length)) + 5)) (by first | rfl | (simp only [nl_1, nl_2, nl_3, nl_4, nl_5, nl_6, nl_7, nl_8, nl_9, nl_10, nl_11, nl_12, nl_13, nl_14, nl_15, nl_16, nl_32, nl_240, nl_250, nl_255, nl_265, nl_270, nl_0, nI_add, pk_mul]; done)) (by omega) ?_
  refine s_Mdl_pass_152 ?_
  refine s_Mdl_pass_153 (by first | rfl | assumption | (simp [*]; done)) (by first | rfl | assumption | (simp [*]; done)) ?_
  refine s_Mdl_pass_156 ?_
  refine s_Mdl_pass_158 ?_
  refine s_Mdl_pass_160 ?_
  refine s_Mdl_pass_161 ?_
  refine s_Mdl_pass_163 (fun h163 => ?_) (fun h163 => absurd h163 (by exact fun q => q (Int32.not_lt.mp (nI_pos (by omega)))))
  refine s_Mdl_pass_170 ?_
  refine s_Mdl_pass_171 ?_
  refine s_Mdl_pass_173 ?_
  refine s_Mdl_pass_174 (b1 := 0) (b2 := _) (by first | rfl | assumption | (simp [*]; done)) (by first | rfl | assumption | (simp [*]; done)) (Q1 := fun r K' I' F' => ex_E _ _ M_Mdl_pass 177 _ (r.toList ++ _) K' I' F' _ _) ?_ (fun _ _ _ _ hq => hq) (Nat.le_of_eq (Nat.zero_add _))
  refine s_Mdl_part_0 ?_
  refine s_Mdl_part_1 (by first | rfl | assumption | (simp [*]; done)) (by first | rfl | assumption | (simp [*]; done)) ?_
  refine s_Mdl_part_4 ?_
  refine s_Mdl_part_6 ?_
  refine s_Mdl_part_7 ?_
  refine s_Mdl_part_8 ?_
  refine s_Mdl_part_9 ?_
  refine s_Mdl_part_10 (by first | exact rf_entry hR | rfl) (by exact rk_entry hR) (by rw [rn_entry hR]; exact n_in (a := ((8 * e) + 0)) (by first | rfl | (simp only [nl_1, nl_2, nl_3, nl_4, nl_5, nl_6, nl_7, nl_8, nl_9, nl_10, nl_11, nl_12, nl_13, nl_14, nl_15, nl_16, nl_32, nl_240, nl_250, nl_255, nl_265, nl_270, nl_0, nI_add, pk_mul]; done)) (by omega) (by omega)) ?_
  refine ex_ixl (q := ((8 * e) + 0)) (by first | rfl | (simp only [nl_1, nl_2, nl_3, nl_4, nl_5, nl_6, nl_7, nl_8, nl_9, nl_10, nl_11, nl_12, nl_13, nl_14, nl_15, nl_16, nl_32, nl_240, nl_250, nl_255, nl_265, nl_270, nl_0, nI_add, pk_mul]; done)) (by omega) ?_
  refine s_Mdl_part_11 ?_
  dsimp only [Option.toList, List.cons_append, List.nil_append]
  simp only [ex_ui_ne _ _ _ _ m142]
  rw [r10]
  refine s_Mdl_pass_177 (by first | exact rf_wait hR | rfl) (by exact rk_wait hR) (by rw [rn_wait hR]; exact n_in (a := ((8 * (4 * t + (s.2 (100 + t)).length)) + 6)) (by first | rfl | (simp only [nl_1, nl_2, nl_3, nl_4, nl_5, nl_6, nl_7, nl_8, nl_9, nl_10, nl_11, nl_12, nl_13, nl_14, nl_15, nl_16, nl_32, nl_240, nl_250, nl_255, nl_265, nl_270, nl_0, nI_add, pk_mul]; done)) (by omega) (by omega)) ?_
  refine ex_ixs (q := ((8 * (4 * t + (s.2 (100 + t)).length)) + 6)) (by first | rfl | (simp only [nl_1, nl_2, nl_3, nl_4, nl_5, nl_6, nl_7, nl_8, nl_9, nl_10, nl_11, nl_12, nl_13, nl_14, nl_15, nl_16, nl_32, nl_240, nl_250, nl_255, nl_265, nl_270, nl_0, nI_add, pk_mul]; done)) (by omega) ?_
  refine s_Mdl_pass_178 ?_
  refine s_Mdl_pass_179 (by first | rfl | assumption | (simp [*]; done)) (by first | rfl | assumption | (simp [*]; done)) ?_
  refine s_Mdl_pass_182 ?_
  refine s_Mdl_pass_184 ?_
  refine s_Mdl_pass_186 ?_
  refine s_Mdl_pass_187 ?_
  refine s_Mdl_pass_189 (fun h189 => ?_) (fun h189 => absurd h189 (by exact fun q => q (Int32.not_lt.mp (nI_pos (by omega)))))
  refine s_Mdl_pass_196 ?_
  refine s_Mdl_pass_197 ?_
  refine s_Mdl_pass_199 (b1 := 0) (b2 := b) (by first | rfl | assumption | (simp [*]; done)) (by first | rfl | assumption | (simp [*]; done)) (sp_tagOf (d := d + 1) hR (r_ent_fr (fs := []) (as := [22]) (fr_trans (fr_trans (fr_trans (fr_trans (fr_trans (fr_trans (fr_ua hR.2.1 (Or.inl rfl) (by simp)) (fr_ua hR.2.1 (Or.inl rfl) (by simp))) (fr_ua hR.2.1 (Or.inl rfl) (by simp))) (fr_ua hR.2.1 (Or.inl rfl) (by simp))) (fr_ua hR.2.1 (Or.inl rfl) (by simp))) (fr_ua hR.2.1 (Or.inl rfl) (by simp))) (fr_ua hR.2.1 (Or.inl rfl) (by simp))) (by decide) (by decide) (by decide) h.2.2.2.2.2.1) he) ?_ (by omega)
  rintro _ _ _ _ ⟨rfl, rfl, rfl, rfl⟩
  dsimp only [Option.toList, List.cons_append, List.nil_append]
  refine s_Mdl_pass_202 (by first | exact rf_wait hR | rfl) (by exact rk_wait hR) (by rw [rn_wait hR]; exact n_in (a := ((8 * (4 * t + (s.2 (100 + t)).length)) + 7)) (by first | rfl | (simp only [nl_1, nl_2, nl_3, nl_4, nl_5, nl_6, nl_7, nl_8, nl_9, nl_10, nl_11, nl_12, nl_13, nl_14, nl_15, nl_16, nl_32, nl_240, nl_250, nl_255, nl_265, nl_270, nl_0, nI_add, pk_mul]; done)) (by omega) (by omega)) ?_
  refine ex_ixs (q := ((8 * (4 * t + (s.2 (100 + t)).length)) + 7)) (by first | rfl | (simp only [nl_1, nl_2, nl_3, nl_4, nl_5, nl_6, nl_7, nl_8, nl_9, nl_10, nl_11, nl_12, nl_13, nl_14, nl_15, nl_16, nl_32, nl_240, nl_250, nl_255, nl_265, nl_270, nl_0, nI_add, pk_mul]; done)) (by omega) ?_
  rw [ex_ui_w I, ex_wi_u, ex_wi_u, ex_wi_u, ex_wi_u, ex_wi_u, ex_wi_u, ex_wi_u]
  refine lp_p3 hR h ht hl (w := prw (s.1 5) r kind p v tag n (some row)) (fun k hk => ?_) (fun j hj => ?_) (fun j hj => ?_)
  · repeat rw [if_neg (by omega)]
  · rcases (by omega : j = 0 ∨ j = 1 ∨ j = 2 ∨ j = 3 ∨ j = 4 ∨ j = 5 ∨ j = 6 ∨ j = 7) with rfl | rfl | rfl | rfl | rfl | rfl | rfl | rfl
    all_goals
      repeat rw [if_neg (by omega)]
      rw [if_pos (by omega)]
      rfl
  · rcases (by omega : j = 0 ∨ j = 1 ∨ j = 2 ∨ j = 3) with rfl | rfl | rfl | rfl
    all_goals rfl
theorem sp_passR {Γ : ex_G} {d : Nat} {K : ex_K} {I : ex_I} {F : ex_F} {b : Nat} {m : Nat} {ad : Nat → Nat} {s : MS} (hR : rf_ok K F m ad) (h : rr I m ad s) {p : Nat} {r kind v tag n : Int32} (hp : p < 8) :
    ex_E Γ (d + 3) M_Mdl_pass 0 [some (.inr (some m)), some (.inl r), some (.inl kind), some (.inl (nI p)), some (.inl v), some (.inl tag), some (.inl n), none, none, none, none] [] K I F b (fun x K' I' F' => x = none ∧ K = K' ∧ F = F' ∧ rr I' m ad (m_pass s r kind p v tag n)) := by
  have m1 := hR.1
  have ho := own_lt p
  have hq := h.2.2.2.2.2.2.2.1 (own p) ho
  have hq1 := hq.1
  have hq2 := hq.2.1
  have hd := h.2.1 27 (by decide)
  refine s_Mdl_pass_0 ?_
  refine s_Mdl_pass_1 ?_
  refine s_Mdl_pass_2 (b1 := 0) (b2 := b) (by first | rfl | assumption | (simp [*]; done)) (by first | rfl | assumption | (simp [*]; done)) (sp_ownerR (d := d + 1) hp) ?_ (by omega)
  rintro _ _ _ _ ⟨rfl, rfl, rfl, rfl⟩
  dsimp only [Option.toList, List.cons_append, List.nil_append]
  refine s_Mdl_pass_5 ?_
  refine s_Mdl_pass_7 ?_
  refine s_Mdl_pass_8 (by first | rfl | assumption | (simp [*]; done)) (by first | rfl | assumption | (simp [*]; done)) ?_
  refine s_Mdl_pass_11 ?_
  refine s_Mdl_pass_13 (by first | exact rf_down hR | rfl) (by exact rk_down hR) (by rw [rn_down hR]; exact n_in (a := (own p)) (by first | rfl | (simp only [nl_1, nl_2, nl_3, nl_4, nl_5, nl_6, nl_7, nl_8, nl_9, nl_10, nl_11, nl_12, nl_13, nl_14, nl_15, nl_16, nl_32, nl_240, nl_250, nl_255, nl_265, nl_270, nl_0, nI_add, pk_mul]; done)) (by omega) (by omega)) ?_
  refine ex_ixl (q := (own p)) (by first | rfl | (simp only [nl_1, nl_2, nl_3, nl_4, nl_5, nl_6, nl_7, nl_8, nl_9, nl_10, nl_11, nl_12, nl_13, nl_14, nl_15, nl_16, nl_32, nl_240, nl_250, nl_255, nl_265, nl_270, nl_0, nI_add, pk_mul]; done)) (by omega) ?_
  rw [hd]
  refine s_Mdl_pass_14 (fun h14 => ?_) (fun h14 => ?_)
  · refine s_Mdl_pass_28 ?_
    refine s_Mdl_pass_29 ?_
    refine s_Mdl_pass_30 ?_
    refine s_Mdl_pass_31 (by first | rfl | assumption | (simp [*]; done)) (by first | rfl | assumption | (simp [*]; done)) ?_
    refine s_Mdl_pass_34 ?_
    refine s_Mdl_pass_36 (by first | exact rf_down hR | rfl) (by exact rk_down hR) (by rw [rn_down hR]; exact n_in (a := (own p)) (by first | rfl | (simp only [nl_1, nl_2, nl_3, nl_4, nl_5, nl_6, nl_7, nl_8, nl_9, nl_10, nl_11, nl_12, nl_13, nl_14, nl_15, nl_16, nl_32, nl_240, nl_250, nl_255, nl_265, nl_270, nl_0, nI_add, pk_mul]; done)) (by omega) (by omega)) ?_
    refine ex_ixl (q := (own p)) (by first | rfl | (simp only [nl_1, nl_2, nl_3, nl_4, nl_5, nl_6, nl_7, nl_8, nl_9, nl_10, nl_11, nl_12, nl_13, nl_14, nl_15, nl_16, nl_32, nl_240, nl_250, nl_255, nl_265, nl_270, nl_0, nI_add, pk_mul]; done)) (by omega) ?_
    rw [hd]
    refine s_Mdl_pass_37 (fun h37 => ?_) (fun h37 => ?_)
    · refine s_Mdl_pass_46 ?_
      refine s_Mdl_pass_49 ?_
      refine s_Mdl_pass_50 ?_
      refine s_Mdl_pass_51 ?_
      refine s_Mdl_pass_52 (b1 := 0) (b2 := b) (by first | rfl | assumption | (simp [*]; done)) (by first | rfl | assumption | (simp [*]; done)) (sp_repR hR h) ?_ (by omega)
      rintro _ _ _ _ ⟨rfl, rfl, rfl, k⟩
      dsimp only [Option.toList, List.cons_append, List.nil_append]
      refine s_Mdl_pass_55 ?_
      exact absurd h37 h14
    · refine s_Mdl_pass_40 ?_
      refine s_Mdl_pass_43 ?_
      refine s_Mdl_pass_49 ?_
      refine s_Mdl_pass_50 ?_
      refine s_Mdl_pass_51 ?_
      refine s_Mdl_pass_52 (b1 := 0) (b2 := b) (by first | rfl | assumption | (simp [*]; done)) (by first | rfl | assumption | (simp [*]; done)) (sp_repR hR h) ?_ (by omega)
      rintro _ _ _ _ ⟨rfl, rfl, rfl, k⟩
      dsimp only [Option.toList, List.cons_append, List.nil_append]
      refine s_Mdl_pass_55 ?_
      refine ⟨rfl, rfl, rfl, ?_⟩
      unfold m_pass
      rw [if_neg h14]
      exact k
  · refine s_Mdl_pass_17 ?_
    refine s_Mdl_pass_18 (by first | rfl | assumption | (simp [*]; done)) (by first | rfl | assumption | (simp [*]; done)) ?_
    refine s_Mdl_pass_21 ?_
    refine s_Mdl_pass_23 (by first | exact rf_count hR | rfl) (by exact rk_count hR) (by rw [rn_count hR]; exact n_in (a := (own p)) (by first | rfl | (simp only [nl_1, nl_2, nl_3, nl_4, nl_5, nl_6, nl_7, nl_8, nl_9, nl_10, nl_11, nl_12, nl_13, nl_14, nl_15, nl_16, nl_32, nl_240, nl_250, nl_255, nl_265, nl_270, nl_0, nI_add, pk_mul]; done)) (by omega) (by omega)) ?_
    refine ex_ixl (q := (own p)) (by first | rfl | (simp only [nl_1, nl_2, nl_3, nl_4, nl_5, nl_6, nl_7, nl_8, nl_9, nl_10, nl_11, nl_12, nl_13, nl_14, nl_15, nl_16, nl_32, nl_240, nl_250, nl_255, nl_265, nl_270, nl_0, nI_add, pk_mul]; done)) (by omega) ?_
    refine s_Mdl_pass_24 ?_
    rw [hq1]
    refine s_Mdl_pass_25 (fun h25 => ?_) (fun h25 => ?_)
    · refine s_Mdl_pass_56 ?_
      refine s_Mdl_pass_58 ?_
      refine s_Mdl_pass_59 ?_
      refine s_Mdl_pass_61 ?_
      refine s_Mdl_pass_62 ?_
      refine s_Mdl_pass_63 (by first | rfl | assumption | (simp [*]; done)) (by first | rfl | assumption | (simp [*]; done)) ?_
      refine s_Mdl_pass_66 ?_
      refine s_Mdl_pass_68 (by first | exact rf_count hR | rfl) (by exact rk_count hR) (by rw [rn_count hR]; exact n_in (a := (own p)) (by first | rfl | (simp only [nl_1, nl_2, nl_3, nl_4, nl_5, nl_6, nl_7, nl_8, nl_9, nl_10, nl_11, nl_12, nl_13, nl_14, nl_15, nl_16, nl_32, nl_240, nl_250, nl_255, nl_265, nl_270, nl_0, nI_add, pk_mul]; done)) (by omega) (by omega)) ?_
      refine ex_ixl (q := (own p)) (by first | rfl | (simp only [nl_1, nl_2, nl_3, nl_4, nl_5, nl_6, nl_7, nl_8, nl_9, nl_10, nl_11, nl_12, nl_13, nl_14, nl_15, nl_16, nl_32, nl_240, nl_250, nl_255, nl_265, nl_270, nl_0, nI_add, pk_mul]; done)) (by omega) ?_
      rw [hq1]
      refine s_Mdl_pass_69 ?_
      refine s_Mdl_pass_70 ?_
      refine s_Mdl_pass_71 ?_
      have e8 : (8 : Int32) * (4 * nI (own p) + nI (s.2 (100 + own p)).length) = nI (8 * (4 * own p + (s.2 (100 + own p)).length)) := by simp only [nl_8, nl_4, pk_mul, nI_add]
      rw [e8]
      refine s_Mdl_pass_73 ?_
      refine s_Mdl_pass_74 ?_
      refine s_Mdl_pass_75 (fun h75 => ?_) (fun h75 => ?_)
      · refine s_Mdl_pass_88 ?_
        refine s_Mdl_pass_89 ?_
        have hl : (s.2 (100 + own p)).length < 4 := by
          have : ¬ (s.2 (100 + own p)).length = 4 := fun z => h25 (by rw [z]; rfl)
          omega
        refine ex_post (fun x K' I' F' z => ?_) (lp_p2n hR h ho hl)
        obtain ⟨z1, z2, z3, z4⟩ := z
        refine ⟨z1, z2, z3, ?_⟩
        unfold m_pass m_ent
        rw [if_pos h14, if_neg (by omega), if_neg h75]
        exact z4
      · skip
        refine s_Mdl_pass_78 ?_
        refine s_Mdl_pass_79 ?_
        refine s_Mdl_pass_80 ?_
        refine s_Mdl_pass_82 (b1 := 0) (b2 := b) (by first | rfl | assumption | (simp [*]; done)) (by first | rfl | assumption | (simp [*]; done)) (sp_find hR h.2.2.2.2.2.1) ?_ (by omega)
        rintro _ _ _ _ ⟨rfl, rfl, rfl, rfl⟩
        dsimp only [Option.toList, List.cons_append, List.nil_append]
        refine s_Mdl_pass_85 ?_
        refine s_Mdl_pass_89 ?_
        have hl : (s.2 (100 + own p)).length < 4 := by
          have : ¬ (s.2 (100 + own p)).length = 4 := fun z => h25 (by rw [z]; rfl)
          omega
        unfold m_pass m_ent
        rw [if_pos h14, if_neg (by omega), if_pos h75]
        cases hf : fix (mtb (nI p) v) (s.2 14) 0 with
        | none => exact lp_p2n hR h ho hl
        | some e =>
          obtain ⟨-, row, he, -⟩ := fix_some _ _ _ _ hf
          rw [Nat.sub_zero] at he
          dsimp only [Option.bind]
          rw [he]
          exact lp_p2s hR h ho hl he
    · refine s_Mdl_pass_28 ?_
      refine s_Mdl_pass_29 ?_
      refine s_Mdl_pass_30 ?_
      refine s_Mdl_pass_31 (by first | rfl | assumption | (simp [*]; done)) (by first | rfl | assumption | (simp [*]; done)) ?_
      refine s_Mdl_pass_34 ?_
      refine s_Mdl_pass_36 (by first | exact rf_down hR | rfl) (by exact rk_down hR) (by rw [rn_down hR]; exact n_in (a := (own p)) (by first | rfl | (simp only [nl_1, nl_2, nl_3, nl_4, nl_5, nl_6, nl_7, nl_8, nl_9, nl_10, nl_11, nl_12, nl_13, nl_14, nl_15, nl_16, nl_32, nl_240, nl_250, nl_255, nl_265, nl_270, nl_0, nI_add, pk_mul]; done)) (by omega) (by omega)) ?_
      refine ex_ixl (q := (own p)) (by first | rfl | (simp only [nl_1, nl_2, nl_3, nl_4, nl_5, nl_6, nl_7, nl_8, nl_9, nl_10, nl_11, nl_12, nl_13, nl_14, nl_15, nl_16, nl_32, nl_240, nl_250, nl_255, nl_265, nl_270, nl_0, nI_add, pk_mul]; done)) (by omega) ?_
      rw [hd]
      refine s_Mdl_pass_37 (fun h37 => ?_) (fun h37 => ?_)
      · refine s_Mdl_pass_46 ?_
        refine s_Mdl_pass_49 ?_
        refine s_Mdl_pass_50 ?_
        refine s_Mdl_pass_51 ?_
        refine s_Mdl_pass_52 (b1 := 0) (b2 := b) (by first | rfl | assumption | (simp [*]; done)) (by first | rfl | assumption | (simp [*]; done)) (sp_repR hR h) ?_ (by omega)
        rintro _ _ _ _ ⟨rfl, rfl, rfl, k⟩
        dsimp only [Option.toList, List.cons_append, List.nil_append]
        refine s_Mdl_pass_55 ?_
        refine ⟨rfl, rfl, rfl, ?_⟩
        unfold m_pass
        rw [if_pos h14, if_pos ((n_eq rfl nl_4 (by omega) (by omega)).mp h25)]
        exact k
      · refine s_Mdl_pass_40 ?_
        refine s_Mdl_pass_43 ?_
        refine s_Mdl_pass_49 ?_
        refine s_Mdl_pass_50 ?_
        refine s_Mdl_pass_51 ?_
        refine s_Mdl_pass_52 (b1 := 0) (b2 := b) (by first | rfl | assumption | (simp [*]; done)) (by first | rfl | assumption | (simp [*]; done)) (sp_repR hR h) ?_ (by omega)
        rintro _ _ _ _ ⟨rfl, rfl, rfl, k⟩
        dsimp only [Option.toList, List.cons_append, List.nil_append]
        refine s_Mdl_pass_55 ?_
        exact absurd h14 h37
