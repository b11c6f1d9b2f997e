/-! The reference: what changes; flights, queues -/
def fr (J J' : ex_I) (ad : Nat → Nat) (fs as : List Nat) : Prop := (∀ g, g ∉ fs → g ≠ 21 → g ≠ 23 → J' g = J g) ∧ ∀ j, j ∉ as → (J' 21 (ad j) = J 21 (ad j) ∧ J' 23 (ad j) = J 23 (ad j))
theorem fr_rfl {J : ex_I} {ad : Nat → Nat} {fs as : List Nat} : fr J J ad fs as := ⟨fun _ _ _ _ => rfl, fun _ _ => ⟨rfl, rfl⟩⟩
theorem fr_mono {J J' : ex_I} {ad : Nat → Nat} {fs as fs' as' : List Nat} (h : fr J J' ad fs as) (h1 : ∀ x, x ∈ fs → x ∈ fs') (h2 : ∀ x, x ∈ as → x ∈ as') : fr J J' ad fs' as' := ⟨fun g a => h.1 g (fun z => a (h1 g z)), fun j a => h.2 j (fun z => a (h2 j z))⟩
theorem fr_trans {J J' J'' : ex_I} {ad : Nat → Nat} {fs as : List Nat} (h : fr J J' ad fs as) (h' : fr J' J'' ad fs as) : fr J J'' ad fs as := ⟨fun g a b c => (h'.1 g a b c).trans (h.1 g a b c), fun j a => ⟨(h'.2 j a).1.trans (h.2 j a).1, (h'.2 j a).2.trans (h.2 j a).2⟩⟩
theorem fr_e {J J' : ex_I} {ad : Nat → Nat} (hi : ∀ i j, ad i = ad j → i = j) (h : e_fr J J' ad) : fr J J' ad [816] [14, 15] := by
  refine ⟨fun g a b c => ?_, fun j a => ⟨?_, ?_⟩⟩
  · exact h.1 g (by simpa using a) b
  · refine h.2 _ (fun z => a ?_) (fun z => a ?_)
    · rw [hi _ _ z]; decide
    · rw [hi _ _ z]; decide
  · rw [h.1 23 (by decide) (by decide)]
/-- a write of a field -/
theorem fr_ui {J : ex_I} {ad : Nat → Nat} {g m i : Nat} {x : Int32} {fs as : List Nat} (hg : g ∈ fs) (h1 : g ≠ 21) (h3 : g ≠ 23) : fr J (ex_ui J g m i x) ad fs as := ⟨fun g' a _ _ => ex_ui_f _ _ _ _ (fun z => a (by rw [z]; exact hg)), fun j _ => ⟨by rw [ex_ui_f _ _ _ _ (Ne.symm h1)], by rw [ex_ui_f _ _ _ _ (Ne.symm h3)]⟩⟩
/-- a write into an array -/
theorem fr_wa {J : ex_I} {ad : Nat → Nat} {g k : Nat} {X : Nat → Int32} {fs as : List Nat} (hi : ∀ i j, ad i = ad j → i = j) (hg : g = 21 ∨ g = 23) (hk : k ∈ as) : fr J (ex_wi J g (ad k) X) ad fs as := by
  refine ⟨fun g' _ b c => ex_wi_f _ _ _ (by rcases hg with rfl | rfl <;> assumption), fun j a => ?_⟩
  have hne : ad j ≠ ad k := fun z => a (by rw [hi _ _ z]; exact hk)
  exact ⟨ex_wi_ne _ _ _ hne _, ex_wi_ne _ _ _ hne _⟩
theorem fr_ua {J : ex_I} {ad : Nat → Nat} {g k i : Nat} {x : Int32} {fs as : List Nat} (hi : ∀ i j, ad i = ad j → i = j) (hg : g = 21 ∨ g = 23) (hk : k ∈ as) : fr J (ex_ui J g (ad k) i x) ad fs as := by
  rw [ex_ui_w]
  exact fr_wa hi hg hk
theorem r_ent_fr {J J' : ex_I} {m : Nat} {ad : Nat → Nat} {fs as : List Nat} {L : List (Nat → Int32)} (h : fr J J' ad fs as) (h1 : 816 ∉ fs) (h2 : 14 ∉ as) (h3 : 15 ∉ as) (hL : r_ent J m ad L) : r_ent J' m ad L := by
  unfold r_ent
  rw [h.1 _ h1 (by decide) (by decide), (h.2 _ h2).1, (h.2 _ h3).1]
  exact hL
def r_fly (J : ex_I) (m : Nat) (ad : Nat → Nat) (U : List (Nat → Int32)) : Prop := J 834 m 0 = nI U.length ∧ U.length ≤ 16 ∧ ∀ e row, U[e]? = some row → ∀ j, j < 15 → J 21 (ad 31) (15 * e + j) = row j
theorem r_fly_fr {J J' : ex_I} {m : Nat} {ad : Nat → Nat} {fs as : List Nat} {U : List (Nat → Int32)} (h : fr J J' ad fs as) (h1 : 834 ∉ fs) (h2 : 31 ∉ as) (hL : r_fly J m ad U) : r_fly J' m ad U := by
  unfold r_fly
  rw [h.1 _ h1 (by decide) (by decide), (h.2 _ h2).1]
  exact hL
def r_que (J : ex_I) (ad : Nat → Nat) (t : Nat) (Q : List (Nat → Int32)) : Prop := J 21 (ad 21) t = nI Q.length ∧ Q.length ≤ 4 ∧ ∀ e row, Q[e]? = some row → (∀ j, j < 8 → J 21 (ad 22) (32 * t + 8 * e + j) = row j) ∧ ∀ q, q < 4 → J 21 (ad 23) (16 * t + 4 * e + q) = row (8 + q)
theorem r_que_fr {J J' : ex_I} {t : Nat} {ad : Nat → Nat} {fs as : List Nat} {Q : List (Nat → Int32)} (h : fr J J' ad fs as) (h1 : 21 ∉ as) (h2 : 22 ∉ as) (h3 : 23 ∉ as) (hL : r_que J ad t Q) : r_que J' ad t Q := by
  unfold r_que
  rw [(h.2 _ h1).1, (h.2 _ h2).1, (h.2 _ h3).1]
  exact hL
/-- an answer is written down, if it is kept -/
def o_rep (J : ex_I) (m : Nat) (ad : Nat → Nat) (r c t a w : Int32) : ex_I := if J 820 m 0 - 16 < r then ex_ui (ex_ui (ex_ui (ex_ui J 21 (ad 17) (r &&& 15).toNatClampNeg c) 21 (ad 18) (r &&& 15).toNatClampNeg t) 21 (ad 19) (r &&& 15).toNatClampNeg a) 21 (ad 20) (r &&& 15).toNatClampNeg w else J
theorem fr_rep {J : ex_I} {m : Nat} {ad : Nat → Nat} (hi : ∀ i j, ad i = ad j → i = j) (r c t a w : Int32) : fr J (o_rep J m ad r c t a w) ad [] [17, 18, 19, 20] := by
  unfold o_rep
  split
  · exact fr_trans (fr_trans (fr_trans (fr_ua hi (Or.inl rfl) (by decide)) (fr_ua hi (Or.inl rfl) (by decide))) (fr_ua hi (Or.inl rfl) (by decide))) (fr_ua hi (Or.inl rfl) (by decide))
  · exact fr_rfl
theorem sp_reply {Γ : ex_G} {d : Nat} {K : ex_K} {I : ex_I} {F : ex_F} {b : Nat} {m : Nat} {r c t a w : Int32} {ad : Nat → Nat} (hR : rf_ok K F m ad) :
    ex_E Γ d M_Mdl_reply 0 [some (.inr (some m)), some (.inl r), some (.inl c), some (.inl t), some (.inl a), some (.inl w)] [] K I F b (fun x K' I' F' => x = none ∧ K = K' ∧ F = F' ∧ o_rep I m ad r c t a w = I') := by
  have m1 := hR.1
  have hin : vp_in (r &&& 15) 16 := pk_andIn r (m := 15) 4 (by decide) (by decide)
  refine s_Mdl_reply_0 ?_
  refine s_Mdl_reply_1 ?_
  refine s_Mdl_reply_2 (by first | rfl | assumption | (simp [*]; done)) (by first | rfl | assumption | (simp [*]; done)) ?_
  refine s_Mdl_reply_5 ?_
  refine s_Mdl_reply_7 ?_
  refine s_Mdl_reply_8 (fun h8 => ?_) (fun h8 => ?_)
  · refine s_Mdl_reply_12 ?_
    refine s_Mdl_reply_13 (by first | rfl | assumption | (simp [*]; done)) (by first | rfl | assumption | (simp [*]; done)) ?_
    refine s_Mdl_reply_16 ?_
    refine s_Mdl_reply_17 ?_
    refine s_Mdl_reply_19 ?_
    refine s_Mdl_reply_20 ?_
    refine s_Mdl_reply_21 (by first | exact rf_status hR | rfl) (by exact rk_status hR) (by rw [rn_status hR]; exact hin) ?_
    refine s_Mdl_reply_22 ?_
    refine s_Mdl_reply_23 (by first | rfl | assumption | (simp [*]; done)) (by first | rfl | assumption | (simp [*]; done)) ?_
    refine s_Mdl_reply_26 ?_
    refine s_Mdl_reply_27 ?_
    refine s_Mdl_reply_29 ?_
    refine s_Mdl_reply_30 ?_
    refine s_Mdl_reply_31 (by first | exact rf_tag hR | rfl) (by exact rk_tag hR) (by rw [rn_tag hR]; exact hin) ?_
    refine s_Mdl_reply_32 ?_
    refine s_Mdl_reply_33 (by first | rfl | assumption | (simp [*]; done)) (by first | rfl | assumption | (simp [*]; done)) ?_
    refine s_Mdl_reply_36 ?_
    refine s_Mdl_reply_37 ?_
    refine s_Mdl_reply_39 ?_
    refine s_Mdl_reply_40 ?_
    refine s_Mdl_reply_42 (by first | exact rf_age hR | rfl) (by exact rk_age hR) (by rw [rn_age hR]; exact hin) ?_
    refine s_Mdl_reply_43 ?_
    refine s_Mdl_reply_44 (by first | rfl | assumption | (simp [*]; done)) (by first | rfl | assumption | (simp [*]; done)) ?_
    refine s_Mdl_reply_47 ?_
    refine s_Mdl_reply_48 ?_
    refine s_Mdl_reply_50 ?_
    refine s_Mdl_reply_51 ?_
    refine s_Mdl_reply_53 (by first | exact rf_way hR | rfl) (by exact rk_way hR) (by rw [rn_way hR]; exact hin) ?_
    refine s_Mdl_reply_54 ?_
    rw [o_rep, if_pos h8]
    exact ⟨rfl, rfl, rfl, rfl⟩
  · refine s_Mdl_reply_11 ?_
    rw [o_rep, if_neg h8]
    exact ⟨rfl, rfl, rfl, rfl⟩
def o_next (J : ex_I) (m : Nat) (ad : Nat → Nat) : ex_I := o_rep (ex_ui J 820 m 0 (J 820 m 0 + 1)) m ad (J 820 m 0 + 1) 0 0 0 0
theorem sp_next {Γ : ex_G} {d : Nat} {K : ex_K} {I : ex_I} {F : ex_F} {b : Nat} {m : Nat} {ad : Nat → Nat} (hR : rf_ok K F m ad) :
    ex_E Γ (d + 1) M_Mdl_next 0 [some (.inr (some m))] [] K I F b (fun x K' I' F' => x = some (.inl (I 820 m 0 + 1)) ∧ K = K' ∧ F = F' ∧ o_next I m ad = I') := by
  have m1 := hR.1
  refine s_Mdl_next_0 ?_
  refine s_Mdl_next_1 ?_
  refine s_Mdl_next_2 (by first | rfl | assumption | (simp [*]; done)) (by first | rfl | assumption | (simp [*]; done)) ?_
  refine s_Mdl_next_5 ?_
  refine s_Mdl_next_6 ?_
  refine s_Mdl_next_7 (by first | rfl | assumption | (simp [*]; done)) (by first | rfl | assumption | (simp [*]; done)) ?_
  refine s_Mdl_next_10 ?_
  refine s_Mdl_next_11 ?_
  refine s_Mdl_next_12 (by first | rfl | assumption | (simp [*]; done)) (by first | rfl | assumption | (simp [*]; done)) ?_
  rw [ex_ui_eq]
  refine s_Mdl_next_15 ?_
  refine s_Mdl_next_16 ?_
  refine s_Mdl_next_17 ?_
  refine s_Mdl_next_18 ?_
  refine s_Mdl_next_19 (b1 := 0) (b2 := b) (by first | rfl | assumption | (simp [*]; done)) (by first | rfl | assumption | (simp [*]; done)) (sp_reply hR) ?_ (by omega)
  rintro _ _ _ _ ⟨rfl, rfl, rfl, rfl⟩
  dsimp only [Option.toList, List.cons_append, List.nil_append]
  refine s_Mdl_next_22 ?_
  refine s_Mdl_next_23 (by first | rfl | assumption | (simp [*]; done)) (by first | rfl | assumption | (simp [*]; done)) ?_
  refine s_Mdl_next_26 ?_
  rw [(fr_rep hR.2.1 _ _ _ _ _).1 _ (by decide) (by decide) (by decide), ex_ui_eq]
  exact ⟨rfl, rfl, rfl, rfl⟩
/-- the row in the making: blank but for four places -/
def bl (X : Nat → Int32) (o a n w : Int32) : Nat → Int32 := fun c => if c = 258 then w else if c = 257 then n else if c = 256 then a else if c = 255 then o else if 255 ≤ c ∧ c < 270 then 0 else X c
theorem lp_blank {Γ : ex_G} {d : Nat} {K : ex_K} {I : ex_I} {F : ex_F} {b : Nat} {Q : Option ex_V → ex_K → ex_I → ex_F → Prop} {l1 l2 l3 l4 : Option ex_V} {m : Nat} {X : Nat → Int32} {ad : Nat → Nat} (hR : rf_ok K F m ad) (kk : ∀ l5, ex_E Γ d M_Mdl_blank 28 [some (.inr (some m)), l1, l2, l3, l4, l5] [] K (ex_wi I 21 (ad 31) (fun c => if 255 ≤ c ∧ c < 270 then 0 else X c)) F b Q) : ∀ n j J, 15 - j = n → j ≤ 15 → J = ex_wi I 21 (ad 31) (fun c => if 255 ≤ c ∧ c < 255 + j then 0 else X c) →
    ex_E Γ d M_Mdl_blank 3 [some (.inr (some m)), l1, l2, l3, l4, some (.inl (nI j))] [] K J F b Q := by
  have m1 := hR.1
  intro n
  induction n with
  | zero =>
    intro j J hn hj hJ
    subst hJ
    have e : j = 15 := by omega
    subst e
    refine s_Mdl_blank_3 ?_
    refine s_Mdl_blank_5 ?_
    refine s_Mdl_blank_7 (fun h7 => ?_) (fun h7 => absurd h7 (by exact fun q => q (nI_le (a := 15) (b := 15) (by omega) (by omega))))
    exact kk _
  | succ n ih =>
    intro j J hn hj hJ
    subst hJ
    refine s_Mdl_blank_3 ?_
    refine s_Mdl_blank_5 ?_
    refine s_Mdl_blank_7 (fun h7 => absurd h7 (by exact nI_ge (a := j) (b := 15) (by omega) (by omega))) (fun h7 => ?_)
    refine s_Mdl_blank_10 ?_
    refine s_Mdl_blank_11 (by first | rfl | assumption | (simp [*]; done)) (by first | rfl | assumption | (simp [*]; done)) ?_
    refine s_Mdl_blank_14 ?_
    refine s_Mdl_blank_17 ?_
    refine s_Mdl_blank_19 ?_
    refine s_Mdl_blank_20 ?_
    refine s_Mdl_blank_21 (by first | exact rf_row hR | rfl) (by exact rk_row hR) (by rw [rn_row hR]; exact n_in (a := (255 + j)) (by first | rfl | (simp only [nl_1, nl_2, nl_3, nl_4, nl_5, nl_6, nl_7, nl_8, nl_9, nl_10, nl_11, nl_12, nl_13, nl_14, nl_15, nl_16, nl_32, nl_240, nl_250, nl_255, nl_265, nl_270, nl_0, nI_add, pk_mul]; done)) (by omega) (by omega)) ?_
    refine ex_ixs (q := (255 + j)) (by first | rfl | (simp only [nl_1, nl_2, nl_3, nl_4, nl_5, nl_6, nl_7, nl_8, nl_9, nl_10, nl_11, nl_12, nl_13, nl_14, nl_15, nl_16, nl_32, nl_240, nl_250, nl_255, nl_265, nl_270, nl_0, nI_add, pk_mul]; done)) (by omega) ?_
    refine s_Mdl_blank_22 ?_
    refine s_Mdl_blank_25 ?_
    rw [ex_wi_u, nI_1]
    refine ih (j + 1) _ (by omega) (by omega) ?_
    congr 1
    funext c
    by_cases e : c = 255 + j
    · rw [if_pos e, if_pos (by omega)]
    · rw [if_neg e]
      by_cases z : 255 ≤ c ∧ c < 255 + j
      · rw [if_pos z, if_pos (by omega)]
      · rw [if_neg z, if_neg (by omega)]
theorem sp_blank {Γ : ex_G} {d : Nat} {K : ex_K} {I : ex_I} {F : ex_F} {b : Nat} {m : Nat} {x1 x2 x3 x4 : Int32} {ad : Nat → Nat} (hR : rf_ok K F m ad) :
    ex_E Γ d M_Mdl_blank 0 [some (.inr (some m)), some (.inl x1), some (.inl x2), some (.inl x3), some (.inl x4), none] [] K I F b (fun x K' I' F' => x = none ∧ K = K' ∧ F = F' ∧ ex_wi I 21 (ad 31) (bl (I 21 (ad 31)) x1 x2 x3 x4) = I') := by
  have m1 := hR.1
  refine s_Mdl_blank_0 ?_
  refine s_Mdl_blank_1 ?_
  refine lp_blank (I := I) (X := I 21 (ad 31)) hR (fun l5 => ?_) 15 0 _ rfl (by omega) (by
    rw [show (fun c => if 255 ≤ c ∧ c < 255 + 0 then 0 else I 21 (ad 31) c) = I 21 (ad 31) by funext c; rw [if_neg (by omega)], ex_wi_id])
  refine s_Mdl_blank_28 ?_
  refine s_Mdl_blank_29 (by first | rfl | assumption | (simp [*]; done)) (by first | rfl | assumption | (simp [*]; done)) ?_
  refine s_Mdl_blank_32 ?_
  refine s_Mdl_blank_35 ?_
  refine s_Mdl_blank_36 (by first | exact rf_row hR | rfl) (by exact rk_row hR) (by rw [rn_row hR]; exact n_in (a := 255) (by first | rfl | (simp only [nl_1, nl_2, nl_3, nl_4, nl_5, nl_6, nl_7, nl_8, nl_9, nl_10, nl_11, nl_12, nl_13, nl_14, nl_15, nl_16, nl_32, nl_240, nl_250, nl_255, nl_265, nl_270, nl_0, nI_add, pk_mul]; done)) (by omega) (by omega)) ?_
  refine ex_ixs (q := 255) (by first | rfl | (simp only [nl_1, nl_2, nl_3, nl_4, nl_5, nl_6, nl_7, nl_8, nl_9, nl_10, nl_11, nl_12, nl_13, nl_14, nl_15, nl_16, nl_32, nl_240, nl_250, nl_255, nl_265, nl_270, nl_0, nI_add, pk_mul]; done)) (by omega) ?_
  refine s_Mdl_blank_37 ?_
  refine s_Mdl_blank_38 (by first | rfl | assumption | (simp [*]; done)) (by first | rfl | assumption | (simp [*]; done)) ?_
  refine s_Mdl_blank_41 ?_
  refine s_Mdl_blank_44 ?_
  refine s_Mdl_blank_45 (by first | exact rf_row hR | rfl) (by exact rk_row hR) (by rw [rn_row hR]; exact n_in (a := 256) (by first | rfl | (simp only [nl_1, nl_2, nl_3, nl_4, nl_5, nl_6, nl_7, nl_8, nl_9, nl_10, nl_11, nl_12, nl_13, nl_14, nl_15, nl_16, nl_32, nl_240, nl_250, nl_255, nl_265, nl_270, nl_0, nI_add, pk_mul]; done)) (by omega) (by omega)) ?_
  refine ex_ixs (q := 256) (by first | rfl | (simp only [nl_1, nl_2, nl_3, nl_4, nl_5, nl_6, nl_7, nl_8, nl_9, nl_10, nl_11, nl_12, nl_13, nl_14, nl_15, nl_16, nl_32, nl_240, nl_250, nl_255, nl_265, nl_270, nl_0, nI_add, pk_mul]; done)) (by omega) ?_
  refine s_Mdl_blank_46 ?_
  refine s_Mdl_blank_47 (by first | rfl | assumption | (simp [*]; done)) (by first | rfl | assumption | (simp [*]; done)) ?_
  refine s_Mdl_blank_50 ?_
  refine s_Mdl_blank_53 ?_
  refine s_Mdl_blank_54 (by first | exact rf_row hR | rfl) (by exact rk_row hR) (by rw [rn_row hR]; exact n_in (a := 257) (by first | rfl | (simp only [nl_1, nl_2, nl_3, nl_4, nl_5, nl_6, nl_7, nl_8, nl_9, nl_10, nl_11, nl_12, nl_13, nl_14, nl_15, nl_16, nl_32, nl_240, nl_250, nl_255, nl_265, nl_270, nl_0, nI_add, pk_mul]; done)) (by omega) (by omega)) ?_
  refine ex_ixs (q := 257) (by first | rfl | (simp only [nl_1, nl_2, nl_3, nl_4, nl_5, nl_6, nl_7, nl_8, nl_9, nl_10, nl_11, nl_12, nl_13, nl_14, nl_15, nl_16, nl_32, nl_240, nl_250, nl_255, nl_265, nl_270, nl_0, nI_add, pk_mul]; done)) (by omega) ?_
  refine s_Mdl_blank_55 ?_
  refine s_Mdl_blank_56 (by first | rfl | assumption | (simp [*]; done)) (by first | rfl | assumption | (simp [*]; done)) ?_
  refine s_Mdl_blank_59 ?_
  refine s_Mdl_blank_62 ?_
  refine s_Mdl_blank_64 (by first | exact rf_row hR | rfl) (by exact rk_row hR) (by rw [rn_row hR]; exact n_in (a := 258) (by first | rfl | (simp only [nl_1, nl_2, nl_3, nl_4, nl_5, nl_6, nl_7, nl_8, nl_9, nl_10, nl_11, nl_12, nl_13, nl_14, nl_15, nl_16, nl_32, nl_240, nl_250, nl_255, nl_265, nl_270, nl_0, nI_add, pk_mul]; done)) (by omega) (by omega)) ?_
  refine ex_ixs (q := 258) (by first | rfl | (simp only [nl_1, nl_2, nl_3, nl_4, nl_5, nl_6, nl_7, nl_8, nl_9, nl_10, nl_11, nl_12, nl_13, nl_14, nl_15, nl_16, nl_32, nl_240, nl_250, nl_255, nl_265, nl_270, nl_0, nI_add, pk_mul]; done)) (by omega) ?_
  refine s_Mdl_blank_65 ?_
  rw [ex_wi_u, ex_wi_u, ex_wi_u, ex_wi_u]
  exact ⟨rfl, rfl, rfl, rfl⟩
def cpy15 (X : Nat → Int32) (q t k : Nat) : Nat → Int32 := fun c => if t ≤ c ∧ c < t + k then X (c - t + q) else X c
theorem lp_rsend {Γ : ex_G} {d : Nat} {K : ex_K} {I : ex_I} {F : ex_F} {b : Nat} {Q : Option ex_V → ex_K → ex_I → ex_F → Prop} {m n q : Nat} {X : Nat → Int32} {ad : Nat → Nat} (hR : rf_ok K F m ad) (hf : I 834 m 0 = nI n) (hn : n < 16) (hq : q + 15 ≤ 15 * n ∨ 15 * n + 15 ≤ q) (hq2 : q + 15 ≤ 315) (kk : ∀ l2, ex_E Γ d M_Mdl_send 46 [some (.inr (some m)), some (.inl (nI q)), l2] [] K (ex_wi I 21 (ad 31) (cpy15 X q (15 * n) 15)) F b Q) : ∀ k j J, 15 - j = k → j ≤ 15 → J = ex_wi I 21 (ad 31) (cpy15 X q (15 * n) j) →
    ex_E Γ d M_Mdl_send 12 [some (.inr (some m)), some (.inl (nI q)), some (.inl (nI j))] [] K J F b Q := by
  have m1 := hR.1
  have hf2 : ∀ Y, ex_wi I 21 (ad 31) Y 834 m 0 = nI n := fun Y => by rw [ex_wi_f _ _ _ (by decide)]; exact hf
  intro k
  induction k with
  | zero =>
    intro j J hk hj hJ
    subst hJ
    have e : j = 15 := by omega
    subst e
    refine s_Mdl_send_12 ?_
    refine s_Mdl_send_13 ?_
    refine s_Mdl_send_15 (fun h15 => ?_) (fun h15 => absurd h15 (by exact fun q => q (nI_le (a := 15) (b := 15) (by omega) (by omega))))
    exact kk _
  | succ k ih =>
    intro j J hk hj hJ
    subst hJ
    refine s_Mdl_send_12 ?_
    refine s_Mdl_send_13 ?_
    refine s_Mdl_send_15 (fun h15 => absurd h15 (by exact nI_ge (a := j) (b := 15) (by omega) (by omega))) (fun h15 => ?_)
    refine s_Mdl_send_18 ?_
    refine s_Mdl_send_19 (by first | rfl | assumption | (simp [*]; done)) (by first | rfl | assumption | (simp [*]; done)) ?_
    refine s_Mdl_send_22 ?_
    refine s_Mdl_send_24 ?_
    refine s_Mdl_send_25 (by first | rfl | assumption | (simp [*]; done)) (by first | rfl | assumption | (simp [*]; done)) ?_
    refine s_Mdl_send_28 ?_
    refine s_Mdl_send_29 ?_
    refine s_Mdl_send_30 ?_
    refine s_Mdl_send_31 ?_
    refine s_Mdl_send_32 (by first | rfl | assumption | (simp [*]; done)) (by first | rfl | assumption | (simp [*]; done)) ?_
    refine s_Mdl_send_35 ?_
    refine s_Mdl_send_36 ?_
    refine s_Mdl_send_37 ?_
    refine s_Mdl_send_38 (by first | exact rf_row hR | rfl) (by exact rk_row hR) (by rw [rn_row hR]; exact n_in (a := (q + j)) (by first | rfl | (simp only [hf2, nl_1, nl_2, nl_3, nl_4, nl_5, nl_6, nl_7, nl_8, nl_9, nl_10, nl_11, nl_12, nl_13, nl_14, nl_15, nl_16, nl_32, nl_240, nl_250, nl_255, nl_265, nl_270, nl_0, nI_add, pk_mul]; done)) (by omega) (by omega)) ?_
    refine ex_ixl (q := (q + j)) (by first | rfl | (simp only [hf2, nl_1, nl_2, nl_3, nl_4, nl_5, nl_6, nl_7, nl_8, nl_9, nl_10, nl_11, nl_12, nl_13, nl_14, nl_15, nl_16, nl_32, nl_240, nl_250, nl_255, nl_265, nl_270, nl_0, nI_add, pk_mul]; done)) (by omega) ?_
    refine s_Mdl_send_39 (by first | exact rf_row hR | rfl) (by exact rk_row hR) (by rw [rn_row hR]; exact n_in (a := ((15 * n) + j)) (by first | rfl | (simp only [hf2, nl_1, nl_2, nl_3, nl_4, nl_5, nl_6, nl_7, nl_8, nl_9, nl_10, nl_11, nl_12, nl_13, nl_14, nl_15, nl_16, nl_32, nl_240, nl_250, nl_255, nl_265, nl_270, nl_0, nI_add, pk_mul]; done)) (by omega) (by omega)) ?_
    refine ex_ixs (q := ((15 * n) + j)) (by first | rfl | (simp only [hf2, nl_1, nl_2, nl_3, nl_4, nl_5, nl_6, nl_7, nl_8, nl_9, nl_10, nl_11, nl_12, nl_13, nl_14, nl_15, nl_16, nl_32, nl_240, nl_250, nl_255, nl_265, nl_270, nl_0, nI_add, pk_mul]; done)) (by omega) ?_
    refine s_Mdl_send_40 ?_
    refine s_Mdl_send_43 ?_
    rw [ex_wi_at, ex_wi_u, nI_1]
    refine ih (j + 1) _ (by omega) (by omega) ?_
    congr 1
    funext c
    unfold cpy15
    by_cases e : c = 15 * n + j
    · rw [if_pos e, if_neg (by omega), if_pos (by omega), e]
      congr 1
      omega
    · rw [if_neg e]
      by_cases z : 15 * n ≤ c ∧ c < 15 * n + j
      · rw [if_pos z, if_pos (by omega)]
      · rw [if_neg z, if_neg (by omega)]
theorem sp_rsend {Γ : ex_G} {d : Nat} {K : ex_K} {I : ex_I} {F : ex_F} {b : Nat} {m n q : Nat} {ad : Nat → Nat} (hR : rf_ok K F m ad) (hf : I 834 m 0 = nI n) (hn : n < 16) (hq : q + 15 ≤ 15 * n ∨ 15 * n + 15 ≤ q) (hq2 : q + 15 ≤ 315) :
    ex_E Γ d M_Mdl_send 0 [some (.inr (some m)), some (.inl (nI q)), none] [] K I F b (fun x K' I' F' => x = none ∧ K = K' ∧ F = F' ∧ ex_ui (ex_wi I 21 (ad 31) (cpy15 (I 21 (ad 31)) q (15 * n) 15)) 834 m 0 (nI (n + 1)) = I') := by
  have m1 := hR.1
  refine s_Mdl_send_0 ?_
  refine s_Mdl_send_1 (by first | rfl | assumption | (simp [*]; done)) (by first | rfl | assumption | (simp [*]; done)) ?_
  refine s_Mdl_send_4 ?_
  refine s_Mdl_send_6 (fun h6 => ?_) (fun h6 => absurd h6 (by rw [hf]; exact fun q => q (nI_lt (a := n) (b := 16) hn (by omega))))
  refine s_Mdl_send_10 ?_
  refine s_Mdl_send_11 ?_
  refine lp_rsend (I := I) (X := I 21 (ad 31)) hR hf hn hq hq2 (fun l2 => ?_) 15 0 _ rfl (by omega) (by
    rw [show cpy15 (I 21 (ad 31)) q (15 * n) 0 = I 21 (ad 31) by funext c; unfold cpy15; rw [if_neg (by omega)], ex_wi_id])
  refine s_Mdl_send_46 ?_
  refine s_Mdl_send_47 ?_
  refine s_Mdl_send_48 (by first | rfl | assumption | (simp [*]; done)) (by first | rfl | assumption | (simp [*]; done)) ?_
  refine s_Mdl_send_51 ?_
  refine s_Mdl_send_52 ?_
  refine s_Mdl_send_53 (by first | rfl | assumption | (simp [*]; done)) (by first | rfl | assumption | (simp [*]; done)) ?_
  refine s_Mdl_send_56 ?_
  rw [ex_wi_f _ _ _ (by decide), hf, nI_1]
  exact ⟨rfl, rfl, rfl, rfl⟩
theorem sp_rsend_no {Γ : ex_G} {d : Nat} {K : ex_K} {I : ex_I} {F : ex_F} {b : Nat} {m : Nat} {x : Int32} {ad : Nat → Nat} (hR : rf_ok K F m ad) (hf : I 834 m 0 = nI 16) :
    ex_E Γ d M_Mdl_send 0 [some (.inr (some m)), some (.inl x), none] [] K I F b (fun x K' I' F' => x = none ∧ K = K' ∧ F = F' ∧ I = I') := by
  have m1 := hR.1
  refine s_Mdl_send_0 ?_
  refine s_Mdl_send_1 (by first | rfl | assumption | (simp [*]; done)) (by first | rfl | assumption | (simp [*]; done)) ?_
  refine s_Mdl_send_4 ?_
  refine s_Mdl_send_6 (fun h6 => absurd h6 (by rw [hf]; decide)) (fun h6 => ?_)
  refine s_Mdl_send_9 ?_
  exact ⟨rfl, rfl, rfl, rfl⟩
def o_snd (J : ex_I) (m : Nat) (ad : Nat → Nat) (n q : Nat) : ex_I := if n < 16 then ex_ui (ex_wi J 21 (ad 31) (cpy15 (J 21 (ad 31)) q (15 * n) 15)) 834 m 0 (nI (n + 1)) else J
theorem sp_snd {Γ : ex_G} {d : Nat} {K : ex_K} {I : ex_I} {F : ex_F} {b : Nat} {m n q : Nat} {ad : Nat → Nat} (hR : rf_ok K F m ad) (hf : I 834 m 0 = nI n) (hn : n ≤ 16) (hq : q + 15 ≤ 15 * n ∨ 15 * n + 15 ≤ q) (hq2 : q + 15 ≤ 315) :
    ex_E Γ d M_Mdl_send 0 [some (.inr (some m)), some (.inl (nI q)), none] [] K I F b (fun x K' I' F' => x = none ∧ K = K' ∧ F = F' ∧ o_snd I m ad n q = I') := by
  unfold o_snd
  by_cases h : n < 16
  · rw [if_pos h]
    exact sp_rsend hR hf h hq hq2
  · rw [if_neg h]
    exact sp_rsend_no hR (by rw [hf, show n = 16 by omega])
theorem fr_snd {J : ex_I} {m n q : Nat} {ad : Nat → Nat} (hi : ∀ i j, ad i = ad j → i = j) : fr J (o_snd J m ad n q) ad [834] [31] := by
  unfold o_snd
  split
  · exact fr_trans (fr_wa hi (Or.inl rfl) (by decide)) (fr_ui (by decide) (by decide) (by decide))
  · exact fr_rfl
theorem snd_hi {J : ex_I} {m n q : Nat} {ad : Nat → Nat} (hn : n ≤ 16) : ∀ c, 240 ≤ c → o_snd J m ad n q 21 (ad 31) c = J 21 (ad 31) c := by
  intro c hc
  unfold o_snd
  split
  · rw [ex_ui_f _ _ _ _ (by decide), ex_wi_at]
    unfold cpy15
    rw [if_neg (by omega)]
  · rfl
/-- a row is sent, if there is room -/
def m_snd (U : List (Nat → Int32)) (row : Nat → Int32) : List (Nat → Int32) := if U.length < 16 then U ++ [row] else U
theorem r_snd {J : ex_I} {m q : Nat} {ad : Nat → Nat} {U : List (Nat → Int32)} {row : Nat → Int32} (hU : r_fly J m ad U) (hrow : ∀ j, j < 15 → J 21 (ad 31) (q + j) = row j) : r_fly (o_snd J m ad U.length q) m ad (m_snd U row) := by
  obtain ⟨h1, h2, h3⟩ := hU
  unfold o_snd m_snd
  by_cases h : U.length < 16
  · rw [if_pos h, if_pos h]
    refine ⟨by rw [ex_ui_eq, List.length_append]; rfl, by simp; omega, fun e r he j hj => ?_⟩
    rw [ex_ui_f _ _ _ _ (by decide), ex_wi_at]
    unfold cpy15
    rw [List.getElem?_append] at he
    by_cases z : e < U.length
    · rw [if_pos z] at he
      rw [if_neg (by omega)]
      exact h3 e r he j hj
    · rw [if_neg z] at he
      have hz := (List.getElem?_eq_some_iff.mp he).1
      have e0 : e = U.length := by simp at hz; omega
      subst e0
      rw [Nat.sub_self] at he
      have er : row = r := by simpa using he
      subst er
      rw [if_pos (by omega), show 15 * U.length + j - 15 * U.length + q = q + j by omega]
      exact hrow j hj
  · rw [if_neg h, if_neg h]
    exact ⟨h1, h2, h3⟩
