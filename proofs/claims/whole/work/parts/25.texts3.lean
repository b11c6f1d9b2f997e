def fil (X : Nat → Int32) (n : Nat) (v : Int32) : Nat → Int32 := fun j => if j < n then v else X j
theorem lp_fill {Γ : ex_G} {d : Nat} {K : ex_K} {I : ex_I} {F : ex_F} {b : Nat} {a n : Nat} {v : Int32} (ha : K a = (21, n)) (hn : n < 1000) : ∀ m j, n - j = m → j ≤ n →
    ex_E Γ d M_Arr_fill 5 [some (.inr (some a)), some (.inl v), some (.inl (nI j)), some (.inl (nI n))] [] K (ex_wi I 21 a (fil (I 21 a) j v)) F b (fun r K' I' F' => r = none ∧ K = K' ∧ ex_wi I 21 a (fil (I 21 a) n v) = I' ∧ F = F') := by
  have k1 : (K a).1 = 21 := by rw [ha]
  have k2 : (K a).2 = n := by rw [ha]
  intro m
  induction m with
  | zero =>
    intro j hm h1
    have e : j = n := by omega
    subst e
    refine s_Arr_fill_5 ?_
    refine s_Arr_fill_6 ?_
    refine s_Arr_fill_7 (fun h7 => ?_) (fun h7 => absurd h7 (by exact fun q => q (nI_le (by omega) (by omega))))
    refine s_Arr_fill_20 ?_
    exact ⟨rfl, rfl, rfl, rfl⟩
  | succ m ih =>
    intro j hm h1
    refine s_Arr_fill_5 ?_
    refine s_Arr_fill_6 ?_
    refine s_Arr_fill_7 (fun h7 => absurd h7 (by exact nI_ge (by omega) (by omega))) (fun h7 => ?_)
    refine s_Arr_fill_10 ?_
    refine s_Arr_fill_11 ?_
    refine s_Arr_fill_12 ?_
    refine s_Arr_fill_13 (by rfl) (by exact k1) (by rw [k2]; exact vp_in_nI (by omega) (by omega)) ?_
    refine s_Arr_fill_14 ?_
    refine s_Arr_fill_17 ?_
    rw [nI_clamp (by omega), ex_wi_u, nI_1, show (fun q => if q = j then v else fil (I 21 a) j v q) = fil (I 21 a) (j + 1) v by
      funext q
      unfold fil
      by_cases e : q = j
      · rw [if_pos e, if_pos (by omega)]
      · rw [if_neg e]
        by_cases w : q < j
        · rw [if_pos w, if_pos (by omega)]
        · rw [if_neg w, if_neg (by omega)]]
    exact ih (j + 1) (by omega) (by omega)
theorem sp_fill {Γ : ex_G} {d : Nat} {K : ex_K} {I : ex_I} {F : ex_F} {b : Nat} {a n : Nat} {v : Int32} (ha : K a = (21, n)) (hn : n < 1000) :
    ex_E Γ d M_Arr_fill 0 [some (.inr (some a)), some (.inl v), none, none] [] K I F b (fun r K' I' F' => r = none ∧ K = K' ∧ ex_wi I 21 a (fil (I 21 a) n v) = I' ∧ F = F') := by
  have k1 : (K a).1 = 21 := by rw [ha]
  have k2 : (K a).2 = n := by rw [ha]
  refine s_Arr_fill_0 ?_
  refine s_Arr_fill_1 ?_
  refine s_Arr_fill_2 ?_
  refine s_Arr_fill_3 (by rfl) (by exact k1) ?_
  rw [k2, show Int32.ofNat n = nI n from rfl]
  refine s_Arr_fill_4 ?_
  have z := lp_fill (Γ := Γ) (d := d) (I := I) (F := F) (b := b) (v := v) ha hn n 0 rfl (by omega)
  rw [show fil (I 21 a) 0 v = I 21 a by funext q; unfold fil; rw [if_neg (by omega)], ex_wi_id] at z
  exact z
theorem sp_ctl_init {Γ : ex_G} {d : Nat} {K : ex_K} {I : ex_I} {F : ex_F} {b : Nat} {z : Nat} (hz : (K z).1 = 2) :
    ex_E Γ (d + 1) M_Ctl_init 0 [some (.inr (some z))] [] K I F (b + 1) (fun r K' I' F' => r = none ∧ ∃ y, (K y).1 = 0 ∧ ex_nk K y 21 7 = K' ∧ ex_wi (ex_ni I y) 21 y (fil (fun _ => 0) 7 (-1)) = I' ∧ ex_uf (ex_nr F y) 164 z 0 (some y) = F') := by
  refine s_Ctl_init_0 ?_
  refine s_Ctl_init_1 (by first | rfl | assumption | (simp [*]; done)) ?_
  refine s_Ctl_init_4 ?_
  refine s_Ctl_init_5 ?_
  refine s_Ctl_init_7 (N := _) (by decide) rfl (by decide) (fun y fy => ?_)
  have hzy : z ≠ y := fun q => by rw [q] at hz; omega
  have kz : (ex_nk K y 21 7 z).1 = 2 := by rw [ex_nk_ne _ _ _ hzy]; exact hz
  have ky : ex_nk K y 21 7 y = (21, 7) := ex_nk_at _ _ _ _
  refine s_Ctl_init_9 (by rfl) (by exact kz) ?_
  refine s_Ctl_init_12 ?_
  refine s_Ctl_init_13 (by rfl) (by exact kz) ?_
  refine s_Ctl_init_16 ?_
  rw [ex_uf_eq]
  refine s_Ctl_init_17 (b1 := 0) (b2 := b)  (sp_fill (a := y) ky (by omega)) ?_ (by omega)
  rintro _ _ _ _ ⟨rfl, rfl, rfl, rfl⟩
  dsimp only [Option.toList, List.cons_append, List.nil_append]
  refine s_Ctl_init_20 ?_
  refine ⟨rfl, y, fy, rfl, ?_, rfl⟩
  rw [ex_ni_at]
theorem lp_takeControl {Γ : ex_G} {d : Nat} {K : ex_K} {I : ex_I} {F : ex_F} {b : Nat} {Q : Option ex_V → ex_K → ex_I → ex_F → Prop} {dr tx z y n : Nat} (hd : dr_ok K F dr tx) (hz : ct_ok K F z y) (hl : I 229 dr 0 = nI n) (hn : n ≤ 40) : ∀ m i a N, n + 1 - i = m → i ≤ n + 1 → a ≤ i →
    (∀ l2 l3, ex_E Γ (d + 7) M_Drf_takeControl 56 [some (.inr (some dr)), some (.inr (some z)), l2, l3] [] K (ex_wi I 21 y (tx_p (I 22 tx) n m i a N)) F b Q) →
    ex_E Γ (d + 7) M_Drf_takeControl 12 [some (.inr (some dr)), some (.inr (some z)), some (.inl (nI a)), some (.inl (nI i))] [] K (ex_wi I 21 y N) F b Q := by
  have hd0 := hd
  obtain ⟨d1, d2, d3⟩ := hd
  have k1 : (K tx).1 = 22 := by rw [d3]
  have k2 : (K tx).2 = 40 := by rw [d3]
  have hl2 : ∀ N, ex_wi I 21 y N 229 dr 0 = nI n := fun N => by rw [ex_wi_f _ _ _ (by decide)]; exact hl
  have ht2 : ∀ N, ex_wi I 21 y N 22 tx = I 22 tx := fun N => by rw [ex_wi_f _ _ _ (by decide)]
  intro m
  induction m with
  | zero =>
    intro i a N hm h1 h2 kk
    refine s_Drf_takeControl_12 ?_
    refine s_Drf_takeControl_13 ?_
    refine s_Drf_takeControl_14 (by first | rfl | assumption | (simp [*]; done)) (by first | rfl | assumption | (simp [*]; done)) ?_
    refine s_Drf_takeControl_17 (fun h17 => ?_) (fun h17 => absurd h17 (by rw [hl2]; exact fun q => q (nI_lt (by omega) (by omega))))
    exact kk _ _
  | succ m ih =>
    intro i a N hm h1 h2 kk
    have next : ∀ a2 N2, a2 ≤ i + 1 → tx_p (I 22 tx) n (m + 1) i a N = tx_p (I 22 tx) n m (i + 1) a2 N2 → ex_E Γ (d + 7) M_Drf_takeControl 50 [some (.inr (some dr)), some (.inr (some z)), some (.inl (nI a2)), some (.inl (nI i))] [] K (ex_wi I 21 y N2) F b Q := by
      intro a2 N2 ha2 e
      rw [e] at kk
      refine s_Drf_takeControl_50 ?_
      refine s_Drf_takeControl_53 ?_
      rw [nI_1]
      exact ih (i + 1) a2 N2 (by omega) (by omega) ha2 kk
    have elem : (i = n ∨ I 22 tx i = 44) → ex_E Γ (d + 7) M_Drf_takeControl 39 [some (.inr (some dr)), some (.inr (some z)), some (.inl (nI a)), some (.inl (nI i))] [] K (ex_wi I 21 y N) F b Q := by
      intro hc
      refine s_Drf_takeControl_39 ?_
      refine s_Drf_takeControl_40 ?_
      refine s_Drf_takeControl_41 ?_
      refine s_Drf_takeControl_42 ?_
      refine s_Drf_takeControl_43 (b1 := 0) (b2 := b) (by first | rfl | assumption | (simp [*]; done)) (by first | rfl | assumption | (simp [*]; done)) (sp_readElement hd0 hz h2 (by omega)) ?_ (by omega)
      rintro _ _ _ _ ⟨rfl, rfl, rfl, rfl⟩
      dsimp only [Option.toList, List.cons_append, List.nil_append]
      rw [ht2, ex_wi_at, ex_wi_wi]
      refine s_Drf_takeControl_46 ?_
      refine s_Drf_takeControl_47 ?_
      refine s_Drf_takeControl_48 ?_
      refine s_Drf_takeControl_49 ?_
      rw [nI_1]
      exact next (i + 1) _ (by omega) (by rw [tx_p, if_pos hc])
    refine s_Drf_takeControl_12 ?_
    refine s_Drf_takeControl_13 ?_
    refine s_Drf_takeControl_14 (by first | rfl | assumption | (simp [*]; done)) (by first | rfl | assumption | (simp [*]; done)) ?_
    refine s_Drf_takeControl_17 (fun h17 => absurd h17 (by rw [hl2]; exact nI_nlt (by omega) (by omega))) (fun h17 => ?_)
    refine s_Drf_takeControl_20 ?_
    refine s_Drf_takeControl_21 ?_
    refine s_Drf_takeControl_22 (by first | rfl | assumption | (simp [*]; done)) (by first | rfl | assumption | (simp [*]; done)) ?_
    refine s_Drf_takeControl_25 (fun h25 => ?_) (fun h25 => ?_)
    · exact elem (Or.inl ((nI_eq (by omega) (by omega)).mp (by rw [hl2] at h25; exact h25)))
    · refine s_Drf_takeControl_28 ?_
      refine s_Drf_takeControl_29 (by first | rfl | assumption | (simp [*]; done)) (by first | rfl | assumption | (simp [*]; done)) ?_
      refine s_Drf_takeControl_32 ?_
      have hin : i ≠ n := fun q => h25 (by rw [hl2, q])
      refine s_Drf_takeControl_33 (by exact d2) (by exact k1) (by rw [k2]; exact vp_in_nI (by omega) (by omega)) ?_
      refine s_Drf_takeControl_34 ?_
      refine s_Drf_takeControl_36 (fun h36 => ?_) (fun h36 => ?_)
      · rw [ht2, nI_clamp (by omega)] at h36
        exact next a N (by omega) (by rw [tx_p, if_neg (fun q => q.elim hin h36)])
      · rw [ht2, nI_clamp (by omega)] at h36
        exact elem (Or.inr h36)
theorem tx_p_cong (f : Nat → Int32) (n : Nat) : ∀ m i a (N N' : Nat → Int32), (∀ j, j < 7 → N j = N' j) → ∀ j, j < 7 → tx_p f n m i a N j = tx_p f n m i a N' j := by
  have he : ∀ a c (N N' : Nat → Int32), (∀ j, j < 7 → N j = N' j) → ∀ j, j < 7 → tx_e f a c N j = tx_e f a c N' j := by
    intro a c N N' h j hj
    have b4 := tx_d_le f (tx_l f c (c - a) a) (tx_n f (tx_r f (tx_l f c (c - a) a) c) (tx_r f (tx_l f c (c - a) a) c - tx_l f c (c - a) a) (tx_l f c (c - a) a)) 7 0
    unfold tx_e
    split
    · exact h j hj
    · rename_i w
      rw [not_or] at w
      unfold tx_learn
      rw [h _ (by omega), h j hj]
  intro m
  induction m with
  | zero => intro i a N N' h j hj; exact h j hj
  | succ m ih =>
    intro i a N N' h j hj
    rw [tx_p, tx_p]
    split
    · exact ih _ _ _ _ (he a i N N' h) j hj
    · exact ih _ _ _ _ h j hj
theorem sp_takeControl {Γ : ex_G} {d : Nat} {K : ex_K} {I : ex_I} {F : ex_F} {b : Nat} {dr tx n : Nat} (hd : dr_ok K F dr tx) (hl : I 229 dr 0 = nI n) (hn : n ≤ 40) :
    ex_E Γ (d + 7) M_Drf_takeControl 0 [some (.inr (some dr)), none, none, none] [] K I F (b + 2) (fun r K' I' F' => ∃ z y N, r = some (.inr (some z)) ∧ (K z).1 = 0 ∧ (K y).1 = 0 ∧ z ≠ y ∧ ex_nk (ex_nk K z 2 0) y 21 7 = K' ∧ ex_ui (ex_wi (ex_ni (ex_ni I z) y) 21 y N) 229 dr 0 0 = I' ∧ ex_uf (ex_nr (ex_nr F z) y) 164 z 0 (some y) = F' ∧ ∀ j, j < 7 → N j = tx_all (I 22 tx) n j) := by
  refine s_Drf_takeControl_0 (fun z fz => ?_)
  refine s_Drf_takeControl_3 ?_
  refine s_Drf_takeControl_4 (b1 := 1) (b2 := b) (by rfl) (sp_ctl_init (by rw [ex_nk_at])) ?_ (by omega)
  rintro _ _ _ _ ⟨rfl, y, fy, rfl, rfl, rfl⟩
  dsimp only [Option.toList, List.cons_append, List.nil_append]
  refine s_Drf_takeControl_7 ?_
  refine s_Drf_takeControl_8 ?_
  refine s_Drf_takeControl_9 ?_
  refine s_Drf_takeControl_10 ?_
  refine s_Drf_takeControl_11 ?_
  have hzy : z ≠ y := fun q => by rw [← q, ex_nk_at] at fy; exact absurd fy (by decide)
  have fy0 : (K y).1 = 0 := by rw [ex_nk_ne _ _ _ (Ne.symm hzy)] at fy; exact fy
  obtain ⟨d1, d2, d3⟩ := hd
  have dz : dr ≠ z := fun q => by rw [q] at d1; omega
  have dy : dr ≠ y := fun q => by rw [q] at d1; omega
  have tz : tx ≠ z := fun q => by rw [q] at d3; rw [d3] at fz; exact absurd fz (by decide)
  have ty : tx ≠ y := fun q => by rw [q] at d3; rw [d3] at fy0; exact absurd fy0 (by decide)
  have kd : (ex_nk (ex_nk K z 2 0) y 21 7 dr).1 = 3 := by rw [ex_nk_ne _ _ _ dy, ex_nk_ne _ _ _ dz]; exact d1
  have hd' : dr_ok (ex_nk (ex_nk K z 2 0) y 21 7) (ex_uf (ex_nr (ex_nr F z) y) 164 z 0 (some y)) dr tx := ⟨kd, by rw [ex_uf_f _ _ _ _ (by decide), ex_nr_ne _ dy, ex_nr_ne _ dz]; exact d2, by rw [ex_nk_ne _ _ _ ty, ex_nk_ne _ _ _ tz]; exact d3⟩
  have hz' : ct_ok (ex_nk (ex_nk K z 2 0) y 21 7) (ex_uf (ex_nr (ex_nr F z) y) 164 z 0 (some y)) z y := ⟨by rw [ex_nk_ne _ _ _ hzy, ex_nk_at], ex_uf_eq _ _ _ _ _, ex_nk_at _ _ _ _⟩
  have hl' : ex_ni (ex_ni I z) y 229 dr 0 = nI n := by rw [ex_ni_ne _ dy, ex_ni_ne _ dz]; exact hl
  have ht' : ex_ni (ex_ni I z) y 22 tx = I 22 tx := by rw [ex_ni_ne _ ty, ex_ni_ne _ tz]
  refine lp_takeControl hd' hz' hl' hn (n + 1) 0 0 _ (by omega) (by omega) (by omega) (fun l2 l3 => ?_)
  refine s_Drf_takeControl_56 ?_
  refine s_Drf_takeControl_57 ?_
  refine s_Drf_takeControl_58 (by rfl) (by exact kd) ?_
  refine s_Drf_takeControl_61 ?_
  refine s_Drf_takeControl_62 ?_
  refine ⟨z, y, _, rfl, fz, fy0, hzy, rfl, rfl, rfl, fun j hj => ?_⟩
  rw [ht']
  exact tx_p_cong _ _ _ _ _ _ _ (fun q hq => by unfold fil; rw [if_pos hq]) j hj
