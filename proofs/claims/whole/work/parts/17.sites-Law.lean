section
variable {Γ : ex_G} {d : Nat} {st : List ex_V} {K : ex_K} {I : ex_I} {F : ex_F} {b : Nat} {Q : Option ex_V → ex_K → ex_I → ex_F → Prop}
theorem d_Law_law_0 : decode code 0 = .ok (.new 7, 3) := by decide +kernel
theorem s_Law_law_0 {l0 l1 l2 l3 : Option ex_V} (k : ∀ a, (K a).1 = 0 → ex_E Γ d M_Law_law 3 [l0, l1, l2, l3] (.inr (some a) :: st) (ex_nk K a 1 0) (ex_ni I a) (ex_nr F a) b Q) : ex_E Γ d M_Law_law 0 [l0, l1, l2, l3] (st) K I F (b + 1) Q := ex_new (ci := 0) ty_FC d_Law_law_0 rfl (by decide) rfl (by decide) tyok_FC df_FC (inC_FC _) (List.mem_cons_of_mem _ w_19) (List.mem_cons_of_mem _ w_20) (List.mem_cons_of_mem _ w_1) k
theorem d_Law_law_3 : decode code 3 = .ok (.dup, 1) := by decide +kernel
theorem s_Law_law_3 {l0 l1 l2 l3 : Option ex_V} {u : ex_V} (k : ex_E Γ d M_Law_law 4 [l0, l1, l2, l3] (u :: u :: st) K I F b Q) : ex_E Γ d M_Law_law 3 [l0, l1, l2, l3] (u :: st) K I F b Q := ex_dup d_Law_law_3 k
theorem d_Law_law_4 : decode code 4 = .ok (.aload_n 0, 1) := by decide +kernel
theorem s_Law_law_4 {l1 l2 l3 : Option ex_V} {r : Option Nat} (k : ex_E Γ d M_Law_law 5 [some (.inr r), l1, l2, l3] (.inr r :: st) K I F b Q) : ex_E Γ d M_Law_law 4 [some (.inr r), l1, l2, l3] (st) K I F b Q := ex_aload_n d_Law_law_4 rfl k
theorem d_Law_law_5 : decode code 5 = .ok (.iconst 0, 1) := by decide +kernel
theorem s_Law_law_5 {l0 l1 l2 l3 : Option ex_V} (k : ex_E Γ d M_Law_law 6 [l0, l1, l2, l3] (.inl 0 :: st) K I F b Q) : ex_E Γ d M_Law_law 5 [l0, l1, l2, l3] (st) K I F b Q := ex_iconst d_Law_law_5 (by decide +kernel) k
theorem d_Law_law_6 : decode code 6 = .ok (.invokestatic 9, 3) := by decide +kernel
theorem s_Law_law_6 {l0 l1 l2 l3 : Option ex_V} {x0 : Option Nat} {x1 : Int32} {b1 b2 : Nat} {Q1 : Option ex_V → ex_K → ex_I → ex_F → Prop} (h : ex_E Γ d M_Law_cell 0 [some (.inr x0), some (.inl x1)] [] K I F b1 Q1) (kk : ∀ r K' I' F', Q1 r K' I' F' → ex_E Γ (d + 1) M_Law_law 9 [l0, l1, l2, l3] (r.toList ++ st) K' I' F' b2 Q) (hbb : b1 + b2 ≤ b) (hst : st.length ≤ 8 := by first | exact Nat.le_of_ble_eq_true rfl | simp) : ex_E Γ (d + 1) M_Law_law 6 [l0, l1, l2, l3] (.inl x1 :: .inr x0 :: st) K I F b Q := by
  exact ex_callS (Mc := M_Law_cell) (n := 2) (av := [.inr x0, .inl x1]) d_Law_law_6 (by decide) rfl rfl (by decide) (ex_good w_734) (List.mem_cons_of_mem _ w_732) (List.mem_cons_of_mem _ w_0) (List.mem_cons_of_mem _ w_733) ⟨by decide +kernel, by decide +kernel, by decide +kernel⟩ rfl (Nat.le_of_ble_eq_true rfl) hst h hbb kk
theorem d_Law_law_9 : decode code 9 = .ok (.invokespecial 15, 3) := by decide +kernel
theorem s_Law_law_9 {l0 l1 l2 l3 : Option ex_V} {r : Option Nat} {a : Nat} {x0 : Int32} {b1 b2 : Nat} {Q1 : Option ex_V → ex_K → ex_I → ex_F → Prop} (hr : r = some a) (h : ex_E Γ d M_FC_init 0 [some (.inr (some a)), some (.inl x0), none] [] K I F b1 Q1) (kk : ∀ r K' I' F', Q1 r K' I' F' → ex_E Γ (d + 1) M_Law_law 12 [l0, l1, l2, l3] (r.toList ++ st) K' I' F' b2 Q) (hbb : b1 + b2 ≤ b) (hst : st.length ≤ 8 := by first | exact Nat.le_of_ble_eq_true rfl | simp) : ex_E Γ (d + 1) M_Law_law 9 [l0, l1, l2, l3] (.inl x0 :: .inr r :: st) K I F b Q := by
  subst hr
  exact ex_callI (Mc := M_FC_init) (n := 1) (av := [.inl x0]) d_Law_law_9 (by decide) rfl rfl (by decide) rfl rfl (ex_good w_23) (List.mem_cons_of_mem _ w_21) (List.mem_cons_of_mem _ w_1) (List.mem_cons_of_mem _ w_22) ⟨by decide +kernel, by decide +kernel, by decide +kernel⟩ rfl (Nat.le_of_ble_eq_true rfl) hst h hbb kk
theorem d_Law_law_12 : decode code 12 = .ok (.astore_n 1, 1) := by decide +kernel
theorem s_Law_law_12 {l0 l1 l2 l3 : Option ex_V} {r : Option Nat} (k : ex_E Γ d M_Law_law 13 [l0, some (.inr r), l2, l3] (st) K I F b Q) : ex_E Γ d M_Law_law 12 [l0, l1, l2, l3] (.inr r :: st) K I F b Q := ex_astore_n d_Law_law_12 (Nat.le_of_ble_eq_true rfl) k
theorem d_Law_law_13 : decode code 13 = .ok (.new 18, 3) := by decide +kernel
theorem s_Law_law_13 {l0 l1 l2 l3 : Option ex_V} (k : ∀ a, (K a).1 = 0 → ex_E Γ d M_Law_law 16 [l0, l1, l2, l3] (.inr (some a) :: st) (ex_nk K a 12 0) (ex_ni I a) (ex_nr F a) b Q) : ex_E Γ d M_Law_law 13 [l0, l1, l2, l3] (st) K I F (b + 1) Q := ex_new (ci := 11) ty_Mdl d_Law_law_13 rfl (by decide) rfl (by decide) tyok_Mdl df_Mdl (inC_Mdl _) (List.mem_cons_of_mem _ w_735) (List.mem_cons_of_mem _ w_736) (List.mem_cons_of_mem _ w_11) k
theorem d_Law_law_16 : decode code 16 = .ok (.dup, 1) := by decide +kernel
theorem s_Law_law_16 {l0 l1 l2 l3 : Option ex_V} {u : ex_V} (k : ex_E Γ d M_Law_law 17 [l0, l1, l2, l3] (u :: u :: st) K I F b Q) : ex_E Γ d M_Law_law 16 [l0, l1, l2, l3] (u :: st) K I F b Q := ex_dup d_Law_law_16 k
theorem d_Law_law_17 : decode code 17 = .ok (.aload_n 0, 1) := by decide +kernel
theorem s_Law_law_17 {l1 l2 l3 : Option ex_V} {r : Option Nat} (k : ex_E Γ d M_Law_law 18 [some (.inr r), l1, l2, l3] (.inr r :: st) K I F b Q) : ex_E Γ d M_Law_law 17 [some (.inr r), l1, l2, l3] (st) K I F b Q := ex_aload_n d_Law_law_17 rfl k
theorem d_Law_law_18 : decode code 18 = .ok (.iconst 0, 1) := by decide +kernel
theorem s_Law_law_18 {l0 l1 l2 l3 : Option ex_V} (k : ex_E Γ d M_Law_law 19 [l0, l1, l2, l3] (.inl 0 :: st) K I F b Q) : ex_E Γ d M_Law_law 18 [l0, l1, l2, l3] (st) K I F b Q := ex_iconst d_Law_law_18 (by decide +kernel) k
theorem d_Law_law_19 : decode code 19 = .ok (.invokestatic 9, 3) := by decide +kernel
theorem s_Law_law_19 {l0 l1 l2 l3 : Option ex_V} {x0 : Option Nat} {x1 : Int32} {b1 b2 : Nat} {Q1 : Option ex_V → ex_K → ex_I → ex_F → Prop} (h : ex_E Γ d M_Law_cell 0 [some (.inr x0), some (.inl x1)] [] K I F b1 Q1) (kk : ∀ r K' I' F', Q1 r K' I' F' → ex_E Γ (d + 1) M_Law_law 22 [l0, l1, l2, l3] (r.toList ++ st) K' I' F' b2 Q) (hbb : b1 + b2 ≤ b) (hst : st.length ≤ 8 := by first | exact Nat.le_of_ble_eq_true rfl | simp) : ex_E Γ (d + 1) M_Law_law 19 [l0, l1, l2, l3] (.inl x1 :: .inr x0 :: st) K I F b Q := by
  exact ex_callS (Mc := M_Law_cell) (n := 2) (av := [.inr x0, .inl x1]) d_Law_law_19 (by decide) rfl rfl (by decide) (ex_good w_734) (List.mem_cons_of_mem _ w_732) (List.mem_cons_of_mem _ w_0) (List.mem_cons_of_mem _ w_733) ⟨by decide +kernel, by decide +kernel, by decide +kernel⟩ rfl (Nat.le_of_ble_eq_true rfl) hst h hbb kk
theorem d_Law_law_22 : decode code 22 = .ok (.invokespecial 20, 3) := by decide +kernel
theorem s_Law_law_22 {l0 l1 l2 l3 : Option ex_V} {r : Option Nat} {a : Nat} {x0 : Int32} {b1 b2 : Nat} {Q1 : Option ex_V → ex_K → ex_I → ex_F → Prop} (hr : r = some a) (h : ex_E Γ d M_Mdl_init 0 [some (.inr (some a)), some (.inl x0)] [] K I F b1 Q1) (kk : ∀ r K' I' F', Q1 r K' I' F' → ex_E Γ (d + 1) M_Law_law 25 [l0, l1, l2, l3] (r.toList ++ st) K' I' F' b2 Q) (hbb : b1 + b2 ≤ b) (hst : st.length ≤ 8 := by first | exact Nat.le_of_ble_eq_true rfl | simp) : ex_E Γ (d + 1) M_Law_law 22 [l0, l1, l2, l3] (.inl x0 :: .inr r :: st) K I F b Q := by
  subst hr
  exact ex_callI (Mc := M_Mdl_init) (n := 1) (av := [.inl x0]) d_Law_law_22 (by decide) rfl rfl (by decide) rfl rfl (ex_good w_739) (List.mem_cons_of_mem _ w_737) (List.mem_cons_of_mem _ w_11) (List.mem_cons_of_mem _ w_738) ⟨by decide +kernel, by decide +kernel, by decide +kernel⟩ rfl (Nat.le_of_ble_eq_true rfl) hst h hbb kk
theorem d_Law_law_25 : decode code 25 = .ok (.astore_n 2, 1) := by decide +kernel
theorem s_Law_law_25 {l0 l1 l2 l3 : Option ex_V} {r : Option Nat} (k : ex_E Γ d M_Law_law 26 [l0, l1, some (.inr r), l3] (st) K I F b Q) : ex_E Γ d M_Law_law 25 [l0, l1, l2, l3] (.inr r :: st) K I F b Q := ex_astore_n d_Law_law_25 (Nat.le_of_ble_eq_true rfl) k
theorem d_Law_law_26 : decode code 26 = .ok (.iconst 1, 1) := by decide +kernel
theorem s_Law_law_26 {l0 l1 l2 l3 : Option ex_V} (k : ex_E Γ d M_Law_law 27 [l0, l1, l2, l3] (.inl 1 :: st) K I F b Q) : ex_E Γ d M_Law_law 26 [l0, l1, l2, l3] (st) K I F b Q := ex_iconst d_Law_law_26 (by decide +kernel) k
theorem d_Law_law_27 : decode code 27 = .ok (.istore_n 3, 1) := by decide +kernel
theorem s_Law_law_27 {l0 l1 l2 l3 : Option ex_V} {x : Int32} (k : ex_E Γ d M_Law_law 28 [l0, l1, l2, some (.inl x)] (st) K I F b Q) : ex_E Γ d M_Law_law 27 [l0, l1, l2, l3] (.inl x :: st) K I F b Q := ex_istore_n d_Law_law_27 (Nat.le_of_ble_eq_true rfl) k
theorem d_Law_law_28 : decode code 28 = .ok (.iload_n 3, 1) := by decide +kernel
theorem s_Law_law_28 {l0 l1 l2 : Option ex_V} {x : Int32} (k : ex_E Γ d M_Law_law 29 [l0, l1, l2, some (.inl x)] (.inl x :: st) K I F b Q) : ex_E Γ d M_Law_law 28 [l0, l1, l2, some (.inl x)] (st) K I F b Q := ex_iload_n d_Law_law_28 rfl k
theorem d_Law_law_29 : decode code 29 = .ok (.aload_n 0, 1) := by decide +kernel
theorem s_Law_law_29 {l1 l2 l3 : Option ex_V} {r : Option Nat} (k : ex_E Γ d M_Law_law 30 [some (.inr r), l1, l2, l3] (.inr r :: st) K I F b Q) : ex_E Γ d M_Law_law 29 [some (.inr r), l1, l2, l3] (st) K I F b Q := ex_aload_n d_Law_law_29 rfl k
theorem d_Law_law_30 : decode code 30 = .ok (.arraylength, 1) := by decide +kernel
theorem s_Law_law_30 {l0 l1 l2 l3 : Option ex_V} (k : ex_E Γ d M_Law_law 31 [l0, l1, l2, l3] (.inl (Int32.ofNat Γ.2.2.2.2.2.2.1) :: st) K I F b Q) : ex_E Γ d M_Law_law 30 [l0, l1, l2, l3] (.inr (some Γ.2.2.2.2.2.1) :: st) K I F b Q := ex_slen d_Law_law_30 k
theorem d_Law_law_31 : decode code 31 = .ok (.iconst 4, 1) := by decide +kernel
theorem s_Law_law_31 {l0 l1 l2 l3 : Option ex_V} (k : ex_E Γ d M_Law_law 32 [l0, l1, l2, l3] (.inl 4 :: st) K I F b Q) : ex_E Γ d M_Law_law 31 [l0, l1, l2, l3] (st) K I F b Q := ex_iconst d_Law_law_31 (by decide +kernel) k
theorem d_Law_law_32 : decode code 32 = .ok (.isub, 1) := by decide +kernel
theorem s_Law_law_32 {l0 l1 l2 l3 : Option ex_V} {x y : Int32} (k : ex_E Γ d M_Law_law 33 [l0, l1, l2, l3] (.inl (x - y) :: st) K I F b Q) : ex_E Γ d M_Law_law 32 [l0, l1, l2, l3] (.inl y :: .inl x :: st) K I F b Q := ex_isub d_Law_law_32 k
theorem d_Law_law_33 : decode code 33 = .ok (.if_icmp .gt 636, 3) := by decide +kernel
theorem s_Law_law_33 {l0 l1 l2 l3 : Option ex_V} {x y : Int32} (kt : y < x → ex_E Γ d M_Law_law 669 [l0, l1, l2, l3] (st) K I F b Q) (kf : ¬ y < x → ex_E Γ d M_Law_law 36 [l0, l1, l2, l3] (st) K I F b Q) : ex_E Γ d M_Law_law 33 [l0, l1, l2, l3] (.inl y :: .inl x :: st) K I F b Q := ex_icmp_gt d_Law_law_33 (by decide) kt kf
theorem d_Law_law_36 : decode code 36 = .ok (.aload_n 0, 1) := by decide +kernel
theorem s_Law_law_36 {l1 l2 l3 : Option ex_V} {r : Option Nat} (k : ex_E Γ d M_Law_law 37 [some (.inr r), l1, l2, l3] (.inr r :: st) K I F b Q) : ex_E Γ d M_Law_law 36 [some (.inr r), l1, l2, l3] (st) K I F b Q := ex_aload_n d_Law_law_36 rfl k
theorem d_Law_law_37 : decode code 37 = .ok (.iload_n 3, 1) := by decide +kernel
theorem s_Law_law_37 {l0 l1 l2 : Option ex_V} {x : Int32} (k : ex_E Γ d M_Law_law 38 [l0, l1, l2, some (.inl x)] (.inl x :: st) K I F b Q) : ex_E Γ d M_Law_law 37 [l0, l1, l2, some (.inl x)] (st) K I F b Q := ex_iload_n d_Law_law_37 rfl k
theorem d_Law_law_38 : decode code 38 = .ok (.iaload, 1) := by decide +kernel
theorem s_Law_law_38 {l0 l1 l2 l3 : Option ex_V} {i : Int32} (hi : vp_in i Γ.2.2.2.2.2.2.1) (k : ex_E Γ d M_Law_law 39 [l0, l1, l2, l3] (.inl (Γ.2.2.2.2.2.2.2 i.toNatClampNeg) :: st) K I F b Q) : ex_E Γ d M_Law_law 38 [l0, l1, l2, l3] (.inl i :: .inr (some Γ.2.2.2.2.2.1) :: st) K I F b Q := ex_sld d_Law_law_38 hi k
theorem d_Law_law_39 : decode code 39 = .ok (.bipush 31, 2) := by decide +kernel
theorem s_Law_law_39 {l0 l1 l2 l3 : Option ex_V} (k : ex_E Γ d M_Law_law 41 [l0, l1, l2, l3] (.inl 31 :: st) K I F b Q) : ex_E Γ d M_Law_law 39 [l0, l1, l2, l3] (st) K I F b Q := ex_bipush d_Law_law_39 (by decide +kernel) k
theorem d_Law_law_41 : decode code 41 = .ok (.iand, 1) := by decide +kernel
theorem s_Law_law_41 {l0 l1 l2 l3 : Option ex_V} {x y : Int32} (k : ex_E Γ d M_Law_law 42 [l0, l1, l2, l3] (.inl (x &&& y) :: st) K I F b Q) : ex_E Γ d M_Law_law 41 [l0, l1, l2, l3] (.inl y :: .inl x :: st) K I F b Q := ex_iand d_Law_law_41 k
theorem d_Law_law_42 : decode code 42 = .ok (.tableswitch 621 0 18 #[90, 115, 174, 197, 240, 273, 296, 319, 342, 365, 378, 427, 460, 473, 506, 519, 552, 575, 598], 90) := by decide +kernel
theorem s_Law_law_42 {l0 l1 l2 l3 : Option ex_V} {x : Int32} (k0 : x = 0 → ex_E Γ d M_Law_law 132 [l0, l1, l2, l3] (st) K I F b Q) (k1 : x = 1 → ex_E Γ d M_Law_law 157 [l0, l1, l2, l3] (st) K I F b Q) (k2 : x = 2 → ex_E Γ d M_Law_law 216 [l0, l1, l2, l3] (st) K I F b Q) (k3 : x = 3 → ex_E Γ d M_Law_law 239 [l0, l1, l2, l3] (st) K I F b Q) (k4 : x = 4 → ex_E Γ d M_Law_law 282 [l0, l1, l2, l3] (st) K I F b Q) (k5 : x = 5 → ex_E Γ d M_Law_law 315 [l0, l1, l2, l3] (st) K I F b Q) (k6 : x = 6 → ex_E Γ d M_Law_law 338 [l0, l1, l2, l3] (st) K I F b Q) (k7 : x = 7 → ex_E Γ d M_Law_law 361 [l0, l1, l2, l3] (st) K I F b Q) (k8 : x = 8 → ex_E Γ d M_Law_law 384 [l0, l1, l2, l3] (st) K I F b Q) (k9 : x = 9 → ex_E Γ d M_Law_law 407 [l0, l1, l2, l3] (st) K I F b Q) (k10 : x = 10 → ex_E Γ d M_Law_law 420 [l0, l1, l2, l3] (st) K I F b Q) (k11 : x = 11 → ex_E Γ d M_Law_law 469 [l0, l1, l2, l3] (st) K I F b Q) (k12 : x = 12 → ex_E Γ d M_Law_law 502 [l0, l1, l2, l3] (st) K I F b Q) (k13 : x = 13 → ex_E Γ d M_Law_law 515 [l0, l1, l2, l3] (st) K I F b Q) (k14 : x = 14 → ex_E Γ d M_Law_law 548 [l0, l1, l2, l3] (st) K I F b Q) (k15 : x = 15 → ex_E Γ d M_Law_law 561 [l0, l1, l2, l3] (st) K I F b Q) (k16 : x = 16 → ex_E Γ d M_Law_law 594 [l0, l1, l2, l3] (st) K I F b Q) (k17 : x = 17 → ex_E Γ d M_Law_law 617 [l0, l1, l2, l3] (st) K I F b Q) (k18 : x = 18 → ex_E Γ d M_Law_law 640 [l0, l1, l2, l3] (st) K I F b Q) (kd : ¬ x = 0 → ¬ x = 1 → ¬ x = 2 → ¬ x = 3 → ¬ x = 4 → ¬ x = 5 → ¬ x = 6 → ¬ x = 7 → ¬ x = 8 → ¬ x = 9 → ¬ x = 10 → ¬ x = 11 → ¬ x = 12 → ¬ x = 13 → ¬ x = 14 → ¬ x = 15 → ¬ x = 16 → ¬ x = 17 → ¬ x = 18 → ex_E Γ d M_Law_law 663 [l0, l1, l2, l3] (st) K I F b Q) : ex_E Γ d M_Law_law 42 [l0, l1, l2, l3] (.inl x :: st) K I F b Q := by
  by_cases h0 : x = 0
  · subst h0
    exact ex_tableIn d_Law_law_42 (by decide) (by decide) rfl (by decide) (k0 rfl)
  by_cases h1 : x = 1
  · subst h1
    exact ex_tableIn d_Law_law_42 (by decide) (by decide) rfl (by decide) (k1 rfl)
  by_cases h2 : x = 2
  · subst h2
    exact ex_tableIn d_Law_law_42 (by decide) (by decide) rfl (by decide) (k2 rfl)
  by_cases h3 : x = 3
  · subst h3
    exact ex_tableIn d_Law_law_42 (by decide) (by decide) rfl (by decide) (k3 rfl)
  by_cases h4 : x = 4
  · subst h4
    exact ex_tableIn d_Law_law_42 (by decide) (by decide) rfl (by decide) (k4 rfl)
  by_cases h5 : x = 5
  · subst h5
    exact ex_tableIn d_Law_law_42 (by decide) (by decide) rfl (by decide) (k5 rfl)
  by_cases h6 : x = 6
  · subst h6
    exact ex_tableIn d_Law_law_42 (by decide) (by decide) rfl (by decide) (k6 rfl)
  by_cases h7 : x = 7
  · subst h7
    exact ex_tableIn d_Law_law_42 (by decide) (by decide) rfl (by decide) (k7 rfl)
  by_cases h8 : x = 8
  · subst h8
    exact ex_tableIn d_Law_law_42 (by decide) (by decide) rfl (by decide) (k8 rfl)
  by_cases h9 : x = 9
  · subst h9
    exact ex_tableIn d_Law_law_42 (by decide) (by decide) rfl (by decide) (k9 rfl)
  by_cases h10 : x = 10
  · subst h10
    exact ex_tableIn d_Law_law_42 (by decide) (by decide) rfl (by decide) (k10 rfl)
  by_cases h11 : x = 11
  · subst h11
    exact ex_tableIn d_Law_law_42 (by decide) (by decide) rfl (by decide) (k11 rfl)
  by_cases h12 : x = 12
  · subst h12
    exact ex_tableIn d_Law_law_42 (by decide) (by decide) rfl (by decide) (k12 rfl)
  by_cases h13 : x = 13
  · subst h13
    exact ex_tableIn d_Law_law_42 (by decide) (by decide) rfl (by decide) (k13 rfl)
  by_cases h14 : x = 14
  · subst h14
    exact ex_tableIn d_Law_law_42 (by decide) (by decide) rfl (by decide) (k14 rfl)
  by_cases h15 : x = 15
  · subst h15
    exact ex_tableIn d_Law_law_42 (by decide) (by decide) rfl (by decide) (k15 rfl)
  by_cases h16 : x = 16
  · subst h16
    exact ex_tableIn d_Law_law_42 (by decide) (by decide) rfl (by decide) (k16 rfl)
  by_cases h17 : x = 17
  · subst h17
    exact ex_tableIn d_Law_law_42 (by decide) (by decide) rfl (by decide) (k17 rfl)
  by_cases h18 : x = 18
  · subst h18
    exact ex_tableIn d_Law_law_42 (by decide) (by decide) rfl (by decide) (k18 rfl)
  exact ex_tableOut d_Law_law_42 (by
    by_cases z : x.toInt < 0
    · exact Or.inl z
    · right
      have n : ∀ v : Int32, ¬ x = v → ¬ x.toInt = v.toInt := fun v hv q => hv (Int32.toInt_inj.mp q)
      have m0 := n 0 h0
      rw [show (0 : Int32).toInt = 0 from rfl] at m0
      have m1 := n 1 h1
      rw [show (1 : Int32).toInt = 1 from rfl] at m1
      have m2 := n 2 h2
      rw [show (2 : Int32).toInt = 2 from rfl] at m2
      have m3 := n 3 h3
      rw [show (3 : Int32).toInt = 3 from rfl] at m3
      have m4 := n 4 h4
      rw [show (4 : Int32).toInt = 4 from rfl] at m4
      have m5 := n 5 h5
      rw [show (5 : Int32).toInt = 5 from rfl] at m5
      have m6 := n 6 h6
      rw [show (6 : Int32).toInt = 6 from rfl] at m6
      have m7 := n 7 h7
      rw [show (7 : Int32).toInt = 7 from rfl] at m7
      have m8 := n 8 h8
      rw [show (8 : Int32).toInt = 8 from rfl] at m8
      have m9 := n 9 h9
      rw [show (9 : Int32).toInt = 9 from rfl] at m9
      have m10 := n 10 h10
      rw [show (10 : Int32).toInt = 10 from rfl] at m10
      have m11 := n 11 h11
      rw [show (11 : Int32).toInt = 11 from rfl] at m11
      have m12 := n 12 h12
      rw [show (12 : Int32).toInt = 12 from rfl] at m12
      have m13 := n 13 h13
      rw [show (13 : Int32).toInt = 13 from rfl] at m13
      have m14 := n 14 h14
      rw [show (14 : Int32).toInt = 14 from rfl] at m14
      have m15 := n 15 h15
      rw [show (15 : Int32).toInt = 15 from rfl] at m15
      have m16 := n 16 h16
      rw [show (16 : Int32).toInt = 16 from rfl] at m16
      have m17 := n 17 h17
      rw [show (17 : Int32).toInt = 17 from rfl] at m17
      have m18 := n 18 h18
      rw [show (18 : Int32).toInt = 18 from rfl] at m18
      omega) (by decide) (kd h0 h1 h2 h3 h4 h5 h6 h7 h8 h9 h10 h11 h12 h13 h14 h15 h16 h17 h18)
theorem d_Law_law_132 : decode code 132 = .ok (.aload_n 1, 1) := by decide +kernel
theorem s_Law_law_132 {l0 l2 l3 : Option ex_V} {r : Option Nat} (k : ex_E Γ d M_Law_law 133 [l0, some (.inr r), l2, l3] (.inr r :: st) K I F b Q) : ex_E Γ d M_Law_law 132 [l0, some (.inr r), l2, l3] (st) K I F b Q := ex_aload_n d_Law_law_132 rfl k
theorem d_Law_law_133 : decode code 133 = .ok (.aload_n 0, 1) := by decide +kernel
theorem s_Law_law_133 {l1 l2 l3 : Option ex_V} {r : Option Nat} (k : ex_E Γ d M_Law_law 134 [some (.inr r), l1, l2, l3] (.inr r :: st) K I F b Q) : ex_E Γ d M_Law_law 133 [some (.inr r), l1, l2, l3] (st) K I F b Q := ex_aload_n d_Law_law_133 rfl k
theorem d_Law_law_134 : decode code 134 = .ok (.iload_n 3, 1) := by decide +kernel
theorem s_Law_law_134 {l0 l1 l2 : Option ex_V} {x : Int32} (k : ex_E Γ d M_Law_law 135 [l0, l1, l2, some (.inl x)] (.inl x :: st) K I F b Q) : ex_E Γ d M_Law_law 134 [l0, l1, l2, some (.inl x)] (st) K I F b Q := ex_iload_n d_Law_law_134 rfl k
theorem d_Law_law_135 : decode code 135 = .ok (.iconst 1, 1) := by decide +kernel
theorem s_Law_law_135 {l0 l1 l2 l3 : Option ex_V} (k : ex_E Γ d M_Law_law 136 [l0, l1, l2, l3] (.inl 1 :: st) K I F b Q) : ex_E Γ d M_Law_law 135 [l0, l1, l2, l3] (st) K I F b Q := ex_iconst d_Law_law_135 (by decide +kernel) k
theorem d_Law_law_136 : decode code 136 = .ok (.iadd, 1) := by decide +kernel
theorem s_Law_law_136 {l0 l1 l2 l3 : Option ex_V} {x y : Int32} (k : ex_E Γ d M_Law_law 137 [l0, l1, l2, l3] (.inl (x + y) :: st) K I F b Q) : ex_E Γ d M_Law_law 136 [l0, l1, l2, l3] (.inl y :: .inl x :: st) K I F b Q := ex_iadd d_Law_law_136 k
theorem d_Law_law_137 : decode code 137 = .ok (.iaload, 1) := by decide +kernel
theorem s_Law_law_137 {l0 l1 l2 l3 : Option ex_V} {i : Int32} (hi : vp_in i Γ.2.2.2.2.2.2.1) (k : ex_E Γ d M_Law_law 138 [l0, l1, l2, l3] (.inl (Γ.2.2.2.2.2.2.2 i.toNatClampNeg) :: st) K I F b Q) : ex_E Γ d M_Law_law 137 [l0, l1, l2, l3] (.inl i :: .inr (some Γ.2.2.2.2.2.1) :: st) K I F b Q := ex_sld d_Law_law_137 hi k
theorem d_Law_law_138 : decode code 138 = .ok (.i2c, 1) := by decide +kernel
theorem s_Law_law_138 {l0 l1 l2 l3 : Option ex_V} {x : Int32} (k : ex_E Γ d M_Law_law 139 [l0, l1, l2, l3] (.inl ((x.toUInt32 % 65536).toInt32) :: st) K I F b Q) : ex_E Γ d M_Law_law 138 [l0, l1, l2, l3] (.inl x :: st) K I F b Q := ex_i2c d_Law_law_138 rfl k
theorem d_Law_law_139 : decode code 139 = .ok (.invokevirtual 21, 3) := by decide +kernel
theorem s_Law_law_139 {l0 l1 l2 l3 : Option ex_V} {r : Option Nat} {a : Nat} {x0 : Int32} {b1 b2 : Nat} {Q1 : Option ex_V → ex_K → ex_I → ex_F → Prop} (hr : r = some a) (ha : (K a).1 = 1) (h : ex_E Γ d M_FC_type 0 [some (.inr (some a)), some (.inl x0)] [] K I F b1 Q1) (kk : ∀ r K' I' F', Q1 r K' I' F' → ex_E Γ (d + 1) M_Law_law 142 [l0, l1, l2, l3] (r.toList ++ st) K' I' F' b2 Q) (hbb : b1 + b2 ≤ b) (hst : st.length ≤ 8 := by first | exact Nat.le_of_ble_eq_true rfl | simp) : ex_E Γ (d + 1) M_Law_law 139 [l0, l1, l2, l3] (.inl x0 :: .inr r :: st) K I F b Q := by
  subst hr
  exact ex_callV (Mc := M_FC_type) (n := 1) (av := [.inl x0]) (ci := 0) d_Law_law_139 (by decide) rfl rfl (by decide) rfl (by decide) (ex_good w_259) (List.mem_cons_of_mem _ w_256) (List.mem_cons_of_mem _ w_1) (List.mem_cons_of_mem _ w_257) (List.mem_cons_of_mem _ w_258) ⟨by decide +kernel, by decide +kernel, by decide +kernel⟩ rfl (Nat.le_of_ble_eq_true rfl) hst ha h hbb kk
theorem d_Law_law_142 : decode code 142 = .ok (.aload_n 2, 1) := by decide +kernel
theorem s_Law_law_142 {l0 l1 l3 : Option ex_V} {r : Option Nat} (k : ex_E Γ d M_Law_law 143 [l0, l1, some (.inr r), l3] (.inr r :: st) K I F b Q) : ex_E Γ d M_Law_law 142 [l0, l1, some (.inr r), l3] (st) K I F b Q := ex_aload_n d_Law_law_142 rfl k
theorem d_Law_law_143 : decode code 143 = .ok (.aload_n 0, 1) := by decide +kernel
theorem s_Law_law_143 {l1 l2 l3 : Option ex_V} {r : Option Nat} (k : ex_E Γ d M_Law_law 144 [some (.inr r), l1, l2, l3] (.inr r :: st) K I F b Q) : ex_E Γ d M_Law_law 143 [some (.inr r), l1, l2, l3] (st) K I F b Q := ex_aload_n d_Law_law_143 rfl k
theorem d_Law_law_144 : decode code 144 = .ok (.iload_n 3, 1) := by decide +kernel
theorem s_Law_law_144 {l0 l1 l2 : Option ex_V} {x : Int32} (k : ex_E Γ d M_Law_law 145 [l0, l1, l2, some (.inl x)] (.inl x :: st) K I F b Q) : ex_E Γ d M_Law_law 144 [l0, l1, l2, some (.inl x)] (st) K I F b Q := ex_iload_n d_Law_law_144 rfl k
theorem d_Law_law_145 : decode code 145 = .ok (.iconst 1, 1) := by decide +kernel
theorem s_Law_law_145 {l0 l1 l2 l3 : Option ex_V} (k : ex_E Γ d M_Law_law 146 [l0, l1, l2, l3] (.inl 1 :: st) K I F b Q) : ex_E Γ d M_Law_law 145 [l0, l1, l2, l3] (st) K I F b Q := ex_iconst d_Law_law_145 (by decide +kernel) k
theorem d_Law_law_146 : decode code 146 = .ok (.iadd, 1) := by decide +kernel
theorem s_Law_law_146 {l0 l1 l2 l3 : Option ex_V} {x y : Int32} (k : ex_E Γ d M_Law_law 147 [l0, l1, l2, l3] (.inl (x + y) :: st) K I F b Q) : ex_E Γ d M_Law_law 146 [l0, l1, l2, l3] (.inl y :: .inl x :: st) K I F b Q := ex_iadd d_Law_law_146 k
theorem d_Law_law_147 : decode code 147 = .ok (.iaload, 1) := by decide +kernel
theorem s_Law_law_147 {l0 l1 l2 l3 : Option ex_V} {i : Int32} (hi : vp_in i Γ.2.2.2.2.2.2.1) (k : ex_E Γ d M_Law_law 148 [l0, l1, l2, l3] (.inl (Γ.2.2.2.2.2.2.2 i.toNatClampNeg) :: st) K I F b Q) : ex_E Γ d M_Law_law 147 [l0, l1, l2, l3] (.inl i :: .inr (some Γ.2.2.2.2.2.1) :: st) K I F b Q := ex_sld d_Law_law_147 hi k
theorem d_Law_law_148 : decode code 148 = .ok (.i2c, 1) := by decide +kernel
theorem s_Law_law_148 {l0 l1 l2 l3 : Option ex_V} {x : Int32} (k : ex_E Γ d M_Law_law 149 [l0, l1, l2, l3] (.inl ((x.toUInt32 % 65536).toInt32) :: st) K I F b Q) : ex_E Γ d M_Law_law 148 [l0, l1, l2, l3] (.inl x :: st) K I F b Q := ex_i2c d_Law_law_148 rfl k
theorem d_Law_law_149 : decode code 149 = .ok (.invokevirtual 25, 3) := by decide +kernel
theorem s_Law_law_149 {l0 l1 l2 l3 : Option ex_V} {r : Option Nat} {a : Nat} {x0 : Int32} {b1 b2 : Nat} {Q1 : Option ex_V → ex_K → ex_I → ex_F → Prop} (hr : r = some a) (ha : (K a).1 = 12) (h : ex_E Γ d M_Mdl_type 0 [some (.inr (some a)), some (.inl x0)] [] K I F b1 Q1) (kk : ∀ r K' I' F', Q1 r K' I' F' → ex_E Γ (d + 1) M_Law_law 152 [l0, l1, l2, l3] (r.toList ++ st) K' I' F' b2 Q) (hbb : b1 + b2 ≤ b) (hst : st.length ≤ 8 := by first | exact Nat.le_of_ble_eq_true rfl | simp) : ex_E Γ (d + 1) M_Law_law 149 [l0, l1, l2, l3] (.inl x0 :: .inr r :: st) K I F b Q := by
  subst hr
  exact ex_callV (Mc := M_Mdl_type) (n := 1) (av := [.inl x0]) (ci := 11) d_Law_law_149 (by decide) rfl rfl (by decide) rfl (by decide) (ex_good w_842) (List.mem_cons_of_mem _ w_839) (List.mem_cons_of_mem _ w_11) (List.mem_cons_of_mem _ w_840) (List.mem_cons_of_mem _ w_841) ⟨by decide +kernel, by decide +kernel, by decide +kernel⟩ rfl (Nat.le_of_ble_eq_true rfl) hst ha h hbb kk
theorem d_Law_law_152 : decode code 152 = .ok (.if_icmp .eq 511, 3) := by decide +kernel
theorem s_Law_law_152 {l0 l1 l2 l3 : Option ex_V} {x y : Int32} (kt : x = y → ex_E Γ d M_Law_law 663 [l0, l1, l2, l3] (st) K I F b Q) (kf : ¬ x = y → ex_E Γ d M_Law_law 155 [l0, l1, l2, l3] (st) K I F b Q) : ex_E Γ d M_Law_law 152 [l0, l1, l2, l3] (.inl y :: .inl x :: st) K I F b Q := ex_icmp_eq d_Law_law_152 (by decide) kt kf
theorem d_Law_law_155 : decode code 155 = .ok (.iconst 0, 1) := by decide +kernel
theorem s_Law_law_155 {l0 l1 l2 l3 : Option ex_V} (k : ex_E Γ d M_Law_law 156 [l0, l1, l2, l3] (.inl 0 :: st) K I F b Q) : ex_E Γ d M_Law_law 155 [l0, l1, l2, l3] (st) K I F b Q := ex_iconst d_Law_law_155 (by decide +kernel) k
theorem d_Law_law_156 : decode code 156 = .ok (.ireturn, 1) := by decide +kernel
theorem s_Law_law_156 {l0 l1 l2 l3 : Option ex_V} {x : Int32} (hn : narrow .boolean (.int x) = .int x) (hq : Q (some (.inl x)) K I F) : ex_E Γ d M_Law_law 156 [l0, l1, l2, l3] ([.inl x]) K I F b Q := ex_zret d_Law_law_156 rfl hn hq
theorem d_Law_law_157 : decode code 157 = .ok (.aload_n 1, 1) := by decide +kernel
theorem s_Law_law_157 {l0 l2 l3 : Option ex_V} {r : Option Nat} (k : ex_E Γ d M_Law_law 158 [l0, some (.inr r), l2, l3] (.inr r :: st) K I F b Q) : ex_E Γ d M_Law_law 157 [l0, some (.inr r), l2, l3] (st) K I F b Q := ex_aload_n d_Law_law_157 rfl k
theorem d_Law_law_158 : decode code 158 = .ok (.aload_n 0, 1) := by decide +kernel
theorem s_Law_law_158 {l1 l2 l3 : Option ex_V} {r : Option Nat} (k : ex_E Γ d M_Law_law 159 [some (.inr r), l1, l2, l3] (.inr r :: st) K I F b Q) : ex_E Γ d M_Law_law 158 [some (.inr r), l1, l2, l3] (st) K I F b Q := ex_aload_n d_Law_law_158 rfl k
theorem d_Law_law_159 : decode code 159 = .ok (.iload_n 3, 1) := by decide +kernel
theorem s_Law_law_159 {l0 l1 l2 : Option ex_V} {x : Int32} (k : ex_E Γ d M_Law_law 160 [l0, l1, l2, some (.inl x)] (.inl x :: st) K I F b Q) : ex_E Γ d M_Law_law 159 [l0, l1, l2, some (.inl x)] (st) K I F b Q := ex_iload_n d_Law_law_159 rfl k
theorem d_Law_law_160 : decode code 160 = .ok (.iconst 1, 1) := by decide +kernel
theorem s_Law_law_160 {l0 l1 l2 l3 : Option ex_V} (k : ex_E Γ d M_Law_law 161 [l0, l1, l2, l3] (.inl 1 :: st) K I F b Q) : ex_E Γ d M_Law_law 160 [l0, l1, l2, l3] (st) K I F b Q := ex_iconst d_Law_law_160 (by decide +kernel) k
theorem d_Law_law_161 : decode code 161 = .ok (.iadd, 1) := by decide +kernel
theorem s_Law_law_161 {l0 l1 l2 l3 : Option ex_V} {x y : Int32} (k : ex_E Γ d M_Law_law 162 [l0, l1, l2, l3] (.inl (x + y) :: st) K I F b Q) : ex_E Γ d M_Law_law 161 [l0, l1, l2, l3] (.inl y :: .inl x :: st) K I F b Q := ex_iadd d_Law_law_161 k
theorem d_Law_law_162 : decode code 162 = .ok (.iaload, 1) := by decide +kernel
theorem s_Law_law_162 {l0 l1 l2 l3 : Option ex_V} {i : Int32} (hi : vp_in i Γ.2.2.2.2.2.2.1) (k : ex_E Γ d M_Law_law 163 [l0, l1, l2, l3] (.inl (Γ.2.2.2.2.2.2.2 i.toNatClampNeg) :: st) K I F b Q) : ex_E Γ d M_Law_law 162 [l0, l1, l2, l3] (.inl i :: .inr (some Γ.2.2.2.2.2.1) :: st) K I F b Q := ex_sld d_Law_law_162 hi k
theorem d_Law_law_163 : decode code 163 = .ok (.aload_n 0, 1) := by decide +kernel
theorem s_Law_law_163 {l1 l2 l3 : Option ex_V} {r : Option Nat} (k : ex_E Γ d M_Law_law 164 [some (.inr r), l1, l2, l3] (.inr r :: st) K I F b Q) : ex_E Γ d M_Law_law 163 [some (.inr r), l1, l2, l3] (st) K I F b Q := ex_aload_n d_Law_law_163 rfl k
theorem d_Law_law_164 : decode code 164 = .ok (.iload_n 3, 1) := by decide +kernel
theorem s_Law_law_164 {l0 l1 l2 : Option ex_V} {x : Int32} (k : ex_E Γ d M_Law_law 165 [l0, l1, l2, some (.inl x)] (.inl x :: st) K I F b Q) : ex_E Γ d M_Law_law 164 [l0, l1, l2, some (.inl x)] (st) K I F b Q := ex_iload_n d_Law_law_164 rfl k
theorem d_Law_law_165 : decode code 165 = .ok (.iconst 2, 1) := by decide +kernel
theorem s_Law_law_165 {l0 l1 l2 l3 : Option ex_V} (k : ex_E Γ d M_Law_law 166 [l0, l1, l2, l3] (.inl 2 :: st) K I F b Q) : ex_E Γ d M_Law_law 165 [l0, l1, l2, l3] (st) K I F b Q := ex_iconst d_Law_law_165 (by decide +kernel) k
theorem d_Law_law_166 : decode code 166 = .ok (.iadd, 1) := by decide +kernel
theorem s_Law_law_166 {l0 l1 l2 l3 : Option ex_V} {x y : Int32} (k : ex_E Γ d M_Law_law 167 [l0, l1, l2, l3] (.inl (x + y) :: st) K I F b Q) : ex_E Γ d M_Law_law 166 [l0, l1, l2, l3] (.inl y :: .inl x :: st) K I F b Q := ex_iadd d_Law_law_166 k
theorem d_Law_law_167 : decode code 167 = .ok (.iaload, 1) := by decide +kernel
theorem s_Law_law_167 {l0 l1 l2 l3 : Option ex_V} {i : Int32} (hi : vp_in i Γ.2.2.2.2.2.2.1) (k : ex_E Γ d M_Law_law 168 [l0, l1, l2, l3] (.inl (Γ.2.2.2.2.2.2.2 i.toNatClampNeg) :: st) K I F b Q) : ex_E Γ d M_Law_law 167 [l0, l1, l2, l3] (.inl i :: .inr (some Γ.2.2.2.2.2.1) :: st) K I F b Q := ex_sld d_Law_law_167 hi k
theorem d_Law_law_168 : decode code 168 = .ok (.aload_n 0, 1) := by decide +kernel
theorem s_Law_law_168 {l1 l2 l3 : Option ex_V} {r : Option Nat} (k : ex_E Γ d M_Law_law 169 [some (.inr r), l1, l2, l3] (.inr r :: st) K I F b Q) : ex_E Γ d M_Law_law 168 [some (.inr r), l1, l2, l3] (st) K I F b Q := ex_aload_n d_Law_law_168 rfl k
theorem d_Law_law_169 : decode code 169 = .ok (.iload_n 3, 1) := by decide +kernel
theorem s_Law_law_169 {l0 l1 l2 : Option ex_V} {x : Int32} (k : ex_E Γ d M_Law_law 170 [l0, l1, l2, some (.inl x)] (.inl x :: st) K I F b Q) : ex_E Γ d M_Law_law 169 [l0, l1, l2, some (.inl x)] (st) K I F b Q := ex_iload_n d_Law_law_169 rfl k
theorem d_Law_law_170 : decode code 170 = .ok (.iconst 3, 1) := by decide +kernel
theorem s_Law_law_170 {l0 l1 l2 l3 : Option ex_V} (k : ex_E Γ d M_Law_law 171 [l0, l1, l2, l3] (.inl 3 :: st) K I F b Q) : ex_E Γ d M_Law_law 170 [l0, l1, l2, l3] (st) K I F b Q := ex_iconst d_Law_law_170 (by decide +kernel) k
theorem d_Law_law_171 : decode code 171 = .ok (.iadd, 1) := by decide +kernel
theorem s_Law_law_171 {l0 l1 l2 l3 : Option ex_V} {x y : Int32} (k : ex_E Γ d M_Law_law 172 [l0, l1, l2, l3] (.inl (x + y) :: st) K I F b Q) : ex_E Γ d M_Law_law 171 [l0, l1, l2, l3] (.inl y :: .inl x :: st) K I F b Q := ex_iadd d_Law_law_171 k
theorem d_Law_law_172 : decode code 172 = .ok (.iaload, 1) := by decide +kernel
theorem s_Law_law_172 {l0 l1 l2 l3 : Option ex_V} {i : Int32} (hi : vp_in i Γ.2.2.2.2.2.2.1) (k : ex_E Γ d M_Law_law 173 [l0, l1, l2, l3] (.inl (Γ.2.2.2.2.2.2.2 i.toNatClampNeg) :: st) K I F b Q) : ex_E Γ d M_Law_law 172 [l0, l1, l2, l3] (.inl i :: .inr (some Γ.2.2.2.2.2.1) :: st) K I F b Q := ex_sld d_Law_law_172 hi k
theorem d_Law_law_173 : decode code 173 = .ok (.ifCond .eq 7, 3) := by decide +kernel
theorem s_Law_law_173 {l0 l1 l2 l3 : Option ex_V} {x : Int32} (kt : x = 0 → ex_E Γ d M_Law_law 180 [l0, l1, l2, l3] (st) K I F b Q) (kf : ¬ x = 0 → ex_E Γ d M_Law_law 176 [l0, l1, l2, l3] (st) K I F b Q) : ex_E Γ d M_Law_law 173 [l0, l1, l2, l3] (.inl x :: st) K I F b Q := ex_if_eq d_Law_law_173 (by decide) kt kf
theorem d_Law_law_176 : decode code 176 = .ok (.iconst 1, 1) := by decide +kernel
theorem s_Law_law_176 {l0 l1 l2 l3 : Option ex_V} (k : ex_E Γ d M_Law_law 177 [l0, l1, l2, l3] (.inl 1 :: st) K I F b Q) : ex_E Γ d M_Law_law 176 [l0, l1, l2, l3] (st) K I F b Q := ex_iconst d_Law_law_176 (by decide +kernel) k
theorem d_Law_law_177 : decode code 177 = .ok (.goto 4, 3) := by decide +kernel
theorem s_Law_law_177 {l0 l1 l2 l3 : Option ex_V} (k : ex_E Γ d M_Law_law 181 [l0, l1, l2, l3] (st) K I F b Q) : ex_E Γ d M_Law_law 177 [l0, l1, l2, l3] (st) K I F b Q := ex_goto d_Law_law_177 (by decide) k
theorem d_Law_law_180 : decode code 180 = .ok (.iconst 0, 1) := by decide +kernel
theorem s_Law_law_180 {l0 l1 l2 l3 : Option ex_V} (k : ex_E Γ d M_Law_law 181 [l0, l1, l2, l3] (.inl 0 :: st) K I F b Q) : ex_E Γ d M_Law_law 180 [l0, l1, l2, l3] (st) K I F b Q := ex_iconst d_Law_law_180 (by decide +kernel) k
theorem d_Law_law_181 : decode code 181 = .ok (.invokevirtual 26, 3) := by decide +kernel
theorem s_Law_law_181 {l0 l1 l2 l3 : Option ex_V} {r : Option Nat} {a : Nat} {x0 : Int32} {x1 : Int32} {x2 : Int32} {b1 b2 : Nat} {Q1 : Option ex_V → ex_K → ex_I → ex_F → Prop} (hr : r = some a) (ha : (K a).1 = 1) (h : ex_E Γ d M_FC_publish 0 [some (.inr (some a)), some (.inl x0), some (.inl x1), some (.inl x2)] [] K I F b1 Q1) (kk : ∀ r K' I' F', Q1 r K' I' F' → ex_E Γ (d + 1) M_Law_law 184 [l0, l1, l2, l3] (r.toList ++ st) K' I' F' b2 Q) (hbb : b1 + b2 ≤ b) (hst : st.length ≤ 8 := by first | exact Nat.le_of_ble_eq_true rfl | simp) : ex_E Γ (d + 1) M_Law_law 181 [l0, l1, l2, l3] (.inl x2 :: .inl x1 :: .inl x0 :: .inr r :: st) K I F b Q := by
  subst hr
  exact ex_callV (Mc := M_FC_publish) (n := 3) (av := [.inl x0, .inl x1, .inl x2]) (ci := 0) d_Law_law_181 (by decide) rfl rfl (by decide) rfl (by decide) (ex_good w_267) (List.mem_cons_of_mem _ w_264) (List.mem_cons_of_mem _ w_1) (List.mem_cons_of_mem _ w_265) (List.mem_cons_of_mem _ w_266) ⟨by decide +kernel, by decide +kernel, by decide +kernel⟩ rfl (Nat.le_of_ble_eq_true rfl) hst ha h hbb kk
theorem d_Law_law_184 : decode code 184 = .ok (.aload_n 2, 1) := by decide +kernel
theorem s_Law_law_184 {l0 l1 l3 : Option ex_V} {r : Option Nat} (k : ex_E Γ d M_Law_law 185 [l0, l1, some (.inr r), l3] (.inr r :: st) K I F b Q) : ex_E Γ d M_Law_law 184 [l0, l1, some (.inr r), l3] (st) K I F b Q := ex_aload_n d_Law_law_184 rfl k
theorem d_Law_law_185 : decode code 185 = .ok (.aload_n 0, 1) := by decide +kernel
theorem s_Law_law_185 {l1 l2 l3 : Option ex_V} {r : Option Nat} (k : ex_E Γ d M_Law_law 186 [some (.inr r), l1, l2, l3] (.inr r :: st) K I F b Q) : ex_E Γ d M_Law_law 185 [some (.inr r), l1, l2, l3] (st) K I F b Q := ex_aload_n d_Law_law_185 rfl k
theorem d_Law_law_186 : decode code 186 = .ok (.iload_n 3, 1) := by decide +kernel
theorem s_Law_law_186 {l0 l1 l2 : Option ex_V} {x : Int32} (k : ex_E Γ d M_Law_law 187 [l0, l1, l2, some (.inl x)] (.inl x :: st) K I F b Q) : ex_E Γ d M_Law_law 186 [l0, l1, l2, some (.inl x)] (st) K I F b Q := ex_iload_n d_Law_law_186 rfl k
theorem d_Law_law_187 : decode code 187 = .ok (.iconst 1, 1) := by decide +kernel
theorem s_Law_law_187 {l0 l1 l2 l3 : Option ex_V} (k : ex_E Γ d M_Law_law 188 [l0, l1, l2, l3] (.inl 1 :: st) K I F b Q) : ex_E Γ d M_Law_law 187 [l0, l1, l2, l3] (st) K I F b Q := ex_iconst d_Law_law_187 (by decide +kernel) k
theorem d_Law_law_188 : decode code 188 = .ok (.iadd, 1) := by decide +kernel
theorem s_Law_law_188 {l0 l1 l2 l3 : Option ex_V} {x y : Int32} (k : ex_E Γ d M_Law_law 189 [l0, l1, l2, l3] (.inl (x + y) :: st) K I F b Q) : ex_E Γ d M_Law_law 188 [l0, l1, l2, l3] (.inl y :: .inl x :: st) K I F b Q := ex_iadd d_Law_law_188 k
theorem d_Law_law_189 : decode code 189 = .ok (.iaload, 1) := by decide +kernel
theorem s_Law_law_189 {l0 l1 l2 l3 : Option ex_V} {i : Int32} (hi : vp_in i Γ.2.2.2.2.2.2.1) (k : ex_E Γ d M_Law_law 190 [l0, l1, l2, l3] (.inl (Γ.2.2.2.2.2.2.2 i.toNatClampNeg) :: st) K I F b Q) : ex_E Γ d M_Law_law 189 [l0, l1, l2, l3] (.inl i :: .inr (some Γ.2.2.2.2.2.1) :: st) K I F b Q := ex_sld d_Law_law_189 hi k
theorem d_Law_law_190 : decode code 190 = .ok (.aload_n 0, 1) := by decide +kernel
theorem s_Law_law_190 {l1 l2 l3 : Option ex_V} {r : Option Nat} (k : ex_E Γ d M_Law_law 191 [some (.inr r), l1, l2, l3] (.inr r :: st) K I F b Q) : ex_E Γ d M_Law_law 190 [some (.inr r), l1, l2, l3] (st) K I F b Q := ex_aload_n d_Law_law_190 rfl k
theorem d_Law_law_191 : decode code 191 = .ok (.iload_n 3, 1) := by decide +kernel
theorem s_Law_law_191 {l0 l1 l2 : Option ex_V} {x : Int32} (k : ex_E Γ d M_Law_law 192 [l0, l1, l2, some (.inl x)] (.inl x :: st) K I F b Q) : ex_E Γ d M_Law_law 191 [l0, l1, l2, some (.inl x)] (st) K I F b Q := ex_iload_n d_Law_law_191 rfl k
theorem d_Law_law_192 : decode code 192 = .ok (.iconst 2, 1) := by decide +kernel
theorem s_Law_law_192 {l0 l1 l2 l3 : Option ex_V} (k : ex_E Γ d M_Law_law 193 [l0, l1, l2, l3] (.inl 2 :: st) K I F b Q) : ex_E Γ d M_Law_law 192 [l0, l1, l2, l3] (st) K I F b Q := ex_iconst d_Law_law_192 (by decide +kernel) k
theorem d_Law_law_193 : decode code 193 = .ok (.iadd, 1) := by decide +kernel
theorem s_Law_law_193 {l0 l1 l2 l3 : Option ex_V} {x y : Int32} (k : ex_E Γ d M_Law_law 194 [l0, l1, l2, l3] (.inl (x + y) :: st) K I F b Q) : ex_E Γ d M_Law_law 193 [l0, l1, l2, l3] (.inl y :: .inl x :: st) K I F b Q := ex_iadd d_Law_law_193 k
theorem d_Law_law_194 : decode code 194 = .ok (.iaload, 1) := by decide +kernel
theorem s_Law_law_194 {l0 l1 l2 l3 : Option ex_V} {i : Int32} (hi : vp_in i Γ.2.2.2.2.2.2.1) (k : ex_E Γ d M_Law_law 195 [l0, l1, l2, l3] (.inl (Γ.2.2.2.2.2.2.2 i.toNatClampNeg) :: st) K I F b Q) : ex_E Γ d M_Law_law 194 [l0, l1, l2, l3] (.inl i :: .inr (some Γ.2.2.2.2.2.1) :: st) K I F b Q := ex_sld d_Law_law_194 hi k
theorem d_Law_law_195 : decode code 195 = .ok (.aload_n 0, 1) := by decide +kernel
theorem s_Law_law_195 {l1 l2 l3 : Option ex_V} {r : Option Nat} (k : ex_E Γ d M_Law_law 196 [some (.inr r), l1, l2, l3] (.inr r :: st) K I F b Q) : ex_E Γ d M_Law_law 195 [some (.inr r), l1, l2, l3] (st) K I F b Q := ex_aload_n d_Law_law_195 rfl k
theorem d_Law_law_196 : decode code 196 = .ok (.iload_n 3, 1) := by decide +kernel
theorem s_Law_law_196 {l0 l1 l2 : Option ex_V} {x : Int32} (k : ex_E Γ d M_Law_law 197 [l0, l1, l2, some (.inl x)] (.inl x :: st) K I F b Q) : ex_E Γ d M_Law_law 196 [l0, l1, l2, some (.inl x)] (st) K I F b Q := ex_iload_n d_Law_law_196 rfl k
theorem d_Law_law_197 : decode code 197 = .ok (.iconst 3, 1) := by decide +kernel
theorem s_Law_law_197 {l0 l1 l2 l3 : Option ex_V} (k : ex_E Γ d M_Law_law 198 [l0, l1, l2, l3] (.inl 3 :: st) K I F b Q) : ex_E Γ d M_Law_law 197 [l0, l1, l2, l3] (st) K I F b Q := ex_iconst d_Law_law_197 (by decide +kernel) k
theorem d_Law_law_198 : decode code 198 = .ok (.iadd, 1) := by decide +kernel
theorem s_Law_law_198 {l0 l1 l2 l3 : Option ex_V} {x y : Int32} (k : ex_E Γ d M_Law_law 199 [l0, l1, l2, l3] (.inl (x + y) :: st) K I F b Q) : ex_E Γ d M_Law_law 198 [l0, l1, l2, l3] (.inl y :: .inl x :: st) K I F b Q := ex_iadd d_Law_law_198 k
theorem d_Law_law_199 : decode code 199 = .ok (.iaload, 1) := by decide +kernel
theorem s_Law_law_199 {l0 l1 l2 l3 : Option ex_V} {i : Int32} (hi : vp_in i Γ.2.2.2.2.2.2.1) (k : ex_E Γ d M_Law_law 200 [l0, l1, l2, l3] (.inl (Γ.2.2.2.2.2.2.2 i.toNatClampNeg) :: st) K I F b Q) : ex_E Γ d M_Law_law 199 [l0, l1, l2, l3] (.inl i :: .inr (some Γ.2.2.2.2.2.1) :: st) K I F b Q := ex_sld d_Law_law_199 hi k
theorem d_Law_law_200 : decode code 200 = .ok (.ifCond .eq 7, 3) := by decide +kernel
theorem s_Law_law_200 {l0 l1 l2 l3 : Option ex_V} {x : Int32} (kt : x = 0 → ex_E Γ d M_Law_law 207 [l0, l1, l2, l3] (st) K I F b Q) (kf : ¬ x = 0 → ex_E Γ d M_Law_law 203 [l0, l1, l2, l3] (st) K I F b Q) : ex_E Γ d M_Law_law 200 [l0, l1, l2, l3] (.inl x :: st) K I F b Q := ex_if_eq d_Law_law_200 (by decide) kt kf
theorem d_Law_law_203 : decode code 203 = .ok (.iconst 1, 1) := by decide +kernel
theorem s_Law_law_203 {l0 l1 l2 l3 : Option ex_V} (k : ex_E Γ d M_Law_law 204 [l0, l1, l2, l3] (.inl 1 :: st) K I F b Q) : ex_E Γ d M_Law_law 203 [l0, l1, l2, l3] (st) K I F b Q := ex_iconst d_Law_law_203 (by decide +kernel) k
theorem d_Law_law_204 : decode code 204 = .ok (.goto 4, 3) := by decide +kernel
theorem s_Law_law_204 {l0 l1 l2 l3 : Option ex_V} (k : ex_E Γ d M_Law_law 208 [l0, l1, l2, l3] (st) K I F b Q) : ex_E Γ d M_Law_law 204 [l0, l1, l2, l3] (st) K I F b Q := ex_goto d_Law_law_204 (by decide) k
theorem d_Law_law_207 : decode code 207 = .ok (.iconst 0, 1) := by decide +kernel
theorem s_Law_law_207 {l0 l1 l2 l3 : Option ex_V} (k : ex_E Γ d M_Law_law 208 [l0, l1, l2, l3] (.inl 0 :: st) K I F b Q) : ex_E Γ d M_Law_law 207 [l0, l1, l2, l3] (st) K I F b Q := ex_iconst d_Law_law_207 (by decide +kernel) k
theorem d_Law_law_208 : decode code 208 = .ok (.invokevirtual 30, 3) := by decide +kernel
theorem s_Law_law_208 {l0 l1 l2 l3 : Option ex_V} {r : Option Nat} {a : Nat} {x0 : Int32} {x1 : Int32} {x2 : Int32} {b1 b2 : Nat} {Q1 : Option ex_V → ex_K → ex_I → ex_F → Prop} (hr : r = some a) (ha : (K a).1 = 12) (h : ex_E Γ d M_Mdl_publish 0 [some (.inr (some a)), some (.inl x0), some (.inl x1), some (.inl x2), none] [] K I F b1 Q1) (kk : ∀ r K' I' F', Q1 r K' I' F' → ex_E Γ (d + 1) M_Law_law 211 [l0, l1, l2, l3] (r.toList ++ st) K' I' F' b2 Q) (hbb : b1 + b2 ≤ b) (hst : st.length ≤ 8 := by first | exact Nat.le_of_ble_eq_true rfl | simp) : ex_E Γ (d + 1) M_Law_law 208 [l0, l1, l2, l3] (.inl x2 :: .inl x1 :: .inl x0 :: .inr r :: st) K I F b Q := by
  subst hr
  exact ex_callV (Mc := M_Mdl_publish) (n := 3) (av := [.inl x0, .inl x1, .inl x2]) (ci := 11) d_Law_law_208 (by decide) rfl rfl (by decide) rfl (by decide) (ex_good w_860) (List.mem_cons_of_mem _ w_857) (List.mem_cons_of_mem _ w_11) (List.mem_cons_of_mem _ w_858) (List.mem_cons_of_mem _ w_859) ⟨by decide +kernel, by decide +kernel, by decide +kernel⟩ rfl (Nat.le_of_ble_eq_true rfl) hst ha h hbb kk
theorem d_Law_law_211 : decode code 211 = .ok (.if_icmp .eq 452, 3) := by decide +kernel
theorem s_Law_law_211 {l0 l1 l2 l3 : Option ex_V} {x y : Int32} (kt : x = y → ex_E Γ d M_Law_law 663 [l0, l1, l2, l3] (st) K I F b Q) (kf : ¬ x = y → ex_E Γ d M_Law_law 214 [l0, l1, l2, l3] (st) K I F b Q) : ex_E Γ d M_Law_law 211 [l0, l1, l2, l3] (.inl y :: .inl x :: st) K I F b Q := ex_icmp_eq d_Law_law_211 (by decide) kt kf
theorem d_Law_law_214 : decode code 214 = .ok (.iconst 0, 1) := by decide +kernel
theorem s_Law_law_214 {l0 l1 l2 l3 : Option ex_V} (k : ex_E Γ d M_Law_law 215 [l0, l1, l2, l3] (.inl 0 :: st) K I F b Q) : ex_E Γ d M_Law_law 214 [l0, l1, l2, l3] (st) K I F b Q := ex_iconst d_Law_law_214 (by decide +kernel) k
theorem d_Law_law_215 : decode code 215 = .ok (.ireturn, 1) := by decide +kernel
theorem s_Law_law_215 {l0 l1 l2 l3 : Option ex_V} {x : Int32} (hn : narrow .boolean (.int x) = .int x) (hq : Q (some (.inl x)) K I F) : ex_E Γ d M_Law_law 215 [l0, l1, l2, l3] ([.inl x]) K I F b Q := ex_zret d_Law_law_215 rfl hn hq
theorem d_Law_law_216 : decode code 216 = .ok (.aload_n 1, 1) := by decide +kernel
theorem s_Law_law_216 {l0 l2 l3 : Option ex_V} {r : Option Nat} (k : ex_E Γ d M_Law_law 217 [l0, some (.inr r), l2, l3] (.inr r :: st) K I F b Q) : ex_E Γ d M_Law_law 216 [l0, some (.inr r), l2, l3] (st) K I F b Q := ex_aload_n d_Law_law_216 rfl k
theorem d_Law_law_217 : decode code 217 = .ok (.aload_n 0, 1) := by decide +kernel
theorem s_Law_law_217 {l1 l2 l3 : Option ex_V} {r : Option Nat} (k : ex_E Γ d M_Law_law 218 [some (.inr r), l1, l2, l3] (.inr r :: st) K I F b Q) : ex_E Γ d M_Law_law 217 [some (.inr r), l1, l2, l3] (st) K I F b Q := ex_aload_n d_Law_law_217 rfl k
theorem d_Law_law_218 : decode code 218 = .ok (.iload_n 3, 1) := by decide +kernel
theorem s_Law_law_218 {l0 l1 l2 : Option ex_V} {x : Int32} (k : ex_E Γ d M_Law_law 219 [l0, l1, l2, some (.inl x)] (.inl x :: st) K I F b Q) : ex_E Γ d M_Law_law 218 [l0, l1, l2, some (.inl x)] (st) K I F b Q := ex_iload_n d_Law_law_218 rfl k
theorem d_Law_law_219 : decode code 219 = .ok (.iconst 1, 1) := by decide +kernel
theorem s_Law_law_219 {l0 l1 l2 l3 : Option ex_V} (k : ex_E Γ d M_Law_law 220 [l0, l1, l2, l3] (.inl 1 :: st) K I F b Q) : ex_E Γ d M_Law_law 219 [l0, l1, l2, l3] (st) K I F b Q := ex_iconst d_Law_law_219 (by decide +kernel) k
theorem d_Law_law_220 : decode code 220 = .ok (.iadd, 1) := by decide +kernel
theorem s_Law_law_220 {l0 l1 l2 l3 : Option ex_V} {x y : Int32} (k : ex_E Γ d M_Law_law 221 [l0, l1, l2, l3] (.inl (x + y) :: st) K I F b Q) : ex_E Γ d M_Law_law 220 [l0, l1, l2, l3] (.inl y :: .inl x :: st) K I F b Q := ex_iadd d_Law_law_220 k
theorem d_Law_law_221 : decode code 221 = .ok (.iaload, 1) := by decide +kernel
theorem s_Law_law_221 {l0 l1 l2 l3 : Option ex_V} {i : Int32} (hi : vp_in i Γ.2.2.2.2.2.2.1) (k : ex_E Γ d M_Law_law 222 [l0, l1, l2, l3] (.inl (Γ.2.2.2.2.2.2.2 i.toNatClampNeg) :: st) K I F b Q) : ex_E Γ d M_Law_law 221 [l0, l1, l2, l3] (.inl i :: .inr (some Γ.2.2.2.2.2.1) :: st) K I F b Q := ex_sld d_Law_law_221 hi k
theorem d_Law_law_222 : decode code 222 = .ok (.invokevirtual 31, 3) := by decide +kernel
theorem s_Law_law_222 {l0 l1 l2 l3 : Option ex_V} {r : Option Nat} {a : Nat} {x0 : Int32} {b1 b2 : Nat} {Q1 : Option ex_V → ex_K → ex_I → ex_F → Prop} (hr : r = some a) (ha : (K a).1 = 1) (h : ex_E Γ d M_FC_withdraw 0 [some (.inr (some a)), some (.inl x0)] [] K I F b1 Q1) (kk : ∀ r K' I' F', Q1 r K' I' F' → ex_E Γ (d + 1) M_Law_law 225 [l0, l1, l2, l3] (r.toList ++ st) K' I' F' b2 Q) (hbb : b1 + b2 ≤ b) (hst : st.length ≤ 8 := by first | exact Nat.le_of_ble_eq_true rfl | simp) : ex_E Γ (d + 1) M_Law_law 222 [l0, l1, l2, l3] (.inl x0 :: .inr r :: st) K I F b Q := by
  subst hr
  exact ex_callV (Mc := M_FC_withdraw) (n := 1) (av := [.inl x0]) (ci := 0) d_Law_law_222 (by decide) rfl rfl (by decide) rfl (by decide) (ex_good w_373) (List.mem_cons_of_mem _ w_370) (List.mem_cons_of_mem _ w_1) (List.mem_cons_of_mem _ w_371) (List.mem_cons_of_mem _ w_372) ⟨by decide +kernel, by decide +kernel, by decide +kernel⟩ rfl (Nat.le_of_ble_eq_true rfl) hst ha h hbb kk
theorem d_Law_law_225 : decode code 225 = .ok (.aload_n 2, 1) := by decide +kernel
theorem s_Law_law_225 {l0 l1 l3 : Option ex_V} {r : Option Nat} (k : ex_E Γ d M_Law_law 226 [l0, l1, some (.inr r), l3] (.inr r :: st) K I F b Q) : ex_E Γ d M_Law_law 225 [l0, l1, some (.inr r), l3] (st) K I F b Q := ex_aload_n d_Law_law_225 rfl k
theorem d_Law_law_226 : decode code 226 = .ok (.aload_n 0, 1) := by decide +kernel
theorem s_Law_law_226 {l1 l2 l3 : Option ex_V} {r : Option Nat} (k : ex_E Γ d M_Law_law 227 [some (.inr r), l1, l2, l3] (.inr r :: st) K I F b Q) : ex_E Γ d M_Law_law 226 [some (.inr r), l1, l2, l3] (st) K I F b Q := ex_aload_n d_Law_law_226 rfl k
theorem d_Law_law_227 : decode code 227 = .ok (.iload_n 3, 1) := by decide +kernel
theorem s_Law_law_227 {l0 l1 l2 : Option ex_V} {x : Int32} (k : ex_E Γ d M_Law_law 228 [l0, l1, l2, some (.inl x)] (.inl x :: st) K I F b Q) : ex_E Γ d M_Law_law 227 [l0, l1, l2, some (.inl x)] (st) K I F b Q := ex_iload_n d_Law_law_227 rfl k
theorem d_Law_law_228 : decode code 228 = .ok (.iconst 1, 1) := by decide +kernel
theorem s_Law_law_228 {l0 l1 l2 l3 : Option ex_V} (k : ex_E Γ d M_Law_law 229 [l0, l1, l2, l3] (.inl 1 :: st) K I F b Q) : ex_E Γ d M_Law_law 228 [l0, l1, l2, l3] (st) K I F b Q := ex_iconst d_Law_law_228 (by decide +kernel) k
theorem d_Law_law_229 : decode code 229 = .ok (.iadd, 1) := by decide +kernel
theorem s_Law_law_229 {l0 l1 l2 l3 : Option ex_V} {x y : Int32} (k : ex_E Γ d M_Law_law 230 [l0, l1, l2, l3] (.inl (x + y) :: st) K I F b Q) : ex_E Γ d M_Law_law 229 [l0, l1, l2, l3] (.inl y :: .inl x :: st) K I F b Q := ex_iadd d_Law_law_229 k
theorem d_Law_law_230 : decode code 230 = .ok (.iaload, 1) := by decide +kernel
theorem s_Law_law_230 {l0 l1 l2 l3 : Option ex_V} {i : Int32} (hi : vp_in i Γ.2.2.2.2.2.2.1) (k : ex_E Γ d M_Law_law 231 [l0, l1, l2, l3] (.inl (Γ.2.2.2.2.2.2.2 i.toNatClampNeg) :: st) K I F b Q) : ex_E Γ d M_Law_law 230 [l0, l1, l2, l3] (.inl i :: .inr (some Γ.2.2.2.2.2.1) :: st) K I F b Q := ex_sld d_Law_law_230 hi k
theorem d_Law_law_231 : decode code 231 = .ok (.invokevirtual 35, 3) := by decide +kernel
theorem s_Law_law_231 {l0 l1 l2 l3 : Option ex_V} {r : Option Nat} {a : Nat} {x0 : Int32} {b1 b2 : Nat} {Q1 : Option ex_V → ex_K → ex_I → ex_F → Prop} (hr : r = some a) (ha : (K a).1 = 12) (h : ex_E Γ d M_Mdl_withdraw 0 [some (.inr (some a)), some (.inl x0)] [] K I F b1 Q1) (kk : ∀ r K' I' F', Q1 r K' I' F' → ex_E Γ (d + 1) M_Law_law 234 [l0, l1, l2, l3] (r.toList ++ st) K' I' F' b2 Q) (hbb : b1 + b2 ≤ b) (hst : st.length ≤ 8 := by first | exact Nat.le_of_ble_eq_true rfl | simp) : ex_E Γ (d + 1) M_Law_law 231 [l0, l1, l2, l3] (.inl x0 :: .inr r :: st) K I F b Q := by
  subst hr
  exact ex_callV (Mc := M_Mdl_withdraw) (n := 1) (av := [.inl x0]) (ci := 11) d_Law_law_231 (by decide) rfl rfl (by decide) rfl (by decide) (ex_good w_876) (List.mem_cons_of_mem _ w_873) (List.mem_cons_of_mem _ w_11) (List.mem_cons_of_mem _ w_874) (List.mem_cons_of_mem _ w_875) ⟨by decide +kernel, by decide +kernel, by decide +kernel⟩ rfl (Nat.le_of_ble_eq_true rfl) hst ha h hbb kk
theorem d_Law_law_234 : decode code 234 = .ok (.if_icmp .eq 429, 3) := by decide +kernel
theorem s_Law_law_234 {l0 l1 l2 l3 : Option ex_V} {x y : Int32} (kt : x = y → ex_E Γ d M_Law_law 663 [l0, l1, l2, l3] (st) K I F b Q) (kf : ¬ x = y → ex_E Γ d M_Law_law 237 [l0, l1, l2, l3] (st) K I F b Q) : ex_E Γ d M_Law_law 234 [l0, l1, l2, l3] (.inl y :: .inl x :: st) K I F b Q := ex_icmp_eq d_Law_law_234 (by decide) kt kf
theorem d_Law_law_237 : decode code 237 = .ok (.iconst 0, 1) := by decide +kernel
theorem s_Law_law_237 {l0 l1 l2 l3 : Option ex_V} (k : ex_E Γ d M_Law_law 238 [l0, l1, l2, l3] (.inl 0 :: st) K I F b Q) : ex_E Γ d M_Law_law 237 [l0, l1, l2, l3] (st) K I F b Q := ex_iconst d_Law_law_237 (by decide +kernel) k
theorem d_Law_law_238 : decode code 238 = .ok (.ireturn, 1) := by decide +kernel
theorem s_Law_law_238 {l0 l1 l2 l3 : Option ex_V} {x : Int32} (hn : narrow .boolean (.int x) = .int x) (hq : Q (some (.inl x)) K I F) : ex_E Γ d M_Law_law 238 [l0, l1, l2, l3] ([.inl x]) K I F b Q := ex_zret d_Law_law_238 rfl hn hq
theorem d_Law_law_239 : decode code 239 = .ok (.aload_n 1, 1) := by decide +kernel
theorem s_Law_law_239 {l0 l2 l3 : Option ex_V} {r : Option Nat} (k : ex_E Γ d M_Law_law 240 [l0, some (.inr r), l2, l3] (.inr r :: st) K I F b Q) : ex_E Γ d M_Law_law 239 [l0, some (.inr r), l2, l3] (st) K I F b Q := ex_aload_n d_Law_law_239 rfl k
theorem d_Law_law_240 : decode code 240 = .ok (.aload_n 0, 1) := by decide +kernel
theorem s_Law_law_240 {l1 l2 l3 : Option ex_V} {r : Option Nat} (k : ex_E Γ d M_Law_law 241 [some (.inr r), l1, l2, l3] (.inr r :: st) K I F b Q) : ex_E Γ d M_Law_law 240 [some (.inr r), l1, l2, l3] (st) K I F b Q := ex_aload_n d_Law_law_240 rfl k
theorem d_Law_law_241 : decode code 241 = .ok (.iload_n 3, 1) := by decide +kernel
theorem s_Law_law_241 {l0 l1 l2 : Option ex_V} {x : Int32} (k : ex_E Γ d M_Law_law 242 [l0, l1, l2, some (.inl x)] (.inl x :: st) K I F b Q) : ex_E Γ d M_Law_law 241 [l0, l1, l2, some (.inl x)] (st) K I F b Q := ex_iload_n d_Law_law_241 rfl k
theorem d_Law_law_242 : decode code 242 = .ok (.iconst 1, 1) := by decide +kernel
theorem s_Law_law_242 {l0 l1 l2 l3 : Option ex_V} (k : ex_E Γ d M_Law_law 243 [l0, l1, l2, l3] (.inl 1 :: st) K I F b Q) : ex_E Γ d M_Law_law 242 [l0, l1, l2, l3] (st) K I F b Q := ex_iconst d_Law_law_242 (by decide +kernel) k
theorem d_Law_law_243 : decode code 243 = .ok (.iadd, 1) := by decide +kernel
theorem s_Law_law_243 {l0 l1 l2 l3 : Option ex_V} {x y : Int32} (k : ex_E Γ d M_Law_law 244 [l0, l1, l2, l3] (.inl (x + y) :: st) K I F b Q) : ex_E Γ d M_Law_law 243 [l0, l1, l2, l3] (.inl y :: .inl x :: st) K I F b Q := ex_iadd d_Law_law_243 k
theorem d_Law_law_244 : decode code 244 = .ok (.iaload, 1) := by decide +kernel
theorem s_Law_law_244 {l0 l1 l2 l3 : Option ex_V} {i : Int32} (hi : vp_in i Γ.2.2.2.2.2.2.1) (k : ex_E Γ d M_Law_law 245 [l0, l1, l2, l3] (.inl (Γ.2.2.2.2.2.2.2 i.toNatClampNeg) :: st) K I F b Q) : ex_E Γ d M_Law_law 244 [l0, l1, l2, l3] (.inl i :: .inr (some Γ.2.2.2.2.2.1) :: st) K I F b Q := ex_sld d_Law_law_244 hi k
theorem d_Law_law_245 : decode code 245 = .ok (.aload_n 0, 1) := by decide +kernel
theorem s_Law_law_245 {l1 l2 l3 : Option ex_V} {r : Option Nat} (k : ex_E Γ d M_Law_law 246 [some (.inr r), l1, l2, l3] (.inr r :: st) K I F b Q) : ex_E Γ d M_Law_law 245 [some (.inr r), l1, l2, l3] (st) K I F b Q := ex_aload_n d_Law_law_245 rfl k
theorem d_Law_law_246 : decode code 246 = .ok (.iload_n 3, 1) := by decide +kernel
theorem s_Law_law_246 {l0 l1 l2 : Option ex_V} {x : Int32} (k : ex_E Γ d M_Law_law 247 [l0, l1, l2, some (.inl x)] (.inl x :: st) K I F b Q) : ex_E Γ d M_Law_law 246 [l0, l1, l2, some (.inl x)] (st) K I F b Q := ex_iload_n d_Law_law_246 rfl k
theorem d_Law_law_247 : decode code 247 = .ok (.iconst 2, 1) := by decide +kernel
theorem s_Law_law_247 {l0 l1 l2 l3 : Option ex_V} (k : ex_E Γ d M_Law_law 248 [l0, l1, l2, l3] (.inl 2 :: st) K I F b Q) : ex_E Γ d M_Law_law 247 [l0, l1, l2, l3] (st) K I F b Q := ex_iconst d_Law_law_247 (by decide +kernel) k
theorem d_Law_law_248 : decode code 248 = .ok (.iadd, 1) := by decide +kernel
theorem s_Law_law_248 {l0 l1 l2 l3 : Option ex_V} {x y : Int32} (k : ex_E Γ d M_Law_law 249 [l0, l1, l2, l3] (.inl (x + y) :: st) K I F b Q) : ex_E Γ d M_Law_law 248 [l0, l1, l2, l3] (.inl y :: .inl x :: st) K I F b Q := ex_iadd d_Law_law_248 k
theorem d_Law_law_249 : decode code 249 = .ok (.iaload, 1) := by decide +kernel
theorem s_Law_law_249 {l0 l1 l2 l3 : Option ex_V} {i : Int32} (hi : vp_in i Γ.2.2.2.2.2.2.1) (k : ex_E Γ d M_Law_law 250 [l0, l1, l2, l3] (.inl (Γ.2.2.2.2.2.2.2 i.toNatClampNeg) :: st) K I F b Q) : ex_E Γ d M_Law_law 249 [l0, l1, l2, l3] (.inl i :: .inr (some Γ.2.2.2.2.2.1) :: st) K I F b Q := ex_sld d_Law_law_249 hi k
theorem d_Law_law_250 : decode code 250 = .ok (.aload_n 0, 1) := by decide +kernel
theorem s_Law_law_250 {l1 l2 l3 : Option ex_V} {r : Option Nat} (k : ex_E Γ d M_Law_law 251 [some (.inr r), l1, l2, l3] (.inr r :: st) K I F b Q) : ex_E Γ d M_Law_law 250 [some (.inr r), l1, l2, l3] (st) K I F b Q := ex_aload_n d_Law_law_250 rfl k
theorem d_Law_law_251 : decode code 251 = .ok (.iload_n 3, 1) := by decide +kernel
theorem s_Law_law_251 {l0 l1 l2 : Option ex_V} {x : Int32} (k : ex_E Γ d M_Law_law 252 [l0, l1, l2, some (.inl x)] (.inl x :: st) K I F b Q) : ex_E Γ d M_Law_law 251 [l0, l1, l2, some (.inl x)] (st) K I F b Q := ex_iload_n d_Law_law_251 rfl k
theorem d_Law_law_252 : decode code 252 = .ok (.iconst 3, 1) := by decide +kernel
theorem s_Law_law_252 {l0 l1 l2 l3 : Option ex_V} (k : ex_E Γ d M_Law_law 253 [l0, l1, l2, l3] (.inl 3 :: st) K I F b Q) : ex_E Γ d M_Law_law 252 [l0, l1, l2, l3] (st) K I F b Q := ex_iconst d_Law_law_252 (by decide +kernel) k
theorem d_Law_law_253 : decode code 253 = .ok (.iadd, 1) := by decide +kernel
theorem s_Law_law_253 {l0 l1 l2 l3 : Option ex_V} {x y : Int32} (k : ex_E Γ d M_Law_law 254 [l0, l1, l2, l3] (.inl (x + y) :: st) K I F b Q) : ex_E Γ d M_Law_law 253 [l0, l1, l2, l3] (.inl y :: .inl x :: st) K I F b Q := ex_iadd d_Law_law_253 k
theorem d_Law_law_254 : decode code 254 = .ok (.iaload, 1) := by decide +kernel
theorem s_Law_law_254 {l0 l1 l2 l3 : Option ex_V} {i : Int32} (hi : vp_in i Γ.2.2.2.2.2.2.1) (k : ex_E Γ d M_Law_law 255 [l0, l1, l2, l3] (.inl (Γ.2.2.2.2.2.2.2 i.toNatClampNeg) :: st) K I F b Q) : ex_E Γ d M_Law_law 254 [l0, l1, l2, l3] (.inl i :: .inr (some Γ.2.2.2.2.2.1) :: st) K I F b Q := ex_sld d_Law_law_254 hi k
theorem d_Law_law_255 : decode code 255 = .ok (.invokevirtual 36, 3) := by decide +kernel
theorem s_Law_law_255 {l0 l1 l2 l3 : Option ex_V} {r : Option Nat} {a : Nat} {x0 : Int32} {x1 : Int32} {x2 : Int32} {b1 b2 : Nat} {Q1 : Option ex_V → ex_K → ex_I → ex_F → Prop} (hr : r = some a) (ha : (K a).1 = 1) (h : ex_E Γ d M_FC_get 0 [some (.inr (some a)), some (.inl x0), some (.inl x1), some (.inl x2), none] [] K I F b1 Q1) (kk : ∀ r K' I' F', Q1 r K' I' F' → ex_E Γ (d + 1) M_Law_law 258 [l0, l1, l2, l3] (r.toList ++ st) K' I' F' b2 Q) (hbb : b1 + b2 ≤ b) (hst : st.length ≤ 8 := by first | exact Nat.le_of_ble_eq_true rfl | simp) : ex_E Γ (d + 1) M_Law_law 255 [l0, l1, l2, l3] (.inl x2 :: .inl x1 :: .inl x0 :: .inr r :: st) K I F b Q := by
  subst hr
  exact ex_callV (Mc := M_FC_get) (n := 3) (av := [.inl x0, .inl x1, .inl x2]) (ci := 0) d_Law_law_255 (by decide) rfl rfl (by decide) rfl (by decide) (ex_good w_381) (List.mem_cons_of_mem _ w_378) (List.mem_cons_of_mem _ w_1) (List.mem_cons_of_mem _ w_379) (List.mem_cons_of_mem _ w_380) ⟨by decide +kernel, by decide +kernel, by decide +kernel⟩ rfl (Nat.le_of_ble_eq_true rfl) hst ha h hbb kk
theorem d_Law_law_258 : decode code 258 = .ok (.aload_n 2, 1) := by decide +kernel
theorem s_Law_law_258 {l0 l1 l3 : Option ex_V} {r : Option Nat} (k : ex_E Γ d M_Law_law 259 [l0, l1, some (.inr r), l3] (.inr r :: st) K I F b Q) : ex_E Γ d M_Law_law 258 [l0, l1, some (.inr r), l3] (st) K I F b Q := ex_aload_n d_Law_law_258 rfl k
theorem d_Law_law_259 : decode code 259 = .ok (.aload_n 0, 1) := by decide +kernel
theorem s_Law_law_259 {l1 l2 l3 : Option ex_V} {r : Option Nat} (k : ex_E Γ d M_Law_law 260 [some (.inr r), l1, l2, l3] (.inr r :: st) K I F b Q) : ex_E Γ d M_Law_law 259 [some (.inr r), l1, l2, l3] (st) K I F b Q := ex_aload_n d_Law_law_259 rfl k
theorem d_Law_law_260 : decode code 260 = .ok (.iload_n 3, 1) := by decide +kernel
theorem s_Law_law_260 {l0 l1 l2 : Option ex_V} {x : Int32} (k : ex_E Γ d M_Law_law 261 [l0, l1, l2, some (.inl x)] (.inl x :: st) K I F b Q) : ex_E Γ d M_Law_law 260 [l0, l1, l2, some (.inl x)] (st) K I F b Q := ex_iload_n d_Law_law_260 rfl k
theorem d_Law_law_261 : decode code 261 = .ok (.iconst 1, 1) := by decide +kernel
theorem s_Law_law_261 {l0 l1 l2 l3 : Option ex_V} (k : ex_E Γ d M_Law_law 262 [l0, l1, l2, l3] (.inl 1 :: st) K I F b Q) : ex_E Γ d M_Law_law 261 [l0, l1, l2, l3] (st) K I F b Q := ex_iconst d_Law_law_261 (by decide +kernel) k
theorem d_Law_law_262 : decode code 262 = .ok (.iadd, 1) := by decide +kernel
theorem s_Law_law_262 {l0 l1 l2 l3 : Option ex_V} {x y : Int32} (k : ex_E Γ d M_Law_law 263 [l0, l1, l2, l3] (.inl (x + y) :: st) K I F b Q) : ex_E Γ d M_Law_law 262 [l0, l1, l2, l3] (.inl y :: .inl x :: st) K I F b Q := ex_iadd d_Law_law_262 k
theorem d_Law_law_263 : decode code 263 = .ok (.iaload, 1) := by decide +kernel
theorem s_Law_law_263 {l0 l1 l2 l3 : Option ex_V} {i : Int32} (hi : vp_in i Γ.2.2.2.2.2.2.1) (k : ex_E Γ d M_Law_law 264 [l0, l1, l2, l3] (.inl (Γ.2.2.2.2.2.2.2 i.toNatClampNeg) :: st) K I F b Q) : ex_E Γ d M_Law_law 263 [l0, l1, l2, l3] (.inl i :: .inr (some Γ.2.2.2.2.2.1) :: st) K I F b Q := ex_sld d_Law_law_263 hi k
theorem d_Law_law_264 : decode code 264 = .ok (.aload_n 0, 1) := by decide +kernel
theorem s_Law_law_264 {l1 l2 l3 : Option ex_V} {r : Option Nat} (k : ex_E Γ d M_Law_law 265 [some (.inr r), l1, l2, l3] (.inr r :: st) K I F b Q) : ex_E Γ d M_Law_law 264 [some (.inr r), l1, l2, l3] (st) K I F b Q := ex_aload_n d_Law_law_264 rfl k
theorem d_Law_law_265 : decode code 265 = .ok (.iload_n 3, 1) := by decide +kernel
theorem s_Law_law_265 {l0 l1 l2 : Option ex_V} {x : Int32} (k : ex_E Γ d M_Law_law 266 [l0, l1, l2, some (.inl x)] (.inl x :: st) K I F b Q) : ex_E Γ d M_Law_law 265 [l0, l1, l2, some (.inl x)] (st) K I F b Q := ex_iload_n d_Law_law_265 rfl k
theorem d_Law_law_266 : decode code 266 = .ok (.iconst 2, 1) := by decide +kernel
theorem s_Law_law_266 {l0 l1 l2 l3 : Option ex_V} (k : ex_E Γ d M_Law_law 267 [l0, l1, l2, l3] (.inl 2 :: st) K I F b Q) : ex_E Γ d M_Law_law 266 [l0, l1, l2, l3] (st) K I F b Q := ex_iconst d_Law_law_266 (by decide +kernel) k
theorem d_Law_law_267 : decode code 267 = .ok (.iadd, 1) := by decide +kernel
theorem s_Law_law_267 {l0 l1 l2 l3 : Option ex_V} {x y : Int32} (k : ex_E Γ d M_Law_law 268 [l0, l1, l2, l3] (.inl (x + y) :: st) K I F b Q) : ex_E Γ d M_Law_law 267 [l0, l1, l2, l3] (.inl y :: .inl x :: st) K I F b Q := ex_iadd d_Law_law_267 k
theorem d_Law_law_268 : decode code 268 = .ok (.iaload, 1) := by decide +kernel
theorem s_Law_law_268 {l0 l1 l2 l3 : Option ex_V} {i : Int32} (hi : vp_in i Γ.2.2.2.2.2.2.1) (k : ex_E Γ d M_Law_law 269 [l0, l1, l2, l3] (.inl (Γ.2.2.2.2.2.2.2 i.toNatClampNeg) :: st) K I F b Q) : ex_E Γ d M_Law_law 268 [l0, l1, l2, l3] (.inl i :: .inr (some Γ.2.2.2.2.2.1) :: st) K I F b Q := ex_sld d_Law_law_268 hi k
theorem d_Law_law_269 : decode code 269 = .ok (.aload_n 0, 1) := by decide +kernel
theorem s_Law_law_269 {l1 l2 l3 : Option ex_V} {r : Option Nat} (k : ex_E Γ d M_Law_law 270 [some (.inr r), l1, l2, l3] (.inr r :: st) K I F b Q) : ex_E Γ d M_Law_law 269 [some (.inr r), l1, l2, l3] (st) K I F b Q := ex_aload_n d_Law_law_269 rfl k
theorem d_Law_law_270 : decode code 270 = .ok (.iload_n 3, 1) := by decide +kernel
theorem s_Law_law_270 {l0 l1 l2 : Option ex_V} {x : Int32} (k : ex_E Γ d M_Law_law 271 [l0, l1, l2, some (.inl x)] (.inl x :: st) K I F b Q) : ex_E Γ d M_Law_law 270 [l0, l1, l2, some (.inl x)] (st) K I F b Q := ex_iload_n d_Law_law_270 rfl k
theorem d_Law_law_271 : decode code 271 = .ok (.iconst 3, 1) := by decide +kernel
theorem s_Law_law_271 {l0 l1 l2 l3 : Option ex_V} (k : ex_E Γ d M_Law_law 272 [l0, l1, l2, l3] (.inl 3 :: st) K I F b Q) : ex_E Γ d M_Law_law 271 [l0, l1, l2, l3] (st) K I F b Q := ex_iconst d_Law_law_271 (by decide +kernel) k
theorem d_Law_law_272 : decode code 272 = .ok (.iadd, 1) := by decide +kernel
theorem s_Law_law_272 {l0 l1 l2 l3 : Option ex_V} {x y : Int32} (k : ex_E Γ d M_Law_law 273 [l0, l1, l2, l3] (.inl (x + y) :: st) K I F b Q) : ex_E Γ d M_Law_law 272 [l0, l1, l2, l3] (.inl y :: .inl x :: st) K I F b Q := ex_iadd d_Law_law_272 k
theorem d_Law_law_273 : decode code 273 = .ok (.iaload, 1) := by decide +kernel
theorem s_Law_law_273 {l0 l1 l2 l3 : Option ex_V} {i : Int32} (hi : vp_in i Γ.2.2.2.2.2.2.1) (k : ex_E Γ d M_Law_law 274 [l0, l1, l2, l3] (.inl (Γ.2.2.2.2.2.2.2 i.toNatClampNeg) :: st) K I F b Q) : ex_E Γ d M_Law_law 273 [l0, l1, l2, l3] (.inl i :: .inr (some Γ.2.2.2.2.2.1) :: st) K I F b Q := ex_sld d_Law_law_273 hi k
theorem d_Law_law_274 : decode code 274 = .ok (.invokevirtual 40, 3) := by decide +kernel
theorem s_Law_law_274 {l0 l1 l2 l3 : Option ex_V} {r : Option Nat} {a : Nat} {x0 : Int32} {x1 : Int32} {x2 : Int32} {b1 b2 : Nat} {Q1 : Option ex_V → ex_K → ex_I → ex_F → Prop} (hr : r = some a) (ha : (K a).1 = 12) (h : ex_E Γ d M_Mdl_get 0 [some (.inr (some a)), some (.inl x0), some (.inl x1), some (.inl x2), none, none, none] [] K I F b1 Q1) (kk : ∀ r K' I' F', Q1 r K' I' F' → ex_E Γ (d + 1) M_Law_law 277 [l0, l1, l2, l3] (r.toList ++ st) K' I' F' b2 Q) (hbb : b1 + b2 ≤ b) (hst : st.length ≤ 8 := by first | exact Nat.le_of_ble_eq_true rfl | simp) : ex_E Γ (d + 1) M_Law_law 274 [l0, l1, l2, l3] (.inl x2 :: .inl x1 :: .inl x0 :: .inr r :: st) K I F b Q := by
  subst hr
  exact ex_callV (Mc := M_Mdl_get) (n := 3) (av := [.inl x0, .inl x1, .inl x2]) (ci := 11) d_Law_law_274 (by decide) rfl rfl (by decide) rfl (by decide) (ex_good w_880) (List.mem_cons_of_mem _ w_877) (List.mem_cons_of_mem _ w_11) (List.mem_cons_of_mem _ w_878) (List.mem_cons_of_mem _ w_879) ⟨by decide +kernel, by decide +kernel, by decide +kernel⟩ rfl (Nat.le_of_ble_eq_true rfl) hst ha h hbb kk
theorem d_Law_law_277 : decode code 277 = .ok (.if_icmp .eq 386, 3) := by decide +kernel
theorem s_Law_law_277 {l0 l1 l2 l3 : Option ex_V} {x y : Int32} (kt : x = y → ex_E Γ d M_Law_law 663 [l0, l1, l2, l3] (st) K I F b Q) (kf : ¬ x = y → ex_E Γ d M_Law_law 280 [l0, l1, l2, l3] (st) K I F b Q) : ex_E Γ d M_Law_law 277 [l0, l1, l2, l3] (.inl y :: .inl x :: st) K I F b Q := ex_icmp_eq d_Law_law_277 (by decide) kt kf
theorem d_Law_law_280 : decode code 280 = .ok (.iconst 0, 1) := by decide +kernel
theorem s_Law_law_280 {l0 l1 l2 l3 : Option ex_V} (k : ex_E Γ d M_Law_law 281 [l0, l1, l2, l3] (.inl 0 :: st) K I F b Q) : ex_E Γ d M_Law_law 280 [l0, l1, l2, l3] (st) K I F b Q := ex_iconst d_Law_law_280 (by decide +kernel) k
theorem d_Law_law_281 : decode code 281 = .ok (.ireturn, 1) := by decide +kernel
theorem s_Law_law_281 {l0 l1 l2 l3 : Option ex_V} {x : Int32} (hn : narrow .boolean (.int x) = .int x) (hq : Q (some (.inl x)) K I F) : ex_E Γ d M_Law_law 281 [l0, l1, l2, l3] ([.inl x]) K I F b Q := ex_zret d_Law_law_281 rfl hn hq
theorem d_Law_law_282 : decode code 282 = .ok (.aload_n 1, 1) := by decide +kernel
theorem s_Law_law_282 {l0 l2 l3 : Option ex_V} {r : Option Nat} (k : ex_E Γ d M_Law_law 283 [l0, some (.inr r), l2, l3] (.inr r :: st) K I F b Q) : ex_E Γ d M_Law_law 282 [l0, some (.inr r), l2, l3] (st) K I F b Q := ex_aload_n d_Law_law_282 rfl k
theorem d_Law_law_283 : decode code 283 = .ok (.aload_n 0, 1) := by decide +kernel
theorem s_Law_law_283 {l1 l2 l3 : Option ex_V} {r : Option Nat} (k : ex_E Γ d M_Law_law 284 [some (.inr r), l1, l2, l3] (.inr r :: st) K I F b Q) : ex_E Γ d M_Law_law 283 [some (.inr r), l1, l2, l3] (st) K I F b Q := ex_aload_n d_Law_law_283 rfl k
theorem d_Law_law_284 : decode code 284 = .ok (.iload_n 3, 1) := by decide +kernel
theorem s_Law_law_284 {l0 l1 l2 : Option ex_V} {x : Int32} (k : ex_E Γ d M_Law_law 285 [l0, l1, l2, some (.inl x)] (.inl x :: st) K I F b Q) : ex_E Γ d M_Law_law 284 [l0, l1, l2, some (.inl x)] (st) K I F b Q := ex_iload_n d_Law_law_284 rfl k
theorem d_Law_law_285 : decode code 285 = .ok (.iconst 1, 1) := by decide +kernel
theorem s_Law_law_285 {l0 l1 l2 l3 : Option ex_V} (k : ex_E Γ d M_Law_law 286 [l0, l1, l2, l3] (.inl 1 :: st) K I F b Q) : ex_E Γ d M_Law_law 285 [l0, l1, l2, l3] (st) K I F b Q := ex_iconst d_Law_law_285 (by decide +kernel) k
theorem d_Law_law_286 : decode code 286 = .ok (.iadd, 1) := by decide +kernel
theorem s_Law_law_286 {l0 l1 l2 l3 : Option ex_V} {x y : Int32} (k : ex_E Γ d M_Law_law 287 [l0, l1, l2, l3] (.inl (x + y) :: st) K I F b Q) : ex_E Γ d M_Law_law 286 [l0, l1, l2, l3] (.inl y :: .inl x :: st) K I F b Q := ex_iadd d_Law_law_286 k
theorem d_Law_law_287 : decode code 287 = .ok (.iaload, 1) := by decide +kernel
theorem s_Law_law_287 {l0 l1 l2 l3 : Option ex_V} {i : Int32} (hi : vp_in i Γ.2.2.2.2.2.2.1) (k : ex_E Γ d M_Law_law 288 [l0, l1, l2, l3] (.inl (Γ.2.2.2.2.2.2.2 i.toNatClampNeg) :: st) K I F b Q) : ex_E Γ d M_Law_law 287 [l0, l1, l2, l3] (.inl i :: .inr (some Γ.2.2.2.2.2.1) :: st) K I F b Q := ex_sld d_Law_law_287 hi k
theorem d_Law_law_288 : decode code 288 = .ok (.aload_n 0, 1) := by decide +kernel
theorem s_Law_law_288 {l1 l2 l3 : Option ex_V} {r : Option Nat} (k : ex_E Γ d M_Law_law 289 [some (.inr r), l1, l2, l3] (.inr r :: st) K I F b Q) : ex_E Γ d M_Law_law 288 [some (.inr r), l1, l2, l3] (st) K I F b Q := ex_aload_n d_Law_law_288 rfl k
theorem d_Law_law_289 : decode code 289 = .ok (.iload_n 3, 1) := by decide +kernel
theorem s_Law_law_289 {l0 l1 l2 : Option ex_V} {x : Int32} (k : ex_E Γ d M_Law_law 290 [l0, l1, l2, some (.inl x)] (.inl x :: st) K I F b Q) : ex_E Γ d M_Law_law 289 [l0, l1, l2, some (.inl x)] (st) K I F b Q := ex_iload_n d_Law_law_289 rfl k
theorem d_Law_law_290 : decode code 290 = .ok (.iconst 2, 1) := by decide +kernel
theorem s_Law_law_290 {l0 l1 l2 l3 : Option ex_V} (k : ex_E Γ d M_Law_law 291 [l0, l1, l2, l3] (.inl 2 :: st) K I F b Q) : ex_E Γ d M_Law_law 290 [l0, l1, l2, l3] (st) K I F b Q := ex_iconst d_Law_law_290 (by decide +kernel) k
theorem d_Law_law_291 : decode code 291 = .ok (.iadd, 1) := by decide +kernel
theorem s_Law_law_291 {l0 l1 l2 l3 : Option ex_V} {x y : Int32} (k : ex_E Γ d M_Law_law 292 [l0, l1, l2, l3] (.inl (x + y) :: st) K I F b Q) : ex_E Γ d M_Law_law 291 [l0, l1, l2, l3] (.inl y :: .inl x :: st) K I F b Q := ex_iadd d_Law_law_291 k
theorem d_Law_law_292 : decode code 292 = .ok (.iaload, 1) := by decide +kernel
theorem s_Law_law_292 {l0 l1 l2 l3 : Option ex_V} {i : Int32} (hi : vp_in i Γ.2.2.2.2.2.2.1) (k : ex_E Γ d M_Law_law 293 [l0, l1, l2, l3] (.inl (Γ.2.2.2.2.2.2.2 i.toNatClampNeg) :: st) K I F b Q) : ex_E Γ d M_Law_law 292 [l0, l1, l2, l3] (.inl i :: .inr (some Γ.2.2.2.2.2.1) :: st) K I F b Q := ex_sld d_Law_law_292 hi k
theorem d_Law_law_293 : decode code 293 = .ok (.invokevirtual 41, 3) := by decide +kernel
theorem s_Law_law_293 {l0 l1 l2 l3 : Option ex_V} {r : Option Nat} {a : Nat} {x0 : Int32} {x1 : Int32} {b1 b2 : Nat} {Q1 : Option ex_V → ex_K → ex_I → ex_F → Prop} (hr : r = some a) (ha : (K a).1 = 1) (h : ex_E Γ d M_FC_put 0 [some (.inr (some a)), some (.inl x0), some (.inl x1)] [] K I F b1 Q1) (kk : ∀ r K' I' F', Q1 r K' I' F' → ex_E Γ (d + 1) M_Law_law 296 [l0, l1, l2, l3] (r.toList ++ st) K' I' F' b2 Q) (hbb : b1 + b2 ≤ b) (hst : st.length ≤ 8 := by first | exact Nat.le_of_ble_eq_true rfl | simp) : ex_E Γ (d + 1) M_Law_law 293 [l0, l1, l2, l3] (.inl x1 :: .inl x0 :: .inr r :: st) K I F b Q := by
  subst hr
  exact ex_callV (Mc := M_FC_put) (n := 2) (av := [.inl x0, .inl x1]) (ci := 0) d_Law_law_293 (by decide) rfl rfl (by decide) rfl (by decide) (ex_good w_530) (List.mem_cons_of_mem _ w_527) (List.mem_cons_of_mem _ w_1) (List.mem_cons_of_mem _ w_528) (List.mem_cons_of_mem _ w_529) ⟨by decide +kernel, by decide +kernel, by decide +kernel⟩ rfl (Nat.le_of_ble_eq_true rfl) hst ha h hbb kk
theorem d_Law_law_296 : decode code 296 = .ok (.aload_n 2, 1) := by decide +kernel
theorem s_Law_law_296 {l0 l1 l3 : Option ex_V} {r : Option Nat} (k : ex_E Γ d M_Law_law 297 [l0, l1, some (.inr r), l3] (.inr r :: st) K I F b Q) : ex_E Γ d M_Law_law 296 [l0, l1, some (.inr r), l3] (st) K I F b Q := ex_aload_n d_Law_law_296 rfl k
theorem d_Law_law_297 : decode code 297 = .ok (.aload_n 0, 1) := by decide +kernel
theorem s_Law_law_297 {l1 l2 l3 : Option ex_V} {r : Option Nat} (k : ex_E Γ d M_Law_law 298 [some (.inr r), l1, l2, l3] (.inr r :: st) K I F b Q) : ex_E Γ d M_Law_law 297 [some (.inr r), l1, l2, l3] (st) K I F b Q := ex_aload_n d_Law_law_297 rfl k
theorem d_Law_law_298 : decode code 298 = .ok (.iload_n 3, 1) := by decide +kernel
theorem s_Law_law_298 {l0 l1 l2 : Option ex_V} {x : Int32} (k : ex_E Γ d M_Law_law 299 [l0, l1, l2, some (.inl x)] (.inl x :: st) K I F b Q) : ex_E Γ d M_Law_law 298 [l0, l1, l2, some (.inl x)] (st) K I F b Q := ex_iload_n d_Law_law_298 rfl k
theorem d_Law_law_299 : decode code 299 = .ok (.iconst 1, 1) := by decide +kernel
theorem s_Law_law_299 {l0 l1 l2 l3 : Option ex_V} (k : ex_E Γ d M_Law_law 300 [l0, l1, l2, l3] (.inl 1 :: st) K I F b Q) : ex_E Γ d M_Law_law 299 [l0, l1, l2, l3] (st) K I F b Q := ex_iconst d_Law_law_299 (by decide +kernel) k
theorem d_Law_law_300 : decode code 300 = .ok (.iadd, 1) := by decide +kernel
theorem s_Law_law_300 {l0 l1 l2 l3 : Option ex_V} {x y : Int32} (k : ex_E Γ d M_Law_law 301 [l0, l1, l2, l3] (.inl (x + y) :: st) K I F b Q) : ex_E Γ d M_Law_law 300 [l0, l1, l2, l3] (.inl y :: .inl x :: st) K I F b Q := ex_iadd d_Law_law_300 k
theorem d_Law_law_301 : decode code 301 = .ok (.iaload, 1) := by decide +kernel
theorem s_Law_law_301 {l0 l1 l2 l3 : Option ex_V} {i : Int32} (hi : vp_in i Γ.2.2.2.2.2.2.1) (k : ex_E Γ d M_Law_law 302 [l0, l1, l2, l3] (.inl (Γ.2.2.2.2.2.2.2 i.toNatClampNeg) :: st) K I F b Q) : ex_E Γ d M_Law_law 301 [l0, l1, l2, l3] (.inl i :: .inr (some Γ.2.2.2.2.2.1) :: st) K I F b Q := ex_sld d_Law_law_301 hi k
theorem d_Law_law_302 : decode code 302 = .ok (.aload_n 0, 1) := by decide +kernel
theorem s_Law_law_302 {l1 l2 l3 : Option ex_V} {r : Option Nat} (k : ex_E Γ d M_Law_law 303 [some (.inr r), l1, l2, l3] (.inr r :: st) K I F b Q) : ex_E Γ d M_Law_law 302 [some (.inr r), l1, l2, l3] (st) K I F b Q := ex_aload_n d_Law_law_302 rfl k
theorem d_Law_law_303 : decode code 303 = .ok (.iload_n 3, 1) := by decide +kernel
theorem s_Law_law_303 {l0 l1 l2 : Option ex_V} {x : Int32} (k : ex_E Γ d M_Law_law 304 [l0, l1, l2, some (.inl x)] (.inl x :: st) K I F b Q) : ex_E Γ d M_Law_law 303 [l0, l1, l2, some (.inl x)] (st) K I F b Q := ex_iload_n d_Law_law_303 rfl k
theorem d_Law_law_304 : decode code 304 = .ok (.iconst 2, 1) := by decide +kernel
theorem s_Law_law_304 {l0 l1 l2 l3 : Option ex_V} (k : ex_E Γ d M_Law_law 305 [l0, l1, l2, l3] (.inl 2 :: st) K I F b Q) : ex_E Γ d M_Law_law 304 [l0, l1, l2, l3] (st) K I F b Q := ex_iconst d_Law_law_304 (by decide +kernel) k
theorem d_Law_law_305 : decode code 305 = .ok (.iadd, 1) := by decide +kernel
theorem s_Law_law_305 {l0 l1 l2 l3 : Option ex_V} {x y : Int32} (k : ex_E Γ d M_Law_law 306 [l0, l1, l2, l3] (.inl (x + y) :: st) K I F b Q) : ex_E Γ d M_Law_law 305 [l0, l1, l2, l3] (.inl y :: .inl x :: st) K I F b Q := ex_iadd d_Law_law_305 k
theorem d_Law_law_306 : decode code 306 = .ok (.iaload, 1) := by decide +kernel
theorem s_Law_law_306 {l0 l1 l2 l3 : Option ex_V} {i : Int32} (hi : vp_in i Γ.2.2.2.2.2.2.1) (k : ex_E Γ d M_Law_law 307 [l0, l1, l2, l3] (.inl (Γ.2.2.2.2.2.2.2 i.toNatClampNeg) :: st) K I F b Q) : ex_E Γ d M_Law_law 306 [l0, l1, l2, l3] (.inl i :: .inr (some Γ.2.2.2.2.2.1) :: st) K I F b Q := ex_sld d_Law_law_306 hi k
theorem d_Law_law_307 : decode code 307 = .ok (.invokevirtual 45, 3) := by decide +kernel
theorem s_Law_law_307 {l0 l1 l2 l3 : Option ex_V} {r : Option Nat} {a : Nat} {x0 : Int32} {x1 : Int32} {b1 b2 : Nat} {Q1 : Option ex_V → ex_K → ex_I → ex_F → Prop} (hr : r = some a) (ha : (K a).1 = 12) (h : ex_E Γ d M_Mdl_put 0 [some (.inr (some a)), some (.inl x0), some (.inl x1), none] [] K I F b1 Q1) (kk : ∀ r K' I' F', Q1 r K' I' F' → ex_E Γ (d + 1) M_Law_law 310 [l0, l1, l2, l3] (r.toList ++ st) K' I' F' b2 Q) (hbb : b1 + b2 ≤ b) (hst : st.length ≤ 8 := by first | exact Nat.le_of_ble_eq_true rfl | simp) : ex_E Γ (d + 1) M_Law_law 307 [l0, l1, l2, l3] (.inl x1 :: .inl x0 :: .inr r :: st) K I F b Q := by
  subst hr
  exact ex_callV (Mc := M_Mdl_put) (n := 2) (av := [.inl x0, .inl x1]) (ci := 11) d_Law_law_307 (by decide) rfl rfl (by decide) rfl (by decide) (ex_good w_937) (List.mem_cons_of_mem _ w_934) (List.mem_cons_of_mem _ w_11) (List.mem_cons_of_mem _ w_935) (List.mem_cons_of_mem _ w_936) ⟨by decide +kernel, by decide +kernel, by decide +kernel⟩ rfl (Nat.le_of_ble_eq_true rfl) hst ha h hbb kk
theorem d_Law_law_310 : decode code 310 = .ok (.if_icmp .eq 353, 3) := by decide +kernel
theorem s_Law_law_310 {l0 l1 l2 l3 : Option ex_V} {x y : Int32} (kt : x = y → ex_E Γ d M_Law_law 663 [l0, l1, l2, l3] (st) K I F b Q) (kf : ¬ x = y → ex_E Γ d M_Law_law 313 [l0, l1, l2, l3] (st) K I F b Q) : ex_E Γ d M_Law_law 310 [l0, l1, l2, l3] (.inl y :: .inl x :: st) K I F b Q := ex_icmp_eq d_Law_law_310 (by decide) kt kf
theorem d_Law_law_313 : decode code 313 = .ok (.iconst 0, 1) := by decide +kernel
theorem s_Law_law_313 {l0 l1 l2 l3 : Option ex_V} (k : ex_E Γ d M_Law_law 314 [l0, l1, l2, l3] (.inl 0 :: st) K I F b Q) : ex_E Γ d M_Law_law 313 [l0, l1, l2, l3] (st) K I F b Q := ex_iconst d_Law_law_313 (by decide +kernel) k
theorem d_Law_law_314 : decode code 314 = .ok (.ireturn, 1) := by decide +kernel
theorem s_Law_law_314 {l0 l1 l2 l3 : Option ex_V} {x : Int32} (hn : narrow .boolean (.int x) = .int x) (hq : Q (some (.inl x)) K I F) : ex_E Γ d M_Law_law 314 [l0, l1, l2, l3] ([.inl x]) K I F b Q := ex_zret d_Law_law_314 rfl hn hq
theorem d_Law_law_315 : decode code 315 = .ok (.aload_n 1, 1) := by decide +kernel
theorem s_Law_law_315 {l0 l2 l3 : Option ex_V} {r : Option Nat} (k : ex_E Γ d M_Law_law 316 [l0, some (.inr r), l2, l3] (.inr r :: st) K I F b Q) : ex_E Γ d M_Law_law 315 [l0, some (.inr r), l2, l3] (st) K I F b Q := ex_aload_n d_Law_law_315 rfl k
theorem d_Law_law_316 : decode code 316 = .ok (.aload_n 0, 1) := by decide +kernel
theorem s_Law_law_316 {l1 l2 l3 : Option ex_V} {r : Option Nat} (k : ex_E Γ d M_Law_law 317 [some (.inr r), l1, l2, l3] (.inr r :: st) K I F b Q) : ex_E Γ d M_Law_law 316 [some (.inr r), l1, l2, l3] (st) K I F b Q := ex_aload_n d_Law_law_316 rfl k
theorem d_Law_law_317 : decode code 317 = .ok (.iload_n 3, 1) := by decide +kernel
theorem s_Law_law_317 {l0 l1 l2 : Option ex_V} {x : Int32} (k : ex_E Γ d M_Law_law 318 [l0, l1, l2, some (.inl x)] (.inl x :: st) K I F b Q) : ex_E Γ d M_Law_law 317 [l0, l1, l2, some (.inl x)] (st) K I F b Q := ex_iload_n d_Law_law_317 rfl k
theorem d_Law_law_318 : decode code 318 = .ok (.iconst 1, 1) := by decide +kernel
theorem s_Law_law_318 {l0 l1 l2 l3 : Option ex_V} (k : ex_E Γ d M_Law_law 319 [l0, l1, l2, l3] (.inl 1 :: st) K I F b Q) : ex_E Γ d M_Law_law 318 [l0, l1, l2, l3] (st) K I F b Q := ex_iconst d_Law_law_318 (by decide +kernel) k
theorem d_Law_law_319 : decode code 319 = .ok (.iadd, 1) := by decide +kernel
theorem s_Law_law_319 {l0 l1 l2 l3 : Option ex_V} {x y : Int32} (k : ex_E Γ d M_Law_law 320 [l0, l1, l2, l3] (.inl (x + y) :: st) K I F b Q) : ex_E Γ d M_Law_law 319 [l0, l1, l2, l3] (.inl y :: .inl x :: st) K I F b Q := ex_iadd d_Law_law_319 k
theorem d_Law_law_320 : decode code 320 = .ok (.iaload, 1) := by decide +kernel
theorem s_Law_law_320 {l0 l1 l2 l3 : Option ex_V} {i : Int32} (hi : vp_in i Γ.2.2.2.2.2.2.1) (k : ex_E Γ d M_Law_law 321 [l0, l1, l2, l3] (.inl (Γ.2.2.2.2.2.2.2 i.toNatClampNeg) :: st) K I F b Q) : ex_E Γ d M_Law_law 320 [l0, l1, l2, l3] (.inl i :: .inr (some Γ.2.2.2.2.2.1) :: st) K I F b Q := ex_sld d_Law_law_320 hi k
theorem d_Law_law_321 : decode code 321 = .ok (.invokevirtual 46, 3) := by decide +kernel
theorem s_Law_law_321 {l0 l1 l2 l3 : Option ex_V} {r : Option Nat} {a : Nat} {x0 : Int32} {b1 b2 : Nat} {Q1 : Option ex_V → ex_K → ex_I → ex_F → Prop} (hr : r = some a) (ha : (K a).1 = 1) (h : ex_E Γ d M_FC_delete 0 [some (.inr (some a)), some (.inl x0)] [] K I F b1 Q1) (kk : ∀ r K' I' F', Q1 r K' I' F' → ex_E Γ (d + 1) M_Law_law 324 [l0, l1, l2, l3] (r.toList ++ st) K' I' F' b2 Q) (hbb : b1 + b2 ≤ b) (hst : st.length ≤ 8 := by first | exact Nat.le_of_ble_eq_true rfl | simp) : ex_E Γ (d + 1) M_Law_law 321 [l0, l1, l2, l3] (.inl x0 :: .inr r :: st) K I F b Q := by
  subst hr
  exact ex_callV (Mc := M_FC_delete) (n := 1) (av := [.inl x0]) (ci := 0) d_Law_law_321 (by decide) rfl rfl (by decide) rfl (by decide) (ex_good w_543) (List.mem_cons_of_mem _ w_540) (List.mem_cons_of_mem _ w_1) (List.mem_cons_of_mem _ w_541) (List.mem_cons_of_mem _ w_542) ⟨by decide +kernel, by decide +kernel, by decide +kernel⟩ rfl (Nat.le_of_ble_eq_true rfl) hst ha h hbb kk
theorem d_Law_law_324 : decode code 324 = .ok (.aload_n 2, 1) := by decide +kernel
theorem s_Law_law_324 {l0 l1 l3 : Option ex_V} {r : Option Nat} (k : ex_E Γ d M_Law_law 325 [l0, l1, some (.inr r), l3] (.inr r :: st) K I F b Q) : ex_E Γ d M_Law_law 324 [l0, l1, some (.inr r), l3] (st) K I F b Q := ex_aload_n d_Law_law_324 rfl k
theorem d_Law_law_325 : decode code 325 = .ok (.aload_n 0, 1) := by decide +kernel
theorem s_Law_law_325 {l1 l2 l3 : Option ex_V} {r : Option Nat} (k : ex_E Γ d M_Law_law 326 [some (.inr r), l1, l2, l3] (.inr r :: st) K I F b Q) : ex_E Γ d M_Law_law 325 [some (.inr r), l1, l2, l3] (st) K I F b Q := ex_aload_n d_Law_law_325 rfl k
theorem d_Law_law_326 : decode code 326 = .ok (.iload_n 3, 1) := by decide +kernel
theorem s_Law_law_326 {l0 l1 l2 : Option ex_V} {x : Int32} (k : ex_E Γ d M_Law_law 327 [l0, l1, l2, some (.inl x)] (.inl x :: st) K I F b Q) : ex_E Γ d M_Law_law 326 [l0, l1, l2, some (.inl x)] (st) K I F b Q := ex_iload_n d_Law_law_326 rfl k
theorem d_Law_law_327 : decode code 327 = .ok (.iconst 1, 1) := by decide +kernel
theorem s_Law_law_327 {l0 l1 l2 l3 : Option ex_V} (k : ex_E Γ d M_Law_law 328 [l0, l1, l2, l3] (.inl 1 :: st) K I F b Q) : ex_E Γ d M_Law_law 327 [l0, l1, l2, l3] (st) K I F b Q := ex_iconst d_Law_law_327 (by decide +kernel) k
theorem d_Law_law_328 : decode code 328 = .ok (.iadd, 1) := by decide +kernel
theorem s_Law_law_328 {l0 l1 l2 l3 : Option ex_V} {x y : Int32} (k : ex_E Γ d M_Law_law 329 [l0, l1, l2, l3] (.inl (x + y) :: st) K I F b Q) : ex_E Γ d M_Law_law 328 [l0, l1, l2, l3] (.inl y :: .inl x :: st) K I F b Q := ex_iadd d_Law_law_328 k
theorem d_Law_law_329 : decode code 329 = .ok (.iaload, 1) := by decide +kernel
theorem s_Law_law_329 {l0 l1 l2 l3 : Option ex_V} {i : Int32} (hi : vp_in i Γ.2.2.2.2.2.2.1) (k : ex_E Γ d M_Law_law 330 [l0, l1, l2, l3] (.inl (Γ.2.2.2.2.2.2.2 i.toNatClampNeg) :: st) K I F b Q) : ex_E Γ d M_Law_law 329 [l0, l1, l2, l3] (.inl i :: .inr (some Γ.2.2.2.2.2.1) :: st) K I F b Q := ex_sld d_Law_law_329 hi k
theorem d_Law_law_330 : decode code 330 = .ok (.invokevirtual 50, 3) := by decide +kernel
theorem s_Law_law_330 {l0 l1 l2 l3 : Option ex_V} {r : Option Nat} {a : Nat} {x0 : Int32} {b1 b2 : Nat} {Q1 : Option ex_V → ex_K → ex_I → ex_F → Prop} (hr : r = some a) (ha : (K a).1 = 12) (h : ex_E Γ d M_Mdl_delete 0 [some (.inr (some a)), some (.inl x0), none] [] K I F b1 Q1) (kk : ∀ r K' I' F', Q1 r K' I' F' → ex_E Γ (d + 1) M_Law_law 333 [l0, l1, l2, l3] (r.toList ++ st) K' I' F' b2 Q) (hbb : b1 + b2 ≤ b) (hst : st.length ≤ 8 := by first | exact Nat.le_of_ble_eq_true rfl | simp) : ex_E Γ (d + 1) M_Law_law 330 [l0, l1, l2, l3] (.inl x0 :: .inr r :: st) K I F b Q := by
  subst hr
  exact ex_callV (Mc := M_Mdl_delete) (n := 1) (av := [.inl x0]) (ci := 11) d_Law_law_330 (by decide) rfl rfl (by decide) rfl (by decide) (ex_good w_941) (List.mem_cons_of_mem _ w_938) (List.mem_cons_of_mem _ w_11) (List.mem_cons_of_mem _ w_939) (List.mem_cons_of_mem _ w_940) ⟨by decide +kernel, by decide +kernel, by decide +kernel⟩ rfl (Nat.le_of_ble_eq_true rfl) hst ha h hbb kk
theorem d_Law_law_333 : decode code 333 = .ok (.if_icmp .eq 330, 3) := by decide +kernel
theorem s_Law_law_333 {l0 l1 l2 l3 : Option ex_V} {x y : Int32} (kt : x = y → ex_E Γ d M_Law_law 663 [l0, l1, l2, l3] (st) K I F b Q) (kf : ¬ x = y → ex_E Γ d M_Law_law 336 [l0, l1, l2, l3] (st) K I F b Q) : ex_E Γ d M_Law_law 333 [l0, l1, l2, l3] (.inl y :: .inl x :: st) K I F b Q := ex_icmp_eq d_Law_law_333 (by decide) kt kf
theorem d_Law_law_336 : decode code 336 = .ok (.iconst 0, 1) := by decide +kernel
theorem s_Law_law_336 {l0 l1 l2 l3 : Option ex_V} (k : ex_E Γ d M_Law_law 337 [l0, l1, l2, l3] (.inl 0 :: st) K I F b Q) : ex_E Γ d M_Law_law 336 [l0, l1, l2, l3] (st) K I F b Q := ex_iconst d_Law_law_336 (by decide +kernel) k
theorem d_Law_law_337 : decode code 337 = .ok (.ireturn, 1) := by decide +kernel
theorem s_Law_law_337 {l0 l1 l2 l3 : Option ex_V} {x : Int32} (hn : narrow .boolean (.int x) = .int x) (hq : Q (some (.inl x)) K I F) : ex_E Γ d M_Law_law 337 [l0, l1, l2, l3] ([.inl x]) K I F b Q := ex_zret d_Law_law_337 rfl hn hq
theorem d_Law_law_338 : decode code 338 = .ok (.aload_n 1, 1) := by decide +kernel
theorem s_Law_law_338 {l0 l2 l3 : Option ex_V} {r : Option Nat} (k : ex_E Γ d M_Law_law 339 [l0, some (.inr r), l2, l3] (.inr r :: st) K I F b Q) : ex_E Γ d M_Law_law 338 [l0, some (.inr r), l2, l3] (st) K I F b Q := ex_aload_n d_Law_law_338 rfl k
theorem d_Law_law_339 : decode code 339 = .ok (.aload_n 0, 1) := by decide +kernel
theorem s_Law_law_339 {l1 l2 l3 : Option ex_V} {r : Option Nat} (k : ex_E Γ d M_Law_law 340 [some (.inr r), l1, l2, l3] (.inr r :: st) K I F b Q) : ex_E Γ d M_Law_law 339 [some (.inr r), l1, l2, l3] (st) K I F b Q := ex_aload_n d_Law_law_339 rfl k
theorem d_Law_law_340 : decode code 340 = .ok (.iload_n 3, 1) := by decide +kernel
theorem s_Law_law_340 {l0 l1 l2 : Option ex_V} {x : Int32} (k : ex_E Γ d M_Law_law 341 [l0, l1, l2, some (.inl x)] (.inl x :: st) K I F b Q) : ex_E Γ d M_Law_law 340 [l0, l1, l2, some (.inl x)] (st) K I F b Q := ex_iload_n d_Law_law_340 rfl k
theorem d_Law_law_341 : decode code 341 = .ok (.iconst 1, 1) := by decide +kernel
theorem s_Law_law_341 {l0 l1 l2 l3 : Option ex_V} (k : ex_E Γ d M_Law_law 342 [l0, l1, l2, l3] (.inl 1 :: st) K I F b Q) : ex_E Γ d M_Law_law 341 [l0, l1, l2, l3] (st) K I F b Q := ex_iconst d_Law_law_341 (by decide +kernel) k
theorem d_Law_law_342 : decode code 342 = .ok (.iadd, 1) := by decide +kernel
theorem s_Law_law_342 {l0 l1 l2 l3 : Option ex_V} {x y : Int32} (k : ex_E Γ d M_Law_law 343 [l0, l1, l2, l3] (.inl (x + y) :: st) K I F b Q) : ex_E Γ d M_Law_law 342 [l0, l1, l2, l3] (.inl y :: .inl x :: st) K I F b Q := ex_iadd d_Law_law_342 k
theorem d_Law_law_343 : decode code 343 = .ok (.iaload, 1) := by decide +kernel
theorem s_Law_law_343 {l0 l1 l2 l3 : Option ex_V} {i : Int32} (hi : vp_in i Γ.2.2.2.2.2.2.1) (k : ex_E Γ d M_Law_law 344 [l0, l1, l2, l3] (.inl (Γ.2.2.2.2.2.2.2 i.toNatClampNeg) :: st) K I F b Q) : ex_E Γ d M_Law_law 343 [l0, l1, l2, l3] (.inl i :: .inr (some Γ.2.2.2.2.2.1) :: st) K I F b Q := ex_sld d_Law_law_343 hi k
theorem d_Law_law_344 : decode code 344 = .ok (.invokevirtual 51, 3) := by decide +kernel
theorem s_Law_law_344 {l0 l1 l2 l3 : Option ex_V} {r : Option Nat} {a : Nat} {x0 : Int32} {b1 b2 : Nat} {Q1 : Option ex_V → ex_K → ex_I → ex_F → Prop} (hr : r = some a) (ha : (K a).1 = 1) (h : ex_E Γ d M_FC_deliver 0 [some (.inr (some a)), some (.inl x0), none] [] K I F b1 Q1) (kk : ∀ r K' I' F', Q1 r K' I' F' → ex_E Γ (d + 1) M_Law_law 347 [l0, l1, l2, l3] (r.toList ++ st) K' I' F' b2 Q) (hbb : b1 + b2 ≤ b) (hst : st.length ≤ 8 := by first | exact Nat.le_of_ble_eq_true rfl | simp) : ex_E Γ (d + 1) M_Law_law 344 [l0, l1, l2, l3] (.inl x0 :: .inr r :: st) K I F b Q := by
  subst hr
  exact ex_callV (Mc := M_FC_deliver) (n := 1) (av := [.inl x0]) (ci := 0) d_Law_law_344 (by decide) rfl rfl (by decide) rfl (by decide) (ex_good w_547) (List.mem_cons_of_mem _ w_544) (List.mem_cons_of_mem _ w_1) (List.mem_cons_of_mem _ w_545) (List.mem_cons_of_mem _ w_546) ⟨by decide +kernel, by decide +kernel, by decide +kernel⟩ rfl (Nat.le_of_ble_eq_true rfl) hst ha h hbb kk
theorem d_Law_law_347 : decode code 347 = .ok (.aload_n 2, 1) := by decide +kernel
theorem s_Law_law_347 {l0 l1 l3 : Option ex_V} {r : Option Nat} (k : ex_E Γ d M_Law_law 348 [l0, l1, some (.inr r), l3] (.inr r :: st) K I F b Q) : ex_E Γ d M_Law_law 347 [l0, l1, some (.inr r), l3] (st) K I F b Q := ex_aload_n d_Law_law_347 rfl k
theorem d_Law_law_348 : decode code 348 = .ok (.aload_n 0, 1) := by decide +kernel
theorem s_Law_law_348 {l1 l2 l3 : Option ex_V} {r : Option Nat} (k : ex_E Γ d M_Law_law 349 [some (.inr r), l1, l2, l3] (.inr r :: st) K I F b Q) : ex_E Γ d M_Law_law 348 [some (.inr r), l1, l2, l3] (st) K I F b Q := ex_aload_n d_Law_law_348 rfl k
theorem d_Law_law_349 : decode code 349 = .ok (.iload_n 3, 1) := by decide +kernel
theorem s_Law_law_349 {l0 l1 l2 : Option ex_V} {x : Int32} (k : ex_E Γ d M_Law_law 350 [l0, l1, l2, some (.inl x)] (.inl x :: st) K I F b Q) : ex_E Γ d M_Law_law 349 [l0, l1, l2, some (.inl x)] (st) K I F b Q := ex_iload_n d_Law_law_349 rfl k
theorem d_Law_law_350 : decode code 350 = .ok (.iconst 1, 1) := by decide +kernel
theorem s_Law_law_350 {l0 l1 l2 l3 : Option ex_V} (k : ex_E Γ d M_Law_law 351 [l0, l1, l2, l3] (.inl 1 :: st) K I F b Q) : ex_E Γ d M_Law_law 350 [l0, l1, l2, l3] (st) K I F b Q := ex_iconst d_Law_law_350 (by decide +kernel) k
theorem d_Law_law_351 : decode code 351 = .ok (.iadd, 1) := by decide +kernel
theorem s_Law_law_351 {l0 l1 l2 l3 : Option ex_V} {x y : Int32} (k : ex_E Γ d M_Law_law 352 [l0, l1, l2, l3] (.inl (x + y) :: st) K I F b Q) : ex_E Γ d M_Law_law 351 [l0, l1, l2, l3] (.inl y :: .inl x :: st) K I F b Q := ex_iadd d_Law_law_351 k
theorem d_Law_law_352 : decode code 352 = .ok (.iaload, 1) := by decide +kernel
theorem s_Law_law_352 {l0 l1 l2 l3 : Option ex_V} {i : Int32} (hi : vp_in i Γ.2.2.2.2.2.2.1) (k : ex_E Γ d M_Law_law 353 [l0, l1, l2, l3] (.inl (Γ.2.2.2.2.2.2.2 i.toNatClampNeg) :: st) K I F b Q) : ex_E Γ d M_Law_law 352 [l0, l1, l2, l3] (.inl i :: .inr (some Γ.2.2.2.2.2.1) :: st) K I F b Q := ex_sld d_Law_law_352 hi k
theorem d_Law_law_353 : decode code 353 = .ok (.invokevirtual 54, 3) := by decide +kernel
theorem s_Law_law_353 {l0 l1 l2 l3 : Option ex_V} {r : Option Nat} {a : Nat} {x0 : Int32} {b1 b2 : Nat} {Q1 : Option ex_V → ex_K → ex_I → ex_F → Prop} (hr : r = some a) (ha : (K a).1 = 12) (h : ex_E Γ d M_Mdl_deliver 0 [some (.inr (some a)), some (.inl x0), none] [] K I F b1 Q1) (kk : ∀ r K' I' F', Q1 r K' I' F' → ex_E Γ (d + 1) M_Law_law 356 [l0, l1, l2, l3] (r.toList ++ st) K' I' F' b2 Q) (hbb : b1 + b2 ≤ b) (hst : st.length ≤ 8 := by first | exact Nat.le_of_ble_eq_true rfl | simp) : ex_E Γ (d + 1) M_Law_law 353 [l0, l1, l2, l3] (.inl x0 :: .inr r :: st) K I F b Q := by
  subst hr
  exact ex_callV (Mc := M_Mdl_deliver) (n := 1) (av := [.inl x0]) (ci := 11) d_Law_law_353 (by decide) rfl rfl (by decide) rfl (by decide) (ex_good w_957) (List.mem_cons_of_mem _ w_954) (List.mem_cons_of_mem _ w_11) (List.mem_cons_of_mem _ w_955) (List.mem_cons_of_mem _ w_956) ⟨by decide +kernel, by decide +kernel, by decide +kernel⟩ rfl (Nat.le_of_ble_eq_true rfl) hst ha h hbb kk
theorem d_Law_law_356 : decode code 356 = .ok (.if_icmp .eq 307, 3) := by decide +kernel
theorem s_Law_law_356 {l0 l1 l2 l3 : Option ex_V} {x y : Int32} (kt : x = y → ex_E Γ d M_Law_law 663 [l0, l1, l2, l3] (st) K I F b Q) (kf : ¬ x = y → ex_E Γ d M_Law_law 359 [l0, l1, l2, l3] (st) K I F b Q) : ex_E Γ d M_Law_law 356 [l0, l1, l2, l3] (.inl y :: .inl x :: st) K I F b Q := ex_icmp_eq d_Law_law_356 (by decide) kt kf
theorem d_Law_law_359 : decode code 359 = .ok (.iconst 0, 1) := by decide +kernel
theorem s_Law_law_359 {l0 l1 l2 l3 : Option ex_V} (k : ex_E Γ d M_Law_law 360 [l0, l1, l2, l3] (.inl 0 :: st) K I F b Q) : ex_E Γ d M_Law_law 359 [l0, l1, l2, l3] (st) K I F b Q := ex_iconst d_Law_law_359 (by decide +kernel) k
theorem d_Law_law_360 : decode code 360 = .ok (.ireturn, 1) := by decide +kernel
theorem s_Law_law_360 {l0 l1 l2 l3 : Option ex_V} {x : Int32} (hn : narrow .boolean (.int x) = .int x) (hq : Q (some (.inl x)) K I F) : ex_E Γ d M_Law_law 360 [l0, l1, l2, l3] ([.inl x]) K I F b Q := ex_zret d_Law_law_360 rfl hn hq
theorem d_Law_law_361 : decode code 361 = .ok (.aload_n 1, 1) := by decide +kernel
theorem s_Law_law_361 {l0 l2 l3 : Option ex_V} {r : Option Nat} (k : ex_E Γ d M_Law_law 362 [l0, some (.inr r), l2, l3] (.inr r :: st) K I F b Q) : ex_E Γ d M_Law_law 361 [l0, some (.inr r), l2, l3] (st) K I F b Q := ex_aload_n d_Law_law_361 rfl k
theorem d_Law_law_362 : decode code 362 = .ok (.aload_n 0, 1) := by decide +kernel
theorem s_Law_law_362 {l1 l2 l3 : Option ex_V} {r : Option Nat} (k : ex_E Γ d M_Law_law 363 [some (.inr r), l1, l2, l3] (.inr r :: st) K I F b Q) : ex_E Γ d M_Law_law 362 [some (.inr r), l1, l2, l3] (st) K I F b Q := ex_aload_n d_Law_law_362 rfl k
theorem d_Law_law_363 : decode code 363 = .ok (.iload_n 3, 1) := by decide +kernel
theorem s_Law_law_363 {l0 l1 l2 : Option ex_V} {x : Int32} (k : ex_E Γ d M_Law_law 364 [l0, l1, l2, some (.inl x)] (.inl x :: st) K I F b Q) : ex_E Γ d M_Law_law 363 [l0, l1, l2, some (.inl x)] (st) K I F b Q := ex_iload_n d_Law_law_363 rfl k
theorem d_Law_law_364 : decode code 364 = .ok (.iconst 1, 1) := by decide +kernel
theorem s_Law_law_364 {l0 l1 l2 l3 : Option ex_V} (k : ex_E Γ d M_Law_law 365 [l0, l1, l2, l3] (.inl 1 :: st) K I F b Q) : ex_E Γ d M_Law_law 364 [l0, l1, l2, l3] (st) K I F b Q := ex_iconst d_Law_law_364 (by decide +kernel) k
theorem d_Law_law_365 : decode code 365 = .ok (.iadd, 1) := by decide +kernel
theorem s_Law_law_365 {l0 l1 l2 l3 : Option ex_V} {x y : Int32} (k : ex_E Γ d M_Law_law 366 [l0, l1, l2, l3] (.inl (x + y) :: st) K I F b Q) : ex_E Γ d M_Law_law 365 [l0, l1, l2, l3] (.inl y :: .inl x :: st) K I F b Q := ex_iadd d_Law_law_365 k
theorem d_Law_law_366 : decode code 366 = .ok (.iaload, 1) := by decide +kernel
theorem s_Law_law_366 {l0 l1 l2 l3 : Option ex_V} {i : Int32} (hi : vp_in i Γ.2.2.2.2.2.2.1) (k : ex_E Γ d M_Law_law 367 [l0, l1, l2, l3] (.inl (Γ.2.2.2.2.2.2.2 i.toNatClampNeg) :: st) K I F b Q) : ex_E Γ d M_Law_law 366 [l0, l1, l2, l3] (.inl i :: .inr (some Γ.2.2.2.2.2.1) :: st) K I F b Q := ex_sld d_Law_law_366 hi k
theorem d_Law_law_367 : decode code 367 = .ok (.invokevirtual 55, 3) := by decide +kernel
theorem s_Law_law_367 {l0 l1 l2 l3 : Option ex_V} {r : Option Nat} {a : Nat} {x0 : Int32} {b1 b2 : Nat} {Q1 : Option ex_V → ex_K → ex_I → ex_F → Prop} (hr : r = some a) (ha : (K a).1 = 1) (h : ex_E Γ d M_FC_lose 0 [some (.inr (some a)), some (.inl x0)] [] K I F b1 Q1) (kk : ∀ r K' I' F', Q1 r K' I' F' → ex_E Γ (d + 1) M_Law_law 370 [l0, l1, l2, l3] (r.toList ++ st) K' I' F' b2 Q) (hbb : b1 + b2 ≤ b) (hst : st.length ≤ 8 := by first | exact Nat.le_of_ble_eq_true rfl | simp) : ex_E Γ (d + 1) M_Law_law 367 [l0, l1, l2, l3] (.inl x0 :: .inr r :: st) K I F b Q := by
  subst hr
  exact ex_callV (Mc := M_FC_lose) (n := 1) (av := [.inl x0]) (ci := 0) d_Law_law_367 (by decide) rfl rfl (by decide) rfl (by decide) (ex_good w_666) (List.mem_cons_of_mem _ w_663) (List.mem_cons_of_mem _ w_1) (List.mem_cons_of_mem _ w_664) (List.mem_cons_of_mem _ w_665) ⟨by decide +kernel, by decide +kernel, by decide +kernel⟩ rfl (Nat.le_of_ble_eq_true rfl) hst ha h hbb kk
theorem d_Law_law_370 : decode code 370 = .ok (.aload_n 2, 1) := by decide +kernel
theorem s_Law_law_370 {l0 l1 l3 : Option ex_V} {r : Option Nat} (k : ex_E Γ d M_Law_law 371 [l0, l1, some (.inr r), l3] (.inr r :: st) K I F b Q) : ex_E Γ d M_Law_law 370 [l0, l1, some (.inr r), l3] (st) K I F b Q := ex_aload_n d_Law_law_370 rfl k
theorem d_Law_law_371 : decode code 371 = .ok (.aload_n 0, 1) := by decide +kernel
theorem s_Law_law_371 {l1 l2 l3 : Option ex_V} {r : Option Nat} (k : ex_E Γ d M_Law_law 372 [some (.inr r), l1, l2, l3] (.inr r :: st) K I F b Q) : ex_E Γ d M_Law_law 371 [some (.inr r), l1, l2, l3] (st) K I F b Q := ex_aload_n d_Law_law_371 rfl k
theorem d_Law_law_372 : decode code 372 = .ok (.iload_n 3, 1) := by decide +kernel
theorem s_Law_law_372 {l0 l1 l2 : Option ex_V} {x : Int32} (k : ex_E Γ d M_Law_law 373 [l0, l1, l2, some (.inl x)] (.inl x :: st) K I F b Q) : ex_E Γ d M_Law_law 372 [l0, l1, l2, some (.inl x)] (st) K I F b Q := ex_iload_n d_Law_law_372 rfl k
theorem d_Law_law_373 : decode code 373 = .ok (.iconst 1, 1) := by decide +kernel
theorem s_Law_law_373 {l0 l1 l2 l3 : Option ex_V} (k : ex_E Γ d M_Law_law 374 [l0, l1, l2, l3] (.inl 1 :: st) K I F b Q) : ex_E Γ d M_Law_law 373 [l0, l1, l2, l3] (st) K I F b Q := ex_iconst d_Law_law_373 (by decide +kernel) k
theorem d_Law_law_374 : decode code 374 = .ok (.iadd, 1) := by decide +kernel
theorem s_Law_law_374 {l0 l1 l2 l3 : Option ex_V} {x y : Int32} (k : ex_E Γ d M_Law_law 375 [l0, l1, l2, l3] (.inl (x + y) :: st) K I F b Q) : ex_E Γ d M_Law_law 374 [l0, l1, l2, l3] (.inl y :: .inl x :: st) K I F b Q := ex_iadd d_Law_law_374 k
theorem d_Law_law_375 : decode code 375 = .ok (.iaload, 1) := by decide +kernel
theorem s_Law_law_375 {l0 l1 l2 l3 : Option ex_V} {i : Int32} (hi : vp_in i Γ.2.2.2.2.2.2.1) (k : ex_E Γ d M_Law_law 376 [l0, l1, l2, l3] (.inl (Γ.2.2.2.2.2.2.2 i.toNatClampNeg) :: st) K I F b Q) : ex_E Γ d M_Law_law 375 [l0, l1, l2, l3] (.inl i :: .inr (some Γ.2.2.2.2.2.1) :: st) K I F b Q := ex_sld d_Law_law_375 hi k
theorem d_Law_law_376 : decode code 376 = .ok (.invokevirtual 58, 3) := by decide +kernel
theorem s_Law_law_376 {l0 l1 l2 l3 : Option ex_V} {r : Option Nat} {a : Nat} {x0 : Int32} {b1 b2 : Nat} {Q1 : Option ex_V → ex_K → ex_I → ex_F → Prop} (hr : r = some a) (ha : (K a).1 = 12) (h : ex_E Γ d M_Mdl_lose 0 [some (.inr (some a)), some (.inl x0)] [] K I F b1 Q1) (kk : ∀ r K' I' F', Q1 r K' I' F' → ex_E Γ (d + 1) M_Law_law 379 [l0, l1, l2, l3] (r.toList ++ st) K' I' F' b2 Q) (hbb : b1 + b2 ≤ b) (hst : st.length ≤ 8 := by first | exact Nat.le_of_ble_eq_true rfl | simp) : ex_E Γ (d + 1) M_Law_law 376 [l0, l1, l2, l3] (.inl x0 :: .inr r :: st) K I F b Q := by
  subst hr
  exact ex_callV (Mc := M_Mdl_lose) (n := 1) (av := [.inl x0]) (ci := 11) d_Law_law_376 (by decide) rfl rfl (by decide) rfl (by decide) (ex_good w_1012) (List.mem_cons_of_mem _ w_1009) (List.mem_cons_of_mem _ w_11) (List.mem_cons_of_mem _ w_1010) (List.mem_cons_of_mem _ w_1011) ⟨by decide +kernel, by decide +kernel, by decide +kernel⟩ rfl (Nat.le_of_ble_eq_true rfl) hst ha h hbb kk
theorem d_Law_law_379 : decode code 379 = .ok (.if_icmp .eq 284, 3) := by decide +kernel
theorem s_Law_law_379 {l0 l1 l2 l3 : Option ex_V} {x y : Int32} (kt : x = y → ex_E Γ d M_Law_law 663 [l0, l1, l2, l3] (st) K I F b Q) (kf : ¬ x = y → ex_E Γ d M_Law_law 382 [l0, l1, l2, l3] (st) K I F b Q) : ex_E Γ d M_Law_law 379 [l0, l1, l2, l3] (.inl y :: .inl x :: st) K I F b Q := ex_icmp_eq d_Law_law_379 (by decide) kt kf
theorem d_Law_law_382 : decode code 382 = .ok (.iconst 0, 1) := by decide +kernel
theorem s_Law_law_382 {l0 l1 l2 l3 : Option ex_V} (k : ex_E Γ d M_Law_law 383 [l0, l1, l2, l3] (.inl 0 :: st) K I F b Q) : ex_E Γ d M_Law_law 382 [l0, l1, l2, l3] (st) K I F b Q := ex_iconst d_Law_law_382 (by decide +kernel) k
theorem d_Law_law_383 : decode code 383 = .ok (.ireturn, 1) := by decide +kernel
theorem s_Law_law_383 {l0 l1 l2 l3 : Option ex_V} {x : Int32} (hn : narrow .boolean (.int x) = .int x) (hq : Q (some (.inl x)) K I F) : ex_E Γ d M_Law_law 383 [l0, l1, l2, l3] ([.inl x]) K I F b Q := ex_zret d_Law_law_383 rfl hn hq
theorem d_Law_law_384 : decode code 384 = .ok (.aload_n 1, 1) := by decide +kernel
theorem s_Law_law_384 {l0 l2 l3 : Option ex_V} {r : Option Nat} (k : ex_E Γ d M_Law_law 385 [l0, some (.inr r), l2, l3] (.inr r :: st) K I F b Q) : ex_E Γ d M_Law_law 384 [l0, some (.inr r), l2, l3] (st) K I F b Q := ex_aload_n d_Law_law_384 rfl k
theorem d_Law_law_385 : decode code 385 = .ok (.aload_n 0, 1) := by decide +kernel
theorem s_Law_law_385 {l1 l2 l3 : Option ex_V} {r : Option Nat} (k : ex_E Γ d M_Law_law 386 [some (.inr r), l1, l2, l3] (.inr r :: st) K I F b Q) : ex_E Γ d M_Law_law 385 [some (.inr r), l1, l2, l3] (st) K I F b Q := ex_aload_n d_Law_law_385 rfl k
theorem d_Law_law_386 : decode code 386 = .ok (.iload_n 3, 1) := by decide +kernel
theorem s_Law_law_386 {l0 l1 l2 : Option ex_V} {x : Int32} (k : ex_E Γ d M_Law_law 387 [l0, l1, l2, some (.inl x)] (.inl x :: st) K I F b Q) : ex_E Γ d M_Law_law 386 [l0, l1, l2, some (.inl x)] (st) K I F b Q := ex_iload_n d_Law_law_386 rfl k
theorem d_Law_law_387 : decode code 387 = .ok (.iconst 1, 1) := by decide +kernel
theorem s_Law_law_387 {l0 l1 l2 l3 : Option ex_V} (k : ex_E Γ d M_Law_law 388 [l0, l1, l2, l3] (.inl 1 :: st) K I F b Q) : ex_E Γ d M_Law_law 387 [l0, l1, l2, l3] (st) K I F b Q := ex_iconst d_Law_law_387 (by decide +kernel) k
theorem d_Law_law_388 : decode code 388 = .ok (.iadd, 1) := by decide +kernel
theorem s_Law_law_388 {l0 l1 l2 l3 : Option ex_V} {x y : Int32} (k : ex_E Γ d M_Law_law 389 [l0, l1, l2, l3] (.inl (x + y) :: st) K I F b Q) : ex_E Γ d M_Law_law 388 [l0, l1, l2, l3] (.inl y :: .inl x :: st) K I F b Q := ex_iadd d_Law_law_388 k
theorem d_Law_law_389 : decode code 389 = .ok (.iaload, 1) := by decide +kernel
theorem s_Law_law_389 {l0 l1 l2 l3 : Option ex_V} {i : Int32} (hi : vp_in i Γ.2.2.2.2.2.2.1) (k : ex_E Γ d M_Law_law 390 [l0, l1, l2, l3] (.inl (Γ.2.2.2.2.2.2.2 i.toNatClampNeg) :: st) K I F b Q) : ex_E Γ d M_Law_law 389 [l0, l1, l2, l3] (.inl i :: .inr (some Γ.2.2.2.2.2.1) :: st) K I F b Q := ex_sld d_Law_law_389 hi k
theorem d_Law_law_390 : decode code 390 = .ok (.invokevirtual 59, 3) := by decide +kernel
theorem s_Law_law_390 {l0 l1 l2 l3 : Option ex_V} {r : Option Nat} {a : Nat} {x0 : Int32} {b1 b2 : Nat} {Q1 : Option ex_V → ex_K → ex_I → ex_F → Prop} (hr : r = some a) (ha : (K a).1 = 1) (h : ex_E Γ d M_FC_copy 0 [some (.inr (some a)), some (.inl x0), none] [] K I F b1 Q1) (kk : ∀ r K' I' F', Q1 r K' I' F' → ex_E Γ (d + 1) M_Law_law 393 [l0, l1, l2, l3] (r.toList ++ st) K' I' F' b2 Q) (hbb : b1 + b2 ≤ b) (hst : st.length ≤ 8 := by first | exact Nat.le_of_ble_eq_true rfl | simp) : ex_E Γ (d + 1) M_Law_law 390 [l0, l1, l2, l3] (.inl x0 :: .inr r :: st) K I F b Q := by
  subst hr
  exact ex_callV (Mc := M_FC_copy) (n := 1) (av := [.inl x0]) (ci := 0) d_Law_law_390 (by decide) rfl rfl (by decide) rfl (by decide) (ex_good w_670) (List.mem_cons_of_mem _ w_667) (List.mem_cons_of_mem _ w_1) (List.mem_cons_of_mem _ w_668) (List.mem_cons_of_mem _ w_669) ⟨by decide +kernel, by decide +kernel, by decide +kernel⟩ rfl (Nat.le_of_ble_eq_true rfl) hst ha h hbb kk
theorem d_Law_law_393 : decode code 393 = .ok (.aload_n 2, 1) := by decide +kernel
theorem s_Law_law_393 {l0 l1 l3 : Option ex_V} {r : Option Nat} (k : ex_E Γ d M_Law_law 394 [l0, l1, some (.inr r), l3] (.inr r :: st) K I F b Q) : ex_E Γ d M_Law_law 393 [l0, l1, some (.inr r), l3] (st) K I F b Q := ex_aload_n d_Law_law_393 rfl k
theorem d_Law_law_394 : decode code 394 = .ok (.aload_n 0, 1) := by decide +kernel
theorem s_Law_law_394 {l1 l2 l3 : Option ex_V} {r : Option Nat} (k : ex_E Γ d M_Law_law 395 [some (.inr r), l1, l2, l3] (.inr r :: st) K I F b Q) : ex_E Γ d M_Law_law 394 [some (.inr r), l1, l2, l3] (st) K I F b Q := ex_aload_n d_Law_law_394 rfl k
theorem d_Law_law_395 : decode code 395 = .ok (.iload_n 3, 1) := by decide +kernel
theorem s_Law_law_395 {l0 l1 l2 : Option ex_V} {x : Int32} (k : ex_E Γ d M_Law_law 396 [l0, l1, l2, some (.inl x)] (.inl x :: st) K I F b Q) : ex_E Γ d M_Law_law 395 [l0, l1, l2, some (.inl x)] (st) K I F b Q := ex_iload_n d_Law_law_395 rfl k
theorem d_Law_law_396 : decode code 396 = .ok (.iconst 1, 1) := by decide +kernel
theorem s_Law_law_396 {l0 l1 l2 l3 : Option ex_V} (k : ex_E Γ d M_Law_law 397 [l0, l1, l2, l3] (.inl 1 :: st) K I F b Q) : ex_E Γ d M_Law_law 396 [l0, l1, l2, l3] (st) K I F b Q := ex_iconst d_Law_law_396 (by decide +kernel) k
theorem d_Law_law_397 : decode code 397 = .ok (.iadd, 1) := by decide +kernel
theorem s_Law_law_397 {l0 l1 l2 l3 : Option ex_V} {x y : Int32} (k : ex_E Γ d M_Law_law 398 [l0, l1, l2, l3] (.inl (x + y) :: st) K I F b Q) : ex_E Γ d M_Law_law 397 [l0, l1, l2, l3] (.inl y :: .inl x :: st) K I F b Q := ex_iadd d_Law_law_397 k
theorem d_Law_law_398 : decode code 398 = .ok (.iaload, 1) := by decide +kernel
theorem s_Law_law_398 {l0 l1 l2 l3 : Option ex_V} {i : Int32} (hi : vp_in i Γ.2.2.2.2.2.2.1) (k : ex_E Γ d M_Law_law 399 [l0, l1, l2, l3] (.inl (Γ.2.2.2.2.2.2.2 i.toNatClampNeg) :: st) K I F b Q) : ex_E Γ d M_Law_law 398 [l0, l1, l2, l3] (.inl i :: .inr (some Γ.2.2.2.2.2.1) :: st) K I F b Q := ex_sld d_Law_law_398 hi k
theorem d_Law_law_399 : decode code 399 = .ok (.invokevirtual 62, 3) := by decide +kernel
theorem s_Law_law_399 {l0 l1 l2 l3 : Option ex_V} {r : Option Nat} {a : Nat} {x0 : Int32} {b1 b2 : Nat} {Q1 : Option ex_V → ex_K → ex_I → ex_F → Prop} (hr : r = some a) (ha : (K a).1 = 12) (h : ex_E Γ d M_Mdl_copy 0 [some (.inr (some a)), some (.inl x0)] [] K I F b1 Q1) (kk : ∀ r K' I' F', Q1 r K' I' F' → ex_E Γ (d + 1) M_Law_law 402 [l0, l1, l2, l3] (r.toList ++ st) K' I' F' b2 Q) (hbb : b1 + b2 ≤ b) (hst : st.length ≤ 8 := by first | exact Nat.le_of_ble_eq_true rfl | simp) : ex_E Γ (d + 1) M_Law_law 399 [l0, l1, l2, l3] (.inl x0 :: .inr r :: st) K I F b Q := by
  subst hr
  exact ex_callV (Mc := M_Mdl_copy) (n := 1) (av := [.inl x0]) (ci := 11) d_Law_law_399 (by decide) rfl rfl (by decide) rfl (by decide) (ex_good w_1016) (List.mem_cons_of_mem _ w_1013) (List.mem_cons_of_mem _ w_11) (List.mem_cons_of_mem _ w_1014) (List.mem_cons_of_mem _ w_1015) ⟨by decide +kernel, by decide +kernel, by decide +kernel⟩ rfl (Nat.le_of_ble_eq_true rfl) hst ha h hbb kk
theorem d_Law_law_402 : decode code 402 = .ok (.if_icmp .eq 261, 3) := by decide +kernel
theorem s_Law_law_402 {l0 l1 l2 l3 : Option ex_V} {x y : Int32} (kt : x = y → ex_E Γ d M_Law_law 663 [l0, l1, l2, l3] (st) K I F b Q) (kf : ¬ x = y → ex_E Γ d M_Law_law 405 [l0, l1, l2, l3] (st) K I F b Q) : ex_E Γ d M_Law_law 402 [l0, l1, l2, l3] (.inl y :: .inl x :: st) K I F b Q := ex_icmp_eq d_Law_law_402 (by decide) kt kf
theorem d_Law_law_405 : decode code 405 = .ok (.iconst 0, 1) := by decide +kernel
theorem s_Law_law_405 {l0 l1 l2 l3 : Option ex_V} (k : ex_E Γ d M_Law_law 406 [l0, l1, l2, l3] (.inl 0 :: st) K I F b Q) : ex_E Γ d M_Law_law 405 [l0, l1, l2, l3] (st) K I F b Q := ex_iconst d_Law_law_405 (by decide +kernel) k
theorem d_Law_law_406 : decode code 406 = .ok (.ireturn, 1) := by decide +kernel
theorem s_Law_law_406 {l0 l1 l2 l3 : Option ex_V} {x : Int32} (hn : narrow .boolean (.int x) = .int x) (hq : Q (some (.inl x)) K I F) : ex_E Γ d M_Law_law 406 [l0, l1, l2, l3] ([.inl x]) K I F b Q := ex_zret d_Law_law_406 rfl hn hq
theorem d_Law_law_407 : decode code 407 = .ok (.aload_n 1, 1) := by decide +kernel
theorem s_Law_law_407 {l0 l2 l3 : Option ex_V} {r : Option Nat} (k : ex_E Γ d M_Law_law 408 [l0, some (.inr r), l2, l3] (.inr r :: st) K I F b Q) : ex_E Γ d M_Law_law 407 [l0, some (.inr r), l2, l3] (st) K I F b Q := ex_aload_n d_Law_law_407 rfl k
theorem d_Law_law_408 : decode code 408 = .ok (.invokevirtual 63, 3) := by decide +kernel
theorem s_Law_law_408 {l0 l1 l2 l3 : Option ex_V} {r : Option Nat} {a : Nat} {b1 b2 : Nat} {Q1 : Option ex_V → ex_K → ex_I → ex_F → Prop} (hr : r = some a) (ha : (K a).1 = 1) (h : ex_E Γ d M_FC_tick 0 [some (.inr (some a)), none] [] K I F b1 Q1) (kk : ∀ r K' I' F', Q1 r K' I' F' → ex_E Γ (d + 1) M_Law_law 411 [l0, l1, l2, l3] (r.toList ++ st) K' I' F' b2 Q) (hbb : b1 + b2 ≤ b) (hst : st.length ≤ 8 := by first | exact Nat.le_of_ble_eq_true rfl | simp) : ex_E Γ (d + 1) M_Law_law 408 [l0, l1, l2, l3] (.inr r :: st) K I F b Q := by
  subst hr
  exact ex_callV (Mc := M_FC_tick) (n := 0) (av := []) (ci := 0) d_Law_law_408 (by decide) rfl rfl (by decide) rfl (by decide) (ex_good w_675) (List.mem_cons_of_mem _ w_672) (List.mem_cons_of_mem _ w_1) (List.mem_cons_of_mem _ w_673) (List.mem_cons_of_mem _ w_674) ⟨by decide +kernel, by decide +kernel, by decide +kernel⟩ rfl (Nat.le_of_ble_eq_true rfl) hst ha h hbb kk
theorem d_Law_law_411 : decode code 411 = .ok (.aload_n 2, 1) := by decide +kernel
theorem s_Law_law_411 {l0 l1 l3 : Option ex_V} {r : Option Nat} (k : ex_E Γ d M_Law_law 412 [l0, l1, some (.inr r), l3] (.inr r :: st) K I F b Q) : ex_E Γ d M_Law_law 411 [l0, l1, some (.inr r), l3] (st) K I F b Q := ex_aload_n d_Law_law_411 rfl k
theorem d_Law_law_412 : decode code 412 = .ok (.invokevirtual 67, 3) := by decide +kernel
theorem s_Law_law_412 {l0 l1 l2 l3 : Option ex_V} {r : Option Nat} {a : Nat} {b1 b2 : Nat} {Q1 : Option ex_V → ex_K → ex_I → ex_F → Prop} (hr : r = some a) (ha : (K a).1 = 12) (h : ex_E Γ d M_Mdl_tick 0 [some (.inr (some a)), none, none] [] K I F b1 Q1) (kk : ∀ r K' I' F', Q1 r K' I' F' → ex_E Γ (d + 1) M_Law_law 415 [l0, l1, l2, l3] (r.toList ++ st) K' I' F' b2 Q) (hbb : b1 + b2 ≤ b) (hst : st.length ≤ 8 := by first | exact Nat.le_of_ble_eq_true rfl | simp) : ex_E Γ (d + 1) M_Law_law 412 [l0, l1, l2, l3] (.inr r :: st) K I F b Q := by
  subst hr
  exact ex_callV (Mc := M_Mdl_tick) (n := 0) (av := []) (ci := 11) d_Law_law_412 (by decide) rfl rfl (by decide) rfl (by decide) (ex_good w_945) (List.mem_cons_of_mem _ w_942) (List.mem_cons_of_mem _ w_11) (List.mem_cons_of_mem _ w_943) (List.mem_cons_of_mem _ w_944) ⟨by decide +kernel, by decide +kernel, by decide +kernel⟩ rfl (Nat.le_of_ble_eq_true rfl) hst ha h hbb kk
theorem d_Law_law_415 : decode code 415 = .ok (.if_icmp .eq 248, 3) := by decide +kernel
theorem s_Law_law_415 {l0 l1 l2 l3 : Option ex_V} {x y : Int32} (kt : x = y → ex_E Γ d M_Law_law 663 [l0, l1, l2, l3] (st) K I F b Q) (kf : ¬ x = y → ex_E Γ d M_Law_law 418 [l0, l1, l2, l3] (st) K I F b Q) : ex_E Γ d M_Law_law 415 [l0, l1, l2, l3] (.inl y :: .inl x :: st) K I F b Q := ex_icmp_eq d_Law_law_415 (by decide) kt kf
theorem d_Law_law_418 : decode code 418 = .ok (.iconst 0, 1) := by decide +kernel
theorem s_Law_law_418 {l0 l1 l2 l3 : Option ex_V} (k : ex_E Γ d M_Law_law 419 [l0, l1, l2, l3] (.inl 0 :: st) K I F b Q) : ex_E Γ d M_Law_law 418 [l0, l1, l2, l3] (st) K I F b Q := ex_iconst d_Law_law_418 (by decide +kernel) k
theorem d_Law_law_419 : decode code 419 = .ok (.ireturn, 1) := by decide +kernel
theorem s_Law_law_419 {l0 l1 l2 l3 : Option ex_V} {x : Int32} (hn : narrow .boolean (.int x) = .int x) (hq : Q (some (.inl x)) K I F) : ex_E Γ d M_Law_law 419 [l0, l1, l2, l3] ([.inl x]) K I F b Q := ex_zret d_Law_law_419 rfl hn hq
theorem d_Law_law_420 : decode code 420 = .ok (.aload_n 1, 1) := by decide +kernel
theorem s_Law_law_420 {l0 l2 l3 : Option ex_V} {r : Option Nat} (k : ex_E Γ d M_Law_law 421 [l0, some (.inr r), l2, l3] (.inr r :: st) K I F b Q) : ex_E Γ d M_Law_law 420 [l0, some (.inr r), l2, l3] (st) K I F b Q := ex_aload_n d_Law_law_420 rfl k
theorem d_Law_law_421 : decode code 421 = .ok (.aload_n 0, 1) := by decide +kernel
theorem s_Law_law_421 {l1 l2 l3 : Option ex_V} {r : Option Nat} (k : ex_E Γ d M_Law_law 422 [some (.inr r), l1, l2, l3] (.inr r :: st) K I F b Q) : ex_E Γ d M_Law_law 421 [some (.inr r), l1, l2, l3] (st) K I F b Q := ex_aload_n d_Law_law_421 rfl k
theorem d_Law_law_422 : decode code 422 = .ok (.iload_n 3, 1) := by decide +kernel
theorem s_Law_law_422 {l0 l1 l2 : Option ex_V} {x : Int32} (k : ex_E Γ d M_Law_law 423 [l0, l1, l2, some (.inl x)] (.inl x :: st) K I F b Q) : ex_E Γ d M_Law_law 422 [l0, l1, l2, some (.inl x)] (st) K I F b Q := ex_iload_n d_Law_law_422 rfl k
theorem d_Law_law_423 : decode code 423 = .ok (.iconst 1, 1) := by decide +kernel
theorem s_Law_law_423 {l0 l1 l2 l3 : Option ex_V} (k : ex_E Γ d M_Law_law 424 [l0, l1, l2, l3] (.inl 1 :: st) K I F b Q) : ex_E Γ d M_Law_law 423 [l0, l1, l2, l3] (st) K I F b Q := ex_iconst d_Law_law_423 (by decide +kernel) k
theorem d_Law_law_424 : decode code 424 = .ok (.iadd, 1) := by decide +kernel
theorem s_Law_law_424 {l0 l1 l2 l3 : Option ex_V} {x y : Int32} (k : ex_E Γ d M_Law_law 425 [l0, l1, l2, l3] (.inl (x + y) :: st) K I F b Q) : ex_E Γ d M_Law_law 424 [l0, l1, l2, l3] (.inl y :: .inl x :: st) K I F b Q := ex_iadd d_Law_law_424 k
theorem d_Law_law_425 : decode code 425 = .ok (.iaload, 1) := by decide +kernel
theorem s_Law_law_425 {l0 l1 l2 l3 : Option ex_V} {i : Int32} (hi : vp_in i Γ.2.2.2.2.2.2.1) (k : ex_E Γ d M_Law_law 426 [l0, l1, l2, l3] (.inl (Γ.2.2.2.2.2.2.2 i.toNatClampNeg) :: st) K I F b Q) : ex_E Γ d M_Law_law 425 [l0, l1, l2, l3] (.inl i :: .inr (some Γ.2.2.2.2.2.1) :: st) K I F b Q := ex_sld d_Law_law_425 hi k
theorem d_Law_law_426 : decode code 426 = .ok (.aload_n 0, 1) := by decide +kernel
theorem s_Law_law_426 {l1 l2 l3 : Option ex_V} {r : Option Nat} (k : ex_E Γ d M_Law_law 427 [some (.inr r), l1, l2, l3] (.inr r :: st) K I F b Q) : ex_E Γ d M_Law_law 426 [some (.inr r), l1, l2, l3] (st) K I F b Q := ex_aload_n d_Law_law_426 rfl k
theorem d_Law_law_427 : decode code 427 = .ok (.iload_n 3, 1) := by decide +kernel
theorem s_Law_law_427 {l0 l1 l2 : Option ex_V} {x : Int32} (k : ex_E Γ d M_Law_law 428 [l0, l1, l2, some (.inl x)] (.inl x :: st) K I F b Q) : ex_E Γ d M_Law_law 427 [l0, l1, l2, some (.inl x)] (st) K I F b Q := ex_iload_n d_Law_law_427 rfl k
theorem d_Law_law_428 : decode code 428 = .ok (.iconst 2, 1) := by decide +kernel
theorem s_Law_law_428 {l0 l1 l2 l3 : Option ex_V} (k : ex_E Γ d M_Law_law 429 [l0, l1, l2, l3] (.inl 2 :: st) K I F b Q) : ex_E Γ d M_Law_law 428 [l0, l1, l2, l3] (st) K I F b Q := ex_iconst d_Law_law_428 (by decide +kernel) k
theorem d_Law_law_429 : decode code 429 = .ok (.iadd, 1) := by decide +kernel
theorem s_Law_law_429 {l0 l1 l2 l3 : Option ex_V} {x y : Int32} (k : ex_E Γ d M_Law_law 430 [l0, l1, l2, l3] (.inl (x + y) :: st) K I F b Q) : ex_E Γ d M_Law_law 429 [l0, l1, l2, l3] (.inl y :: .inl x :: st) K I F b Q := ex_iadd d_Law_law_429 k
theorem d_Law_law_430 : decode code 430 = .ok (.iaload, 1) := by decide +kernel
theorem s_Law_law_430 {l0 l1 l2 l3 : Option ex_V} {i : Int32} (hi : vp_in i Γ.2.2.2.2.2.2.1) (k : ex_E Γ d M_Law_law 431 [l0, l1, l2, l3] (.inl (Γ.2.2.2.2.2.2.2 i.toNatClampNeg) :: st) K I F b Q) : ex_E Γ d M_Law_law 430 [l0, l1, l2, l3] (.inl i :: .inr (some Γ.2.2.2.2.2.1) :: st) K I F b Q := ex_sld d_Law_law_430 hi k
theorem d_Law_law_431 : decode code 431 = .ok (.ifCond .eq 7, 3) := by decide +kernel
theorem s_Law_law_431 {l0 l1 l2 l3 : Option ex_V} {x : Int32} (kt : x = 0 → ex_E Γ d M_Law_law 438 [l0, l1, l2, l3] (st) K I F b Q) (kf : ¬ x = 0 → ex_E Γ d M_Law_law 434 [l0, l1, l2, l3] (st) K I F b Q) : ex_E Γ d M_Law_law 431 [l0, l1, l2, l3] (.inl x :: st) K I F b Q := ex_if_eq d_Law_law_431 (by decide) kt kf
theorem d_Law_law_434 : decode code 434 = .ok (.iconst 1, 1) := by decide +kernel
theorem s_Law_law_434 {l0 l1 l2 l3 : Option ex_V} (k : ex_E Γ d M_Law_law 435 [l0, l1, l2, l3] (.inl 1 :: st) K I F b Q) : ex_E Γ d M_Law_law 434 [l0, l1, l2, l3] (st) K I F b Q := ex_iconst d_Law_law_434 (by decide +kernel) k
theorem d_Law_law_435 : decode code 435 = .ok (.goto 4, 3) := by decide +kernel
theorem s_Law_law_435 {l0 l1 l2 l3 : Option ex_V} (k : ex_E Γ d M_Law_law 439 [l0, l1, l2, l3] (st) K I F b Q) : ex_E Γ d M_Law_law 435 [l0, l1, l2, l3] (st) K I F b Q := ex_goto d_Law_law_435 (by decide) k
theorem d_Law_law_438 : decode code 438 = .ok (.iconst 0, 1) := by decide +kernel
theorem s_Law_law_438 {l0 l1 l2 l3 : Option ex_V} (k : ex_E Γ d M_Law_law 439 [l0, l1, l2, l3] (.inl 0 :: st) K I F b Q) : ex_E Γ d M_Law_law 438 [l0, l1, l2, l3] (st) K I F b Q := ex_iconst d_Law_law_438 (by decide +kernel) k
theorem d_Law_law_439 : decode code 439 = .ok (.invokevirtual 68, 3) := by decide +kernel
theorem s_Law_law_439 {l0 l1 l2 l3 : Option ex_V} {r : Option Nat} {a : Nat} {x0 : Int32} {x1 : Int32} {b1 b2 : Nat} {Q1 : Option ex_V → ex_K → ex_I → ex_F → Prop} (hr : r = some a) (ha : (K a).1 = 1) (h : ex_E Γ d M_FC_power 0 [some (.inr (some a)), some (.inl x0), some (.inl x1)] [] K I F b1 Q1) (kk : ∀ r K' I' F', Q1 r K' I' F' → ex_E Γ (d + 1) M_Law_law 442 [l0, l1, l2, l3] (r.toList ++ st) K' I' F' b2 Q) (hbb : b1 + b2 ≤ b) (hst : st.length ≤ 8 := by first | exact Nat.le_of_ble_eq_true rfl | simp) : ex_E Γ (d + 1) M_Law_law 439 [l0, l1, l2, l3] (.inl x1 :: .inl x0 :: .inr r :: st) K I F b Q := by
  subst hr
  exact ex_callV (Mc := M_FC_power) (n := 2) (av := [.inl x0, .inl x1]) (ci := 0) d_Law_law_439 (by decide) rfl rfl (by decide) rfl (by decide) (ex_good w_691) (List.mem_cons_of_mem _ w_688) (List.mem_cons_of_mem _ w_1) (List.mem_cons_of_mem _ w_689) (List.mem_cons_of_mem _ w_690) ⟨by decide +kernel, by decide +kernel, by decide +kernel⟩ rfl (Nat.le_of_ble_eq_true rfl) hst ha h hbb kk
theorem d_Law_law_442 : decode code 442 = .ok (.aload_n 2, 1) := by decide +kernel
theorem s_Law_law_442 {l0 l1 l3 : Option ex_V} {r : Option Nat} (k : ex_E Γ d M_Law_law 443 [l0, l1, some (.inr r), l3] (.inr r :: st) K I F b Q) : ex_E Γ d M_Law_law 442 [l0, l1, some (.inr r), l3] (st) K I F b Q := ex_aload_n d_Law_law_442 rfl k
theorem d_Law_law_443 : decode code 443 = .ok (.aload_n 0, 1) := by decide +kernel
theorem s_Law_law_443 {l1 l2 l3 : Option ex_V} {r : Option Nat} (k : ex_E Γ d M_Law_law 444 [some (.inr r), l1, l2, l3] (.inr r :: st) K I F b Q) : ex_E Γ d M_Law_law 443 [some (.inr r), l1, l2, l3] (st) K I F b Q := ex_aload_n d_Law_law_443 rfl k
theorem d_Law_law_444 : decode code 444 = .ok (.iload_n 3, 1) := by decide +kernel
theorem s_Law_law_444 {l0 l1 l2 : Option ex_V} {x : Int32} (k : ex_E Γ d M_Law_law 445 [l0, l1, l2, some (.inl x)] (.inl x :: st) K I F b Q) : ex_E Γ d M_Law_law 444 [l0, l1, l2, some (.inl x)] (st) K I F b Q := ex_iload_n d_Law_law_444 rfl k
theorem d_Law_law_445 : decode code 445 = .ok (.iconst 1, 1) := by decide +kernel
theorem s_Law_law_445 {l0 l1 l2 l3 : Option ex_V} (k : ex_E Γ d M_Law_law 446 [l0, l1, l2, l3] (.inl 1 :: st) K I F b Q) : ex_E Γ d M_Law_law 445 [l0, l1, l2, l3] (st) K I F b Q := ex_iconst d_Law_law_445 (by decide +kernel) k
theorem d_Law_law_446 : decode code 446 = .ok (.iadd, 1) := by decide +kernel
theorem s_Law_law_446 {l0 l1 l2 l3 : Option ex_V} {x y : Int32} (k : ex_E Γ d M_Law_law 447 [l0, l1, l2, l3] (.inl (x + y) :: st) K I F b Q) : ex_E Γ d M_Law_law 446 [l0, l1, l2, l3] (.inl y :: .inl x :: st) K I F b Q := ex_iadd d_Law_law_446 k
theorem d_Law_law_447 : decode code 447 = .ok (.iaload, 1) := by decide +kernel
theorem s_Law_law_447 {l0 l1 l2 l3 : Option ex_V} {i : Int32} (hi : vp_in i Γ.2.2.2.2.2.2.1) (k : ex_E Γ d M_Law_law 448 [l0, l1, l2, l3] (.inl (Γ.2.2.2.2.2.2.2 i.toNatClampNeg) :: st) K I F b Q) : ex_E Γ d M_Law_law 447 [l0, l1, l2, l3] (.inl i :: .inr (some Γ.2.2.2.2.2.1) :: st) K I F b Q := ex_sld d_Law_law_447 hi k
theorem d_Law_law_448 : decode code 448 = .ok (.aload_n 0, 1) := by decide +kernel
theorem s_Law_law_448 {l1 l2 l3 : Option ex_V} {r : Option Nat} (k : ex_E Γ d M_Law_law 449 [some (.inr r), l1, l2, l3] (.inr r :: st) K I F b Q) : ex_E Γ d M_Law_law 448 [some (.inr r), l1, l2, l3] (st) K I F b Q := ex_aload_n d_Law_law_448 rfl k
theorem d_Law_law_449 : decode code 449 = .ok (.iload_n 3, 1) := by decide +kernel
theorem s_Law_law_449 {l0 l1 l2 : Option ex_V} {x : Int32} (k : ex_E Γ d M_Law_law 450 [l0, l1, l2, some (.inl x)] (.inl x :: st) K I F b Q) : ex_E Γ d M_Law_law 449 [l0, l1, l2, some (.inl x)] (st) K I F b Q := ex_iload_n d_Law_law_449 rfl k
theorem d_Law_law_450 : decode code 450 = .ok (.iconst 2, 1) := by decide +kernel
theorem s_Law_law_450 {l0 l1 l2 l3 : Option ex_V} (k : ex_E Γ d M_Law_law 451 [l0, l1, l2, l3] (.inl 2 :: st) K I F b Q) : ex_E Γ d M_Law_law 450 [l0, l1, l2, l3] (st) K I F b Q := ex_iconst d_Law_law_450 (by decide +kernel) k
theorem d_Law_law_451 : decode code 451 = .ok (.iadd, 1) := by decide +kernel
theorem s_Law_law_451 {l0 l1 l2 l3 : Option ex_V} {x y : Int32} (k : ex_E Γ d M_Law_law 452 [l0, l1, l2, l3] (.inl (x + y) :: st) K I F b Q) : ex_E Γ d M_Law_law 451 [l0, l1, l2, l3] (.inl y :: .inl x :: st) K I F b Q := ex_iadd d_Law_law_451 k
theorem d_Law_law_452 : decode code 452 = .ok (.iaload, 1) := by decide +kernel
theorem s_Law_law_452 {l0 l1 l2 l3 : Option ex_V} {i : Int32} (hi : vp_in i Γ.2.2.2.2.2.2.1) (k : ex_E Γ d M_Law_law 453 [l0, l1, l2, l3] (.inl (Γ.2.2.2.2.2.2.2 i.toNatClampNeg) :: st) K I F b Q) : ex_E Γ d M_Law_law 452 [l0, l1, l2, l3] (.inl i :: .inr (some Γ.2.2.2.2.2.1) :: st) K I F b Q := ex_sld d_Law_law_452 hi k
theorem d_Law_law_453 : decode code 453 = .ok (.ifCond .eq 7, 3) := by decide +kernel
theorem s_Law_law_453 {l0 l1 l2 l3 : Option ex_V} {x : Int32} (kt : x = 0 → ex_E Γ d M_Law_law 460 [l0, l1, l2, l3] (st) K I F b Q) (kf : ¬ x = 0 → ex_E Γ d M_Law_law 456 [l0, l1, l2, l3] (st) K I F b Q) : ex_E Γ d M_Law_law 453 [l0, l1, l2, l3] (.inl x :: st) K I F b Q := ex_if_eq d_Law_law_453 (by decide) kt kf
theorem d_Law_law_456 : decode code 456 = .ok (.iconst 1, 1) := by decide +kernel
theorem s_Law_law_456 {l0 l1 l2 l3 : Option ex_V} (k : ex_E Γ d M_Law_law 457 [l0, l1, l2, l3] (.inl 1 :: st) K I F b Q) : ex_E Γ d M_Law_law 456 [l0, l1, l2, l3] (st) K I F b Q := ex_iconst d_Law_law_456 (by decide +kernel) k
theorem d_Law_law_457 : decode code 457 = .ok (.goto 4, 3) := by decide +kernel
theorem s_Law_law_457 {l0 l1 l2 l3 : Option ex_V} (k : ex_E Γ d M_Law_law 461 [l0, l1, l2, l3] (st) K I F b Q) : ex_E Γ d M_Law_law 457 [l0, l1, l2, l3] (st) K I F b Q := ex_goto d_Law_law_457 (by decide) k
theorem d_Law_law_460 : decode code 460 = .ok (.iconst 0, 1) := by decide +kernel
theorem s_Law_law_460 {l0 l1 l2 l3 : Option ex_V} (k : ex_E Γ d M_Law_law 461 [l0, l1, l2, l3] (.inl 0 :: st) K I F b Q) : ex_E Γ d M_Law_law 460 [l0, l1, l2, l3] (st) K I F b Q := ex_iconst d_Law_law_460 (by decide +kernel) k
theorem d_Law_law_461 : decode code 461 = .ok (.invokevirtual 72, 3) := by decide +kernel
theorem s_Law_law_461 {l0 l1 l2 l3 : Option ex_V} {r : Option Nat} {a : Nat} {x0 : Int32} {x1 : Int32} {b1 b2 : Nat} {Q1 : Option ex_V → ex_K → ex_I → ex_F → Prop} (hr : r = some a) (ha : (K a).1 = 12) (h : ex_E Γ d M_Mdl_power 0 [some (.inr (some a)), some (.inl x0), some (.inl x1)] [] K I F b1 Q1) (kk : ∀ r K' I' F', Q1 r K' I' F' → ex_E Γ (d + 1) M_Law_law 464 [l0, l1, l2, l3] (r.toList ++ st) K' I' F' b2 Q) (hbb : b1 + b2 ≤ b) (hst : st.length ≤ 8 := by first | exact Nat.le_of_ble_eq_true rfl | simp) : ex_E Γ (d + 1) M_Law_law 461 [l0, l1, l2, l3] (.inl x1 :: .inl x0 :: .inr r :: st) K I F b Q := by
  subst hr
  exact ex_callV (Mc := M_Mdl_power) (n := 2) (av := [.inl x0, .inl x1]) (ci := 11) d_Law_law_461 (by decide) rfl rfl (by decide) rfl (by decide) (ex_good w_1020) (List.mem_cons_of_mem _ w_1017) (List.mem_cons_of_mem _ w_11) (List.mem_cons_of_mem _ w_1018) (List.mem_cons_of_mem _ w_1019) ⟨by decide +kernel, by decide +kernel, by decide +kernel⟩ rfl (Nat.le_of_ble_eq_true rfl) hst ha h hbb kk
theorem d_Law_law_464 : decode code 464 = .ok (.if_icmp .eq 199, 3) := by decide +kernel
theorem s_Law_law_464 {l0 l1 l2 l3 : Option ex_V} {x y : Int32} (kt : x = y → ex_E Γ d M_Law_law 663 [l0, l1, l2, l3] (st) K I F b Q) (kf : ¬ x = y → ex_E Γ d M_Law_law 467 [l0, l1, l2, l3] (st) K I F b Q) : ex_E Γ d M_Law_law 464 [l0, l1, l2, l3] (.inl y :: .inl x :: st) K I F b Q := ex_icmp_eq d_Law_law_464 (by decide) kt kf
theorem d_Law_law_467 : decode code 467 = .ok (.iconst 0, 1) := by decide +kernel
theorem s_Law_law_467 {l0 l1 l2 l3 : Option ex_V} (k : ex_E Γ d M_Law_law 468 [l0, l1, l2, l3] (.inl 0 :: st) K I F b Q) : ex_E Γ d M_Law_law 467 [l0, l1, l2, l3] (st) K I F b Q := ex_iconst d_Law_law_467 (by decide +kernel) k
theorem d_Law_law_468 : decode code 468 = .ok (.ireturn, 1) := by decide +kernel
theorem s_Law_law_468 {l0 l1 l2 l3 : Option ex_V} {x : Int32} (hn : narrow .boolean (.int x) = .int x) (hq : Q (some (.inl x)) K I F) : ex_E Γ d M_Law_law 468 [l0, l1, l2, l3] ([.inl x]) K I F b Q := ex_zret d_Law_law_468 rfl hn hq
theorem d_Law_law_469 : decode code 469 = .ok (.aload_n 1, 1) := by decide +kernel
theorem s_Law_law_469 {l0 l2 l3 : Option ex_V} {r : Option Nat} (k : ex_E Γ d M_Law_law 470 [l0, some (.inr r), l2, l3] (.inr r :: st) K I F b Q) : ex_E Γ d M_Law_law 469 [l0, some (.inr r), l2, l3] (st) K I F b Q := ex_aload_n d_Law_law_469 rfl k
theorem d_Law_law_470 : decode code 470 = .ok (.aload_n 0, 1) := by decide +kernel
theorem s_Law_law_470 {l1 l2 l3 : Option ex_V} {r : Option Nat} (k : ex_E Γ d M_Law_law 471 [some (.inr r), l1, l2, l3] (.inr r :: st) K I F b Q) : ex_E Γ d M_Law_law 470 [some (.inr r), l1, l2, l3] (st) K I F b Q := ex_aload_n d_Law_law_470 rfl k
theorem d_Law_law_471 : decode code 471 = .ok (.iload_n 3, 1) := by decide +kernel
theorem s_Law_law_471 {l0 l1 l2 : Option ex_V} {x : Int32} (k : ex_E Γ d M_Law_law 472 [l0, l1, l2, some (.inl x)] (.inl x :: st) K I F b Q) : ex_E Γ d M_Law_law 471 [l0, l1, l2, some (.inl x)] (st) K I F b Q := ex_iload_n d_Law_law_471 rfl k
theorem d_Law_law_472 : decode code 472 = .ok (.iconst 1, 1) := by decide +kernel
theorem s_Law_law_472 {l0 l1 l2 l3 : Option ex_V} (k : ex_E Γ d M_Law_law 473 [l0, l1, l2, l3] (.inl 1 :: st) K I F b Q) : ex_E Γ d M_Law_law 472 [l0, l1, l2, l3] (st) K I F b Q := ex_iconst d_Law_law_472 (by decide +kernel) k
theorem d_Law_law_473 : decode code 473 = .ok (.iadd, 1) := by decide +kernel
theorem s_Law_law_473 {l0 l1 l2 l3 : Option ex_V} {x y : Int32} (k : ex_E Γ d M_Law_law 474 [l0, l1, l2, l3] (.inl (x + y) :: st) K I F b Q) : ex_E Γ d M_Law_law 473 [l0, l1, l2, l3] (.inl y :: .inl x :: st) K I F b Q := ex_iadd d_Law_law_473 k
theorem d_Law_law_474 : decode code 474 = .ok (.iaload, 1) := by decide +kernel
theorem s_Law_law_474 {l0 l1 l2 l3 : Option ex_V} {i : Int32} (hi : vp_in i Γ.2.2.2.2.2.2.1) (k : ex_E Γ d M_Law_law 475 [l0, l1, l2, l3] (.inl (Γ.2.2.2.2.2.2.2 i.toNatClampNeg) :: st) K I F b Q) : ex_E Γ d M_Law_law 474 [l0, l1, l2, l3] (.inl i :: .inr (some Γ.2.2.2.2.2.1) :: st) K I F b Q := ex_sld d_Law_law_474 hi k
theorem d_Law_law_475 : decode code 475 = .ok (.aload_n 0, 1) := by decide +kernel
theorem s_Law_law_475 {l1 l2 l3 : Option ex_V} {r : Option Nat} (k : ex_E Γ d M_Law_law 476 [some (.inr r), l1, l2, l3] (.inr r :: st) K I F b Q) : ex_E Γ d M_Law_law 475 [some (.inr r), l1, l2, l3] (st) K I F b Q := ex_aload_n d_Law_law_475 rfl k
theorem d_Law_law_476 : decode code 476 = .ok (.iload_n 3, 1) := by decide +kernel
theorem s_Law_law_476 {l0 l1 l2 : Option ex_V} {x : Int32} (k : ex_E Γ d M_Law_law 477 [l0, l1, l2, some (.inl x)] (.inl x :: st) K I F b Q) : ex_E Γ d M_Law_law 476 [l0, l1, l2, some (.inl x)] (st) K I F b Q := ex_iload_n d_Law_law_476 rfl k
theorem d_Law_law_477 : decode code 477 = .ok (.iconst 2, 1) := by decide +kernel
theorem s_Law_law_477 {l0 l1 l2 l3 : Option ex_V} (k : ex_E Γ d M_Law_law 478 [l0, l1, l2, l3] (.inl 2 :: st) K I F b Q) : ex_E Γ d M_Law_law 477 [l0, l1, l2, l3] (st) K I F b Q := ex_iconst d_Law_law_477 (by decide +kernel) k
theorem d_Law_law_478 : decode code 478 = .ok (.iadd, 1) := by decide +kernel
theorem s_Law_law_478 {l0 l1 l2 l3 : Option ex_V} {x y : Int32} (k : ex_E Γ d M_Law_law 479 [l0, l1, l2, l3] (.inl (x + y) :: st) K I F b Q) : ex_E Γ d M_Law_law 478 [l0, l1, l2, l3] (.inl y :: .inl x :: st) K I F b Q := ex_iadd d_Law_law_478 k
theorem d_Law_law_479 : decode code 479 = .ok (.iaload, 1) := by decide +kernel
theorem s_Law_law_479 {l0 l1 l2 l3 : Option ex_V} {i : Int32} (hi : vp_in i Γ.2.2.2.2.2.2.1) (k : ex_E Γ d M_Law_law 480 [l0, l1, l2, l3] (.inl (Γ.2.2.2.2.2.2.2 i.toNatClampNeg) :: st) K I F b Q) : ex_E Γ d M_Law_law 479 [l0, l1, l2, l3] (.inl i :: .inr (some Γ.2.2.2.2.2.1) :: st) K I F b Q := ex_sld d_Law_law_479 hi k
theorem d_Law_law_480 : decode code 480 = .ok (.invokevirtual 73, 3) := by decide +kernel
theorem s_Law_law_480 {l0 l1 l2 l3 : Option ex_V} {r : Option Nat} {a : Nat} {x0 : Int32} {x1 : Int32} {b1 b2 : Nat} {Q1 : Option ex_V → ex_K → ex_I → ex_F → Prop} (hr : r = some a) (ha : (K a).1 = 1) (h : ex_E Γ d M_FC_answer 0 [some (.inr (some a)), some (.inl x0), some (.inl x1), none] [] K I F b1 Q1) (kk : ∀ r K' I' F', Q1 r K' I' F' → ex_E Γ (d + 1) M_Law_law 483 [l0, l1, l2, l3] (r.toList ++ st) K' I' F' b2 Q) (hbb : b1 + b2 ≤ b) (hst : st.length ≤ 8 := by first | exact Nat.le_of_ble_eq_true rfl | simp) : ex_E Γ (d + 1) M_Law_law 480 [l0, l1, l2, l3] (.inl x1 :: .inl x0 :: .inr r :: st) K I F b Q := by
  subst hr
  exact ex_callV (Mc := M_FC_answer) (n := 2) (av := [.inl x0, .inl x1]) (ci := 0) d_Law_law_480 (by decide) rfl rfl (by decide) rfl (by decide) (ex_good w_698) (List.mem_cons_of_mem _ w_695) (List.mem_cons_of_mem _ w_1) (List.mem_cons_of_mem _ w_696) (List.mem_cons_of_mem _ w_697) ⟨by decide +kernel, by decide +kernel, by decide +kernel⟩ rfl (Nat.le_of_ble_eq_true rfl) hst ha h hbb kk
theorem d_Law_law_483 : decode code 483 = .ok (.aload_n 2, 1) := by decide +kernel
theorem s_Law_law_483 {l0 l1 l3 : Option ex_V} {r : Option Nat} (k : ex_E Γ d M_Law_law 484 [l0, l1, some (.inr r), l3] (.inr r :: st) K I F b Q) : ex_E Γ d M_Law_law 483 [l0, l1, some (.inr r), l3] (st) K I F b Q := ex_aload_n d_Law_law_483 rfl k
theorem d_Law_law_484 : decode code 484 = .ok (.aload_n 0, 1) := by decide +kernel
theorem s_Law_law_484 {l1 l2 l3 : Option ex_V} {r : Option Nat} (k : ex_E Γ d M_Law_law 485 [some (.inr r), l1, l2, l3] (.inr r :: st) K I F b Q) : ex_E Γ d M_Law_law 484 [some (.inr r), l1, l2, l3] (st) K I F b Q := ex_aload_n d_Law_law_484 rfl k
theorem d_Law_law_485 : decode code 485 = .ok (.iload_n 3, 1) := by decide +kernel
theorem s_Law_law_485 {l0 l1 l2 : Option ex_V} {x : Int32} (k : ex_E Γ d M_Law_law 486 [l0, l1, l2, some (.inl x)] (.inl x :: st) K I F b Q) : ex_E Γ d M_Law_law 485 [l0, l1, l2, some (.inl x)] (st) K I F b Q := ex_iload_n d_Law_law_485 rfl k
theorem d_Law_law_486 : decode code 486 = .ok (.iconst 1, 1) := by decide +kernel
theorem s_Law_law_486 {l0 l1 l2 l3 : Option ex_V} (k : ex_E Γ d M_Law_law 487 [l0, l1, l2, l3] (.inl 1 :: st) K I F b Q) : ex_E Γ d M_Law_law 486 [l0, l1, l2, l3] (st) K I F b Q := ex_iconst d_Law_law_486 (by decide +kernel) k
theorem d_Law_law_487 : decode code 487 = .ok (.iadd, 1) := by decide +kernel
theorem s_Law_law_487 {l0 l1 l2 l3 : Option ex_V} {x y : Int32} (k : ex_E Γ d M_Law_law 488 [l0, l1, l2, l3] (.inl (x + y) :: st) K I F b Q) : ex_E Γ d M_Law_law 487 [l0, l1, l2, l3] (.inl y :: .inl x :: st) K I F b Q := ex_iadd d_Law_law_487 k
theorem d_Law_law_488 : decode code 488 = .ok (.iaload, 1) := by decide +kernel
theorem s_Law_law_488 {l0 l1 l2 l3 : Option ex_V} {i : Int32} (hi : vp_in i Γ.2.2.2.2.2.2.1) (k : ex_E Γ d M_Law_law 489 [l0, l1, l2, l3] (.inl (Γ.2.2.2.2.2.2.2 i.toNatClampNeg) :: st) K I F b Q) : ex_E Γ d M_Law_law 488 [l0, l1, l2, l3] (.inl i :: .inr (some Γ.2.2.2.2.2.1) :: st) K I F b Q := ex_sld d_Law_law_488 hi k
theorem d_Law_law_489 : decode code 489 = .ok (.aload_n 0, 1) := by decide +kernel
theorem s_Law_law_489 {l1 l2 l3 : Option ex_V} {r : Option Nat} (k : ex_E Γ d M_Law_law 490 [some (.inr r), l1, l2, l3] (.inr r :: st) K I F b Q) : ex_E Γ d M_Law_law 489 [some (.inr r), l1, l2, l3] (st) K I F b Q := ex_aload_n d_Law_law_489 rfl k
theorem d_Law_law_490 : decode code 490 = .ok (.iload_n 3, 1) := by decide +kernel
theorem s_Law_law_490 {l0 l1 l2 : Option ex_V} {x : Int32} (k : ex_E Γ d M_Law_law 491 [l0, l1, l2, some (.inl x)] (.inl x :: st) K I F b Q) : ex_E Γ d M_Law_law 490 [l0, l1, l2, some (.inl x)] (st) K I F b Q := ex_iload_n d_Law_law_490 rfl k
theorem d_Law_law_491 : decode code 491 = .ok (.iconst 2, 1) := by decide +kernel
theorem s_Law_law_491 {l0 l1 l2 l3 : Option ex_V} (k : ex_E Γ d M_Law_law 492 [l0, l1, l2, l3] (.inl 2 :: st) K I F b Q) : ex_E Γ d M_Law_law 491 [l0, l1, l2, l3] (st) K I F b Q := ex_iconst d_Law_law_491 (by decide +kernel) k
theorem d_Law_law_492 : decode code 492 = .ok (.iadd, 1) := by decide +kernel
theorem s_Law_law_492 {l0 l1 l2 l3 : Option ex_V} {x y : Int32} (k : ex_E Γ d M_Law_law 493 [l0, l1, l2, l3] (.inl (x + y) :: st) K I F b Q) : ex_E Γ d M_Law_law 492 [l0, l1, l2, l3] (.inl y :: .inl x :: st) K I F b Q := ex_iadd d_Law_law_492 k
theorem d_Law_law_493 : decode code 493 = .ok (.iaload, 1) := by decide +kernel
theorem s_Law_law_493 {l0 l1 l2 l3 : Option ex_V} {i : Int32} (hi : vp_in i Γ.2.2.2.2.2.2.1) (k : ex_E Γ d M_Law_law 494 [l0, l1, l2, l3] (.inl (Γ.2.2.2.2.2.2.2 i.toNatClampNeg) :: st) K I F b Q) : ex_E Γ d M_Law_law 493 [l0, l1, l2, l3] (.inl i :: .inr (some Γ.2.2.2.2.2.1) :: st) K I F b Q := ex_sld d_Law_law_493 hi k
theorem d_Law_law_494 : decode code 494 = .ok (.invokevirtual 76, 3) := by decide +kernel
theorem s_Law_law_494 {l0 l1 l2 l3 : Option ex_V} {r : Option Nat} {a : Nat} {x0 : Int32} {x1 : Int32} {b1 b2 : Nat} {Q1 : Option ex_V → ex_K → ex_I → ex_F → Prop} (hr : r = some a) (ha : (K a).1 = 12) (h : ex_E Γ d M_Mdl_answer 0 [some (.inr (some a)), some (.inl x0), some (.inl x1), none] [] K I F b1 Q1) (kk : ∀ r K' I' F', Q1 r K' I' F' → ex_E Γ (d + 1) M_Law_law 497 [l0, l1, l2, l3] (r.toList ++ st) K' I' F' b2 Q) (hbb : b1 + b2 ≤ b) (hst : st.length ≤ 8 := by first | exact Nat.le_of_ble_eq_true rfl | simp) : ex_E Γ (d + 1) M_Law_law 494 [l0, l1, l2, l3] (.inl x1 :: .inl x0 :: .inr r :: st) K I F b Q := by
  subst hr
  exact ex_callV (Mc := M_Mdl_answer) (n := 2) (av := [.inl x0, .inl x1]) (ci := 11) d_Law_law_494 (by decide) rfl rfl (by decide) rfl (by decide) (ex_good w_1027) (List.mem_cons_of_mem _ w_1024) (List.mem_cons_of_mem _ w_11) (List.mem_cons_of_mem _ w_1025) (List.mem_cons_of_mem _ w_1026) ⟨by decide +kernel, by decide +kernel, by decide +kernel⟩ rfl (Nat.le_of_ble_eq_true rfl) hst ha h hbb kk
theorem d_Law_law_497 : decode code 497 = .ok (.if_icmp .eq 166, 3) := by decide +kernel
theorem s_Law_law_497 {l0 l1 l2 l3 : Option ex_V} {x y : Int32} (kt : x = y → ex_E Γ d M_Law_law 663 [l0, l1, l2, l3] (st) K I F b Q) (kf : ¬ x = y → ex_E Γ d M_Law_law 500 [l0, l1, l2, l3] (st) K I F b Q) : ex_E Γ d M_Law_law 497 [l0, l1, l2, l3] (.inl y :: .inl x :: st) K I F b Q := ex_icmp_eq d_Law_law_497 (by decide) kt kf
theorem d_Law_law_500 : decode code 500 = .ok (.iconst 0, 1) := by decide +kernel
theorem s_Law_law_500 {l0 l1 l2 l3 : Option ex_V} (k : ex_E Γ d M_Law_law 501 [l0, l1, l2, l3] (.inl 0 :: st) K I F b Q) : ex_E Γ d M_Law_law 500 [l0, l1, l2, l3] (st) K I F b Q := ex_iconst d_Law_law_500 (by decide +kernel) k
theorem d_Law_law_501 : decode code 501 = .ok (.ireturn, 1) := by decide +kernel
theorem s_Law_law_501 {l0 l1 l2 l3 : Option ex_V} {x : Int32} (hn : narrow .boolean (.int x) = .int x) (hq : Q (some (.inl x)) K I F) : ex_E Γ d M_Law_law 501 [l0, l1, l2, l3] ([.inl x]) K I F b Q := ex_zret d_Law_law_501 rfl hn hq
theorem d_Law_law_502 : decode code 502 = .ok (.aload_n 1, 1) := by decide +kernel
theorem s_Law_law_502 {l0 l2 l3 : Option ex_V} {r : Option Nat} (k : ex_E Γ d M_Law_law 503 [l0, some (.inr r), l2, l3] (.inr r :: st) K I F b Q) : ex_E Γ d M_Law_law 502 [l0, some (.inr r), l2, l3] (st) K I F b Q := ex_aload_n d_Law_law_502 rfl k
theorem d_Law_law_503 : decode code 503 = .ok (.invokevirtual 77, 3) := by decide +kernel
theorem s_Law_law_503 {l0 l1 l2 l3 : Option ex_V} {r : Option Nat} {a : Nat} {b1 b2 : Nat} {Q1 : Option ex_V → ex_K → ex_I → ex_F → Prop} (hr : r = some a) (ha : (K a).1 = 1) (h : ex_E Γ d M_FC_flights 0 [some (.inr (some a))] [] K I F b1 Q1) (kk : ∀ r K' I' F', Q1 r K' I' F' → ex_E Γ (d + 1) M_Law_law 506 [l0, l1, l2, l3] (r.toList ++ st) K' I' F' b2 Q) (hbb : b1 + b2 ≤ b) (hst : st.length ≤ 8 := by first | exact Nat.le_of_ble_eq_true rfl | simp) : ex_E Γ (d + 1) M_Law_law 503 [l0, l1, l2, l3] (.inr r :: st) K I F b Q := by
  subst hr
  exact ex_callV (Mc := M_FC_flights) (n := 0) (av := []) (ci := 0) d_Law_law_503 (by decide) rfl rfl (by decide) rfl (by decide) (ex_good w_702) (List.mem_cons_of_mem _ w_699) (List.mem_cons_of_mem _ w_1) (List.mem_cons_of_mem _ w_700) (List.mem_cons_of_mem _ w_701) ⟨by decide +kernel, by decide +kernel, by decide +kernel⟩ rfl (Nat.le_of_ble_eq_true rfl) hst ha h hbb kk
theorem d_Law_law_506 : decode code 506 = .ok (.aload_n 2, 1) := by decide +kernel
theorem s_Law_law_506 {l0 l1 l3 : Option ex_V} {r : Option Nat} (k : ex_E Γ d M_Law_law 507 [l0, l1, some (.inr r), l3] (.inr r :: st) K I F b Q) : ex_E Γ d M_Law_law 506 [l0, l1, some (.inr r), l3] (st) K I F b Q := ex_aload_n d_Law_law_506 rfl k
theorem d_Law_law_507 : decode code 507 = .ok (.invokevirtual 80, 3) := by decide +kernel
theorem s_Law_law_507 {l0 l1 l2 l3 : Option ex_V} {r : Option Nat} {a : Nat} {b1 b2 : Nat} {Q1 : Option ex_V → ex_K → ex_I → ex_F → Prop} (hr : r = some a) (ha : (K a).1 = 12) (h : ex_E Γ d M_Mdl_flights 0 [some (.inr (some a))] [] K I F b1 Q1) (kk : ∀ r K' I' F', Q1 r K' I' F' → ex_E Γ (d + 1) M_Law_law 510 [l0, l1, l2, l3] (r.toList ++ st) K' I' F' b2 Q) (hbb : b1 + b2 ≤ b) (hst : st.length ≤ 8 := by first | exact Nat.le_of_ble_eq_true rfl | simp) : ex_E Γ (d + 1) M_Law_law 507 [l0, l1, l2, l3] (.inr r :: st) K I F b Q := by
  subst hr
  exact ex_callV (Mc := M_Mdl_flights) (n := 0) (av := []) (ci := 11) d_Law_law_507 (by decide) rfl rfl (by decide) rfl (by decide) (ex_good w_1031) (List.mem_cons_of_mem _ w_1028) (List.mem_cons_of_mem _ w_11) (List.mem_cons_of_mem _ w_1029) (List.mem_cons_of_mem _ w_1030) ⟨by decide +kernel, by decide +kernel, by decide +kernel⟩ rfl (Nat.le_of_ble_eq_true rfl) hst ha h hbb kk
theorem d_Law_law_510 : decode code 510 = .ok (.if_icmp .eq 153, 3) := by decide +kernel
theorem s_Law_law_510 {l0 l1 l2 l3 : Option ex_V} {x y : Int32} (kt : x = y → ex_E Γ d M_Law_law 663 [l0, l1, l2, l3] (st) K I F b Q) (kf : ¬ x = y → ex_E Γ d M_Law_law 513 [l0, l1, l2, l3] (st) K I F b Q) : ex_E Γ d M_Law_law 510 [l0, l1, l2, l3] (.inl y :: .inl x :: st) K I F b Q := ex_icmp_eq d_Law_law_510 (by decide) kt kf
theorem d_Law_law_513 : decode code 513 = .ok (.iconst 0, 1) := by decide +kernel
theorem s_Law_law_513 {l0 l1 l2 l3 : Option ex_V} (k : ex_E Γ d M_Law_law 514 [l0, l1, l2, l3] (.inl 0 :: st) K I F b Q) : ex_E Γ d M_Law_law 513 [l0, l1, l2, l3] (st) K I F b Q := ex_iconst d_Law_law_513 (by decide +kernel) k
theorem d_Law_law_514 : decode code 514 = .ok (.ireturn, 1) := by decide +kernel
theorem s_Law_law_514 {l0 l1 l2 l3 : Option ex_V} {x : Int32} (hn : narrow .boolean (.int x) = .int x) (hq : Q (some (.inl x)) K I F) : ex_E Γ d M_Law_law 514 [l0, l1, l2, l3] ([.inl x]) K I F b Q := ex_zret d_Law_law_514 rfl hn hq
theorem d_Law_law_515 : decode code 515 = .ok (.aload_n 1, 1) := by decide +kernel
theorem s_Law_law_515 {l0 l2 l3 : Option ex_V} {r : Option Nat} (k : ex_E Γ d M_Law_law 516 [l0, some (.inr r), l2, l3] (.inr r :: st) K I F b Q) : ex_E Γ d M_Law_law 515 [l0, some (.inr r), l2, l3] (st) K I F b Q := ex_aload_n d_Law_law_515 rfl k
theorem d_Law_law_516 : decode code 516 = .ok (.aload_n 0, 1) := by decide +kernel
theorem s_Law_law_516 {l1 l2 l3 : Option ex_V} {r : Option Nat} (k : ex_E Γ d M_Law_law 517 [some (.inr r), l1, l2, l3] (.inr r :: st) K I F b Q) : ex_E Γ d M_Law_law 516 [some (.inr r), l1, l2, l3] (st) K I F b Q := ex_aload_n d_Law_law_516 rfl k
theorem d_Law_law_517 : decode code 517 = .ok (.iload_n 3, 1) := by decide +kernel
theorem s_Law_law_517 {l0 l1 l2 : Option ex_V} {x : Int32} (k : ex_E Γ d M_Law_law 518 [l0, l1, l2, some (.inl x)] (.inl x :: st) K I F b Q) : ex_E Γ d M_Law_law 517 [l0, l1, l2, some (.inl x)] (st) K I F b Q := ex_iload_n d_Law_law_517 rfl k
theorem d_Law_law_518 : decode code 518 = .ok (.iconst 1, 1) := by decide +kernel
theorem s_Law_law_518 {l0 l1 l2 l3 : Option ex_V} (k : ex_E Γ d M_Law_law 519 [l0, l1, l2, l3] (.inl 1 :: st) K I F b Q) : ex_E Γ d M_Law_law 518 [l0, l1, l2, l3] (st) K I F b Q := ex_iconst d_Law_law_518 (by decide +kernel) k
theorem d_Law_law_519 : decode code 519 = .ok (.iadd, 1) := by decide +kernel
theorem s_Law_law_519 {l0 l1 l2 l3 : Option ex_V} {x y : Int32} (k : ex_E Γ d M_Law_law 520 [l0, l1, l2, l3] (.inl (x + y) :: st) K I F b Q) : ex_E Γ d M_Law_law 519 [l0, l1, l2, l3] (.inl y :: .inl x :: st) K I F b Q := ex_iadd d_Law_law_519 k
theorem d_Law_law_520 : decode code 520 = .ok (.iaload, 1) := by decide +kernel
theorem s_Law_law_520 {l0 l1 l2 l3 : Option ex_V} {i : Int32} (hi : vp_in i Γ.2.2.2.2.2.2.1) (k : ex_E Γ d M_Law_law 521 [l0, l1, l2, l3] (.inl (Γ.2.2.2.2.2.2.2 i.toNatClampNeg) :: st) K I F b Q) : ex_E Γ d M_Law_law 520 [l0, l1, l2, l3] (.inl i :: .inr (some Γ.2.2.2.2.2.1) :: st) K I F b Q := ex_sld d_Law_law_520 hi k
theorem d_Law_law_521 : decode code 521 = .ok (.aload_n 0, 1) := by decide +kernel
theorem s_Law_law_521 {l1 l2 l3 : Option ex_V} {r : Option Nat} (k : ex_E Γ d M_Law_law 522 [some (.inr r), l1, l2, l3] (.inr r :: st) K I F b Q) : ex_E Γ d M_Law_law 521 [some (.inr r), l1, l2, l3] (st) K I F b Q := ex_aload_n d_Law_law_521 rfl k
theorem d_Law_law_522 : decode code 522 = .ok (.iload_n 3, 1) := by decide +kernel
theorem s_Law_law_522 {l0 l1 l2 : Option ex_V} {x : Int32} (k : ex_E Γ d M_Law_law 523 [l0, l1, l2, some (.inl x)] (.inl x :: st) K I F b Q) : ex_E Γ d M_Law_law 522 [l0, l1, l2, some (.inl x)] (st) K I F b Q := ex_iload_n d_Law_law_522 rfl k
theorem d_Law_law_523 : decode code 523 = .ok (.iconst 2, 1) := by decide +kernel
theorem s_Law_law_523 {l0 l1 l2 l3 : Option ex_V} (k : ex_E Γ d M_Law_law 524 [l0, l1, l2, l3] (.inl 2 :: st) K I F b Q) : ex_E Γ d M_Law_law 523 [l0, l1, l2, l3] (st) K I F b Q := ex_iconst d_Law_law_523 (by decide +kernel) k
theorem d_Law_law_524 : decode code 524 = .ok (.iadd, 1) := by decide +kernel
theorem s_Law_law_524 {l0 l1 l2 l3 : Option ex_V} {x y : Int32} (k : ex_E Γ d M_Law_law 525 [l0, l1, l2, l3] (.inl (x + y) :: st) K I F b Q) : ex_E Γ d M_Law_law 524 [l0, l1, l2, l3] (.inl y :: .inl x :: st) K I F b Q := ex_iadd d_Law_law_524 k
theorem d_Law_law_525 : decode code 525 = .ok (.iaload, 1) := by decide +kernel
theorem s_Law_law_525 {l0 l1 l2 l3 : Option ex_V} {i : Int32} (hi : vp_in i Γ.2.2.2.2.2.2.1) (k : ex_E Γ d M_Law_law 526 [l0, l1, l2, l3] (.inl (Γ.2.2.2.2.2.2.2 i.toNatClampNeg) :: st) K I F b Q) : ex_E Γ d M_Law_law 525 [l0, l1, l2, l3] (.inl i :: .inr (some Γ.2.2.2.2.2.1) :: st) K I F b Q := ex_sld d_Law_law_525 hi k
theorem d_Law_law_526 : decode code 526 = .ok (.invokevirtual 81, 3) := by decide +kernel
theorem s_Law_law_526 {l0 l1 l2 l3 : Option ex_V} {r : Option Nat} {a : Nat} {x0 : Int32} {x1 : Int32} {b1 b2 : Nat} {Q1 : Option ex_V → ex_K → ex_I → ex_F → Prop} (hr : r = some a) (ha : (K a).1 = 1) (h : ex_E Γ d M_FC_flight 0 [some (.inr (some a)), some (.inl x0), some (.inl x1), none] [] K I F b1 Q1) (kk : ∀ r K' I' F', Q1 r K' I' F' → ex_E Γ (d + 1) M_Law_law 529 [l0, l1, l2, l3] (r.toList ++ st) K' I' F' b2 Q) (hbb : b1 + b2 ≤ b) (hst : st.length ≤ 8 := by first | exact Nat.le_of_ble_eq_true rfl | simp) : ex_E Γ (d + 1) M_Law_law 526 [l0, l1, l2, l3] (.inl x1 :: .inl x0 :: .inr r :: st) K I F b Q := by
  subst hr
  exact ex_callV (Mc := M_FC_flight) (n := 2) (av := [.inl x0, .inl x1]) (ci := 0) d_Law_law_526 (by decide) rfl rfl (by decide) rfl (by decide) (ex_good w_706) (List.mem_cons_of_mem _ w_703) (List.mem_cons_of_mem _ w_1) (List.mem_cons_of_mem _ w_704) (List.mem_cons_of_mem _ w_705) ⟨by decide +kernel, by decide +kernel, by decide +kernel⟩ rfl (Nat.le_of_ble_eq_true rfl) hst ha h hbb kk
theorem d_Law_law_529 : decode code 529 = .ok (.aload_n 2, 1) := by decide +kernel
theorem s_Law_law_529 {l0 l1 l3 : Option ex_V} {r : Option Nat} (k : ex_E Γ d M_Law_law 530 [l0, l1, some (.inr r), l3] (.inr r :: st) K I F b Q) : ex_E Γ d M_Law_law 529 [l0, l1, some (.inr r), l3] (st) K I F b Q := ex_aload_n d_Law_law_529 rfl k
theorem d_Law_law_530 : decode code 530 = .ok (.aload_n 0, 1) := by decide +kernel
theorem s_Law_law_530 {l1 l2 l3 : Option ex_V} {r : Option Nat} (k : ex_E Γ d M_Law_law 531 [some (.inr r), l1, l2, l3] (.inr r :: st) K I F b Q) : ex_E Γ d M_Law_law 530 [some (.inr r), l1, l2, l3] (st) K I F b Q := ex_aload_n d_Law_law_530 rfl k
theorem d_Law_law_531 : decode code 531 = .ok (.iload_n 3, 1) := by decide +kernel
theorem s_Law_law_531 {l0 l1 l2 : Option ex_V} {x : Int32} (k : ex_E Γ d M_Law_law 532 [l0, l1, l2, some (.inl x)] (.inl x :: st) K I F b Q) : ex_E Γ d M_Law_law 531 [l0, l1, l2, some (.inl x)] (st) K I F b Q := ex_iload_n d_Law_law_531 rfl k
theorem d_Law_law_532 : decode code 532 = .ok (.iconst 1, 1) := by decide +kernel
theorem s_Law_law_532 {l0 l1 l2 l3 : Option ex_V} (k : ex_E Γ d M_Law_law 533 [l0, l1, l2, l3] (.inl 1 :: st) K I F b Q) : ex_E Γ d M_Law_law 532 [l0, l1, l2, l3] (st) K I F b Q := ex_iconst d_Law_law_532 (by decide +kernel) k
theorem d_Law_law_533 : decode code 533 = .ok (.iadd, 1) := by decide +kernel
theorem s_Law_law_533 {l0 l1 l2 l3 : Option ex_V} {x y : Int32} (k : ex_E Γ d M_Law_law 534 [l0, l1, l2, l3] (.inl (x + y) :: st) K I F b Q) : ex_E Γ d M_Law_law 533 [l0, l1, l2, l3] (.inl y :: .inl x :: st) K I F b Q := ex_iadd d_Law_law_533 k
theorem d_Law_law_534 : decode code 534 = .ok (.iaload, 1) := by decide +kernel
theorem s_Law_law_534 {l0 l1 l2 l3 : Option ex_V} {i : Int32} (hi : vp_in i Γ.2.2.2.2.2.2.1) (k : ex_E Γ d M_Law_law 535 [l0, l1, l2, l3] (.inl (Γ.2.2.2.2.2.2.2 i.toNatClampNeg) :: st) K I F b Q) : ex_E Γ d M_Law_law 534 [l0, l1, l2, l3] (.inl i :: .inr (some Γ.2.2.2.2.2.1) :: st) K I F b Q := ex_sld d_Law_law_534 hi k
theorem d_Law_law_535 : decode code 535 = .ok (.aload_n 0, 1) := by decide +kernel
theorem s_Law_law_535 {l1 l2 l3 : Option ex_V} {r : Option Nat} (k : ex_E Γ d M_Law_law 536 [some (.inr r), l1, l2, l3] (.inr r :: st) K I F b Q) : ex_E Γ d M_Law_law 535 [some (.inr r), l1, l2, l3] (st) K I F b Q := ex_aload_n d_Law_law_535 rfl k
theorem d_Law_law_536 : decode code 536 = .ok (.iload_n 3, 1) := by decide +kernel
theorem s_Law_law_536 {l0 l1 l2 : Option ex_V} {x : Int32} (k : ex_E Γ d M_Law_law 537 [l0, l1, l2, some (.inl x)] (.inl x :: st) K I F b Q) : ex_E Γ d M_Law_law 536 [l0, l1, l2, some (.inl x)] (st) K I F b Q := ex_iload_n d_Law_law_536 rfl k
theorem d_Law_law_537 : decode code 537 = .ok (.iconst 2, 1) := by decide +kernel
theorem s_Law_law_537 {l0 l1 l2 l3 : Option ex_V} (k : ex_E Γ d M_Law_law 538 [l0, l1, l2, l3] (.inl 2 :: st) K I F b Q) : ex_E Γ d M_Law_law 537 [l0, l1, l2, l3] (st) K I F b Q := ex_iconst d_Law_law_537 (by decide +kernel) k
theorem d_Law_law_538 : decode code 538 = .ok (.iadd, 1) := by decide +kernel
theorem s_Law_law_538 {l0 l1 l2 l3 : Option ex_V} {x y : Int32} (k : ex_E Γ d M_Law_law 539 [l0, l1, l2, l3] (.inl (x + y) :: st) K I F b Q) : ex_E Γ d M_Law_law 538 [l0, l1, l2, l3] (.inl y :: .inl x :: st) K I F b Q := ex_iadd d_Law_law_538 k
theorem d_Law_law_539 : decode code 539 = .ok (.iaload, 1) := by decide +kernel
theorem s_Law_law_539 {l0 l1 l2 l3 : Option ex_V} {i : Int32} (hi : vp_in i Γ.2.2.2.2.2.2.1) (k : ex_E Γ d M_Law_law 540 [l0, l1, l2, l3] (.inl (Γ.2.2.2.2.2.2.2 i.toNatClampNeg) :: st) K I F b Q) : ex_E Γ d M_Law_law 539 [l0, l1, l2, l3] (.inl i :: .inr (some Γ.2.2.2.2.2.1) :: st) K I F b Q := ex_sld d_Law_law_539 hi k
theorem d_Law_law_540 : decode code 540 = .ok (.invokevirtual 84, 3) := by decide +kernel
theorem s_Law_law_540 {l0 l1 l2 l3 : Option ex_V} {r : Option Nat} {a : Nat} {x0 : Int32} {x1 : Int32} {b1 b2 : Nat} {Q1 : Option ex_V → ex_K → ex_I → ex_F → Prop} (hr : r = some a) (ha : (K a).1 = 12) (h : ex_E Γ d M_Mdl_flight 0 [some (.inr (some a)), some (.inl x0), some (.inl x1), none] [] K I F b1 Q1) (kk : ∀ r K' I' F', Q1 r K' I' F' → ex_E Γ (d + 1) M_Law_law 543 [l0, l1, l2, l3] (r.toList ++ st) K' I' F' b2 Q) (hbb : b1 + b2 ≤ b) (hst : st.length ≤ 8 := by first | exact Nat.le_of_ble_eq_true rfl | simp) : ex_E Γ (d + 1) M_Law_law 540 [l0, l1, l2, l3] (.inl x1 :: .inl x0 :: .inr r :: st) K I F b Q := by
  subst hr
  exact ex_callV (Mc := M_Mdl_flight) (n := 2) (av := [.inl x0, .inl x1]) (ci := 11) d_Law_law_540 (by decide) rfl rfl (by decide) rfl (by decide) (ex_good w_1035) (List.mem_cons_of_mem _ w_1032) (List.mem_cons_of_mem _ w_11) (List.mem_cons_of_mem _ w_1033) (List.mem_cons_of_mem _ w_1034) ⟨by decide +kernel, by decide +kernel, by decide +kernel⟩ rfl (Nat.le_of_ble_eq_true rfl) hst ha h hbb kk
theorem d_Law_law_543 : decode code 543 = .ok (.if_icmp .eq 120, 3) := by decide +kernel
theorem s_Law_law_543 {l0 l1 l2 l3 : Option ex_V} {x y : Int32} (kt : x = y → ex_E Γ d M_Law_law 663 [l0, l1, l2, l3] (st) K I F b Q) (kf : ¬ x = y → ex_E Γ d M_Law_law 546 [l0, l1, l2, l3] (st) K I F b Q) : ex_E Γ d M_Law_law 543 [l0, l1, l2, l3] (.inl y :: .inl x :: st) K I F b Q := ex_icmp_eq d_Law_law_543 (by decide) kt kf
theorem d_Law_law_546 : decode code 546 = .ok (.iconst 0, 1) := by decide +kernel
theorem s_Law_law_546 {l0 l1 l2 l3 : Option ex_V} (k : ex_E Γ d M_Law_law 547 [l0, l1, l2, l3] (.inl 0 :: st) K I F b Q) : ex_E Γ d M_Law_law 546 [l0, l1, l2, l3] (st) K I F b Q := ex_iconst d_Law_law_546 (by decide +kernel) k
theorem d_Law_law_547 : decode code 547 = .ok (.ireturn, 1) := by decide +kernel
theorem s_Law_law_547 {l0 l1 l2 l3 : Option ex_V} {x : Int32} (hn : narrow .boolean (.int x) = .int x) (hq : Q (some (.inl x)) K I F) : ex_E Γ d M_Law_law 547 [l0, l1, l2, l3] ([.inl x]) K I F b Q := ex_zret d_Law_law_547 rfl hn hq
theorem d_Law_law_548 : decode code 548 = .ok (.aload_n 1, 1) := by decide +kernel
theorem s_Law_law_548 {l0 l2 l3 : Option ex_V} {r : Option Nat} (k : ex_E Γ d M_Law_law 549 [l0, some (.inr r), l2, l3] (.inr r :: st) K I F b Q) : ex_E Γ d M_Law_law 548 [l0, some (.inr r), l2, l3] (st) K I F b Q := ex_aload_n d_Law_law_548 rfl k
theorem d_Law_law_549 : decode code 549 = .ok (.invokevirtual 85, 3) := by decide +kernel
theorem s_Law_law_549 {l0 l1 l2 l3 : Option ex_V} {r : Option Nat} {a : Nat} {b1 b2 : Nat} {Q1 : Option ex_V → ex_K → ex_I → ex_F → Prop} (hr : r = some a) (ha : (K a).1 = 1) (h : ex_E Γ d M_FC_entries 0 [some (.inr (some a))] [] K I F b1 Q1) (kk : ∀ r K' I' F', Q1 r K' I' F' → ex_E Γ (d + 1) M_Law_law 552 [l0, l1, l2, l3] (r.toList ++ st) K' I' F' b2 Q) (hbb : b1 + b2 ≤ b) (hst : st.length ≤ 8 := by first | exact Nat.le_of_ble_eq_true rfl | simp) : ex_E Γ (d + 1) M_Law_law 549 [l0, l1, l2, l3] (.inr r :: st) K I F b Q := by
  subst hr
  exact ex_callV (Mc := M_FC_entries) (n := 0) (av := []) (ci := 0) d_Law_law_549 (by decide) rfl rfl (by decide) rfl (by decide) (ex_good w_710) (List.mem_cons_of_mem _ w_707) (List.mem_cons_of_mem _ w_1) (List.mem_cons_of_mem _ w_708) (List.mem_cons_of_mem _ w_709) ⟨by decide +kernel, by decide +kernel, by decide +kernel⟩ rfl (Nat.le_of_ble_eq_true rfl) hst ha h hbb kk
theorem d_Law_law_552 : decode code 552 = .ok (.aload_n 2, 1) := by decide +kernel
theorem s_Law_law_552 {l0 l1 l3 : Option ex_V} {r : Option Nat} (k : ex_E Γ d M_Law_law 553 [l0, l1, some (.inr r), l3] (.inr r :: st) K I F b Q) : ex_E Γ d M_Law_law 552 [l0, l1, some (.inr r), l3] (st) K I F b Q := ex_aload_n d_Law_law_552 rfl k
theorem d_Law_law_553 : decode code 553 = .ok (.invokevirtual 88, 3) := by decide +kernel
theorem s_Law_law_553 {l0 l1 l2 l3 : Option ex_V} {r : Option Nat} {a : Nat} {b1 b2 : Nat} {Q1 : Option ex_V → ex_K → ex_I → ex_F → Prop} (hr : r = some a) (ha : (K a).1 = 12) (h : ex_E Γ d M_Mdl_entries 0 [some (.inr (some a))] [] K I F b1 Q1) (kk : ∀ r K' I' F', Q1 r K' I' F' → ex_E Γ (d + 1) M_Law_law 556 [l0, l1, l2, l3] (r.toList ++ st) K' I' F' b2 Q) (hbb : b1 + b2 ≤ b) (hst : st.length ≤ 8 := by first | exact Nat.le_of_ble_eq_true rfl | simp) : ex_E Γ (d + 1) M_Law_law 553 [l0, l1, l2, l3] (.inr r :: st) K I F b Q := by
  subst hr
  exact ex_callV (Mc := M_Mdl_entries) (n := 0) (av := []) (ci := 11) d_Law_law_553 (by decide) rfl rfl (by decide) rfl (by decide) (ex_good w_1039) (List.mem_cons_of_mem _ w_1036) (List.mem_cons_of_mem _ w_11) (List.mem_cons_of_mem _ w_1037) (List.mem_cons_of_mem _ w_1038) ⟨by decide +kernel, by decide +kernel, by decide +kernel⟩ rfl (Nat.le_of_ble_eq_true rfl) hst ha h hbb kk
theorem d_Law_law_556 : decode code 556 = .ok (.if_icmp .eq 107, 3) := by decide +kernel
theorem s_Law_law_556 {l0 l1 l2 l3 : Option ex_V} {x y : Int32} (kt : x = y → ex_E Γ d M_Law_law 663 [l0, l1, l2, l3] (st) K I F b Q) (kf : ¬ x = y → ex_E Γ d M_Law_law 559 [l0, l1, l2, l3] (st) K I F b Q) : ex_E Γ d M_Law_law 556 [l0, l1, l2, l3] (.inl y :: .inl x :: st) K I F b Q := ex_icmp_eq d_Law_law_556 (by decide) kt kf
theorem d_Law_law_559 : decode code 559 = .ok (.iconst 0, 1) := by decide +kernel
theorem s_Law_law_559 {l0 l1 l2 l3 : Option ex_V} (k : ex_E Γ d M_Law_law 560 [l0, l1, l2, l3] (.inl 0 :: st) K I F b Q) : ex_E Γ d M_Law_law 559 [l0, l1, l2, l3] (st) K I F b Q := ex_iconst d_Law_law_559 (by decide +kernel) k
theorem d_Law_law_560 : decode code 560 = .ok (.ireturn, 1) := by decide +kernel
theorem s_Law_law_560 {l0 l1 l2 l3 : Option ex_V} {x : Int32} (hn : narrow .boolean (.int x) = .int x) (hq : Q (some (.inl x)) K I F) : ex_E Γ d M_Law_law 560 [l0, l1, l2, l3] ([.inl x]) K I F b Q := ex_zret d_Law_law_560 rfl hn hq
theorem d_Law_law_561 : decode code 561 = .ok (.aload_n 1, 1) := by decide +kernel
theorem s_Law_law_561 {l0 l2 l3 : Option ex_V} {r : Option Nat} (k : ex_E Γ d M_Law_law 562 [l0, some (.inr r), l2, l3] (.inr r :: st) K I F b Q) : ex_E Γ d M_Law_law 561 [l0, some (.inr r), l2, l3] (st) K I F b Q := ex_aload_n d_Law_law_561 rfl k
theorem d_Law_law_562 : decode code 562 = .ok (.aload_n 0, 1) := by decide +kernel
theorem s_Law_law_562 {l1 l2 l3 : Option ex_V} {r : Option Nat} (k : ex_E Γ d M_Law_law 563 [some (.inr r), l1, l2, l3] (.inr r :: st) K I F b Q) : ex_E Γ d M_Law_law 562 [some (.inr r), l1, l2, l3] (st) K I F b Q := ex_aload_n d_Law_law_562 rfl k
theorem d_Law_law_563 : decode code 563 = .ok (.iload_n 3, 1) := by decide +kernel
theorem s_Law_law_563 {l0 l1 l2 : Option ex_V} {x : Int32} (k : ex_E Γ d M_Law_law 564 [l0, l1, l2, some (.inl x)] (.inl x :: st) K I F b Q) : ex_E Γ d M_Law_law 563 [l0, l1, l2, some (.inl x)] (st) K I F b Q := ex_iload_n d_Law_law_563 rfl k
theorem d_Law_law_564 : decode code 564 = .ok (.iconst 1, 1) := by decide +kernel
theorem s_Law_law_564 {l0 l1 l2 l3 : Option ex_V} (k : ex_E Γ d M_Law_law 565 [l0, l1, l2, l3] (.inl 1 :: st) K I F b Q) : ex_E Γ d M_Law_law 564 [l0, l1, l2, l3] (st) K I F b Q := ex_iconst d_Law_law_564 (by decide +kernel) k
theorem d_Law_law_565 : decode code 565 = .ok (.iadd, 1) := by decide +kernel
theorem s_Law_law_565 {l0 l1 l2 l3 : Option ex_V} {x y : Int32} (k : ex_E Γ d M_Law_law 566 [l0, l1, l2, l3] (.inl (x + y) :: st) K I F b Q) : ex_E Γ d M_Law_law 565 [l0, l1, l2, l3] (.inl y :: .inl x :: st) K I F b Q := ex_iadd d_Law_law_565 k
theorem d_Law_law_566 : decode code 566 = .ok (.iaload, 1) := by decide +kernel
theorem s_Law_law_566 {l0 l1 l2 l3 : Option ex_V} {i : Int32} (hi : vp_in i Γ.2.2.2.2.2.2.1) (k : ex_E Γ d M_Law_law 567 [l0, l1, l2, l3] (.inl (Γ.2.2.2.2.2.2.2 i.toNatClampNeg) :: st) K I F b Q) : ex_E Γ d M_Law_law 566 [l0, l1, l2, l3] (.inl i :: .inr (some Γ.2.2.2.2.2.1) :: st) K I F b Q := ex_sld d_Law_law_566 hi k
theorem d_Law_law_567 : decode code 567 = .ok (.aload_n 0, 1) := by decide +kernel
theorem s_Law_law_567 {l1 l2 l3 : Option ex_V} {r : Option Nat} (k : ex_E Γ d M_Law_law 568 [some (.inr r), l1, l2, l3] (.inr r :: st) K I F b Q) : ex_E Γ d M_Law_law 567 [some (.inr r), l1, l2, l3] (st) K I F b Q := ex_aload_n d_Law_law_567 rfl k
theorem d_Law_law_568 : decode code 568 = .ok (.iload_n 3, 1) := by decide +kernel
theorem s_Law_law_568 {l0 l1 l2 : Option ex_V} {x : Int32} (k : ex_E Γ d M_Law_law 569 [l0, l1, l2, some (.inl x)] (.inl x :: st) K I F b Q) : ex_E Γ d M_Law_law 568 [l0, l1, l2, some (.inl x)] (st) K I F b Q := ex_iload_n d_Law_law_568 rfl k
theorem d_Law_law_569 : decode code 569 = .ok (.iconst 2, 1) := by decide +kernel
theorem s_Law_law_569 {l0 l1 l2 l3 : Option ex_V} (k : ex_E Γ d M_Law_law 570 [l0, l1, l2, l3] (.inl 2 :: st) K I F b Q) : ex_E Γ d M_Law_law 569 [l0, l1, l2, l3] (st) K I F b Q := ex_iconst d_Law_law_569 (by decide +kernel) k
theorem d_Law_law_570 : decode code 570 = .ok (.iadd, 1) := by decide +kernel
theorem s_Law_law_570 {l0 l1 l2 l3 : Option ex_V} {x y : Int32} (k : ex_E Γ d M_Law_law 571 [l0, l1, l2, l3] (.inl (x + y) :: st) K I F b Q) : ex_E Γ d M_Law_law 570 [l0, l1, l2, l3] (.inl y :: .inl x :: st) K I F b Q := ex_iadd d_Law_law_570 k
theorem d_Law_law_571 : decode code 571 = .ok (.iaload, 1) := by decide +kernel
theorem s_Law_law_571 {l0 l1 l2 l3 : Option ex_V} {i : Int32} (hi : vp_in i Γ.2.2.2.2.2.2.1) (k : ex_E Γ d M_Law_law 572 [l0, l1, l2, l3] (.inl (Γ.2.2.2.2.2.2.2 i.toNatClampNeg) :: st) K I F b Q) : ex_E Γ d M_Law_law 571 [l0, l1, l2, l3] (.inl i :: .inr (some Γ.2.2.2.2.2.1) :: st) K I F b Q := ex_sld d_Law_law_571 hi k
theorem d_Law_law_572 : decode code 572 = .ok (.invokevirtual 89, 3) := by decide +kernel
theorem s_Law_law_572 {l0 l1 l2 l3 : Option ex_V} {r : Option Nat} {a : Nat} {x0 : Int32} {x1 : Int32} {b1 b2 : Nat} {Q1 : Option ex_V → ex_K → ex_I → ex_F → Prop} (hr : r = some a) (ha : (K a).1 = 1) (h : ex_E Γ d M_FC_entry 0 [some (.inr (some a)), some (.inl x0), some (.inl x1), none] [] K I F b1 Q1) (kk : ∀ r K' I' F', Q1 r K' I' F' → ex_E Γ (d + 1) M_Law_law 575 [l0, l1, l2, l3] (r.toList ++ st) K' I' F' b2 Q) (hbb : b1 + b2 ≤ b) (hst : st.length ≤ 8 := by first | exact Nat.le_of_ble_eq_true rfl | simp) : ex_E Γ (d + 1) M_Law_law 572 [l0, l1, l2, l3] (.inl x1 :: .inl x0 :: .inr r :: st) K I F b Q := by
  subst hr
  exact ex_callV (Mc := M_FC_entry) (n := 2) (av := [.inl x0, .inl x1]) (ci := 0) d_Law_law_572 (by decide) rfl rfl (by decide) rfl (by decide) (ex_good w_714) (List.mem_cons_of_mem _ w_711) (List.mem_cons_of_mem _ w_1) (List.mem_cons_of_mem _ w_712) (List.mem_cons_of_mem _ w_713) ⟨by decide +kernel, by decide +kernel, by decide +kernel⟩ rfl (Nat.le_of_ble_eq_true rfl) hst ha h hbb kk
theorem d_Law_law_575 : decode code 575 = .ok (.aload_n 2, 1) := by decide +kernel
theorem s_Law_law_575 {l0 l1 l3 : Option ex_V} {r : Option Nat} (k : ex_E Γ d M_Law_law 576 [l0, l1, some (.inr r), l3] (.inr r :: st) K I F b Q) : ex_E Γ d M_Law_law 575 [l0, l1, some (.inr r), l3] (st) K I F b Q := ex_aload_n d_Law_law_575 rfl k
theorem d_Law_law_576 : decode code 576 = .ok (.aload_n 0, 1) := by decide +kernel
theorem s_Law_law_576 {l1 l2 l3 : Option ex_V} {r : Option Nat} (k : ex_E Γ d M_Law_law 577 [some (.inr r), l1, l2, l3] (.inr r :: st) K I F b Q) : ex_E Γ d M_Law_law 576 [some (.inr r), l1, l2, l3] (st) K I F b Q := ex_aload_n d_Law_law_576 rfl k
theorem d_Law_law_577 : decode code 577 = .ok (.iload_n 3, 1) := by decide +kernel
theorem s_Law_law_577 {l0 l1 l2 : Option ex_V} {x : Int32} (k : ex_E Γ d M_Law_law 578 [l0, l1, l2, some (.inl x)] (.inl x :: st) K I F b Q) : ex_E Γ d M_Law_law 577 [l0, l1, l2, some (.inl x)] (st) K I F b Q := ex_iload_n d_Law_law_577 rfl k
theorem d_Law_law_578 : decode code 578 = .ok (.iconst 1, 1) := by decide +kernel
theorem s_Law_law_578 {l0 l1 l2 l3 : Option ex_V} (k : ex_E Γ d M_Law_law 579 [l0, l1, l2, l3] (.inl 1 :: st) K I F b Q) : ex_E Γ d M_Law_law 578 [l0, l1, l2, l3] (st) K I F b Q := ex_iconst d_Law_law_578 (by decide +kernel) k
theorem d_Law_law_579 : decode code 579 = .ok (.iadd, 1) := by decide +kernel
theorem s_Law_law_579 {l0 l1 l2 l3 : Option ex_V} {x y : Int32} (k : ex_E Γ d M_Law_law 580 [l0, l1, l2, l3] (.inl (x + y) :: st) K I F b Q) : ex_E Γ d M_Law_law 579 [l0, l1, l2, l3] (.inl y :: .inl x :: st) K I F b Q := ex_iadd d_Law_law_579 k
theorem d_Law_law_580 : decode code 580 = .ok (.iaload, 1) := by decide +kernel
theorem s_Law_law_580 {l0 l1 l2 l3 : Option ex_V} {i : Int32} (hi : vp_in i Γ.2.2.2.2.2.2.1) (k : ex_E Γ d M_Law_law 581 [l0, l1, l2, l3] (.inl (Γ.2.2.2.2.2.2.2 i.toNatClampNeg) :: st) K I F b Q) : ex_E Γ d M_Law_law 580 [l0, l1, l2, l3] (.inl i :: .inr (some Γ.2.2.2.2.2.1) :: st) K I F b Q := ex_sld d_Law_law_580 hi k
theorem d_Law_law_581 : decode code 581 = .ok (.aload_n 0, 1) := by decide +kernel
theorem s_Law_law_581 {l1 l2 l3 : Option ex_V} {r : Option Nat} (k : ex_E Γ d M_Law_law 582 [some (.inr r), l1, l2, l3] (.inr r :: st) K I F b Q) : ex_E Γ d M_Law_law 581 [some (.inr r), l1, l2, l3] (st) K I F b Q := ex_aload_n d_Law_law_581 rfl k
theorem d_Law_law_582 : decode code 582 = .ok (.iload_n 3, 1) := by decide +kernel
theorem s_Law_law_582 {l0 l1 l2 : Option ex_V} {x : Int32} (k : ex_E Γ d M_Law_law 583 [l0, l1, l2, some (.inl x)] (.inl x :: st) K I F b Q) : ex_E Γ d M_Law_law 582 [l0, l1, l2, some (.inl x)] (st) K I F b Q := ex_iload_n d_Law_law_582 rfl k
theorem d_Law_law_583 : decode code 583 = .ok (.iconst 2, 1) := by decide +kernel
theorem s_Law_law_583 {l0 l1 l2 l3 : Option ex_V} (k : ex_E Γ d M_Law_law 584 [l0, l1, l2, l3] (.inl 2 :: st) K I F b Q) : ex_E Γ d M_Law_law 583 [l0, l1, l2, l3] (st) K I F b Q := ex_iconst d_Law_law_583 (by decide +kernel) k
theorem d_Law_law_584 : decode code 584 = .ok (.iadd, 1) := by decide +kernel
theorem s_Law_law_584 {l0 l1 l2 l3 : Option ex_V} {x y : Int32} (k : ex_E Γ d M_Law_law 585 [l0, l1, l2, l3] (.inl (x + y) :: st) K I F b Q) : ex_E Γ d M_Law_law 584 [l0, l1, l2, l3] (.inl y :: .inl x :: st) K I F b Q := ex_iadd d_Law_law_584 k
theorem d_Law_law_585 : decode code 585 = .ok (.iaload, 1) := by decide +kernel
theorem s_Law_law_585 {l0 l1 l2 l3 : Option ex_V} {i : Int32} (hi : vp_in i Γ.2.2.2.2.2.2.1) (k : ex_E Γ d M_Law_law 586 [l0, l1, l2, l3] (.inl (Γ.2.2.2.2.2.2.2 i.toNatClampNeg) :: st) K I F b Q) : ex_E Γ d M_Law_law 585 [l0, l1, l2, l3] (.inl i :: .inr (some Γ.2.2.2.2.2.1) :: st) K I F b Q := ex_sld d_Law_law_585 hi k
theorem d_Law_law_586 : decode code 586 = .ok (.invokevirtual 92, 3) := by decide +kernel
theorem s_Law_law_586 {l0 l1 l2 l3 : Option ex_V} {r : Option Nat} {a : Nat} {x0 : Int32} {x1 : Int32} {b1 b2 : Nat} {Q1 : Option ex_V → ex_K → ex_I → ex_F → Prop} (hr : r = some a) (ha : (K a).1 = 12) (h : ex_E Γ d M_Mdl_entry 0 [some (.inr (some a)), some (.inl x0), some (.inl x1), none] [] K I F b1 Q1) (kk : ∀ r K' I' F', Q1 r K' I' F' → ex_E Γ (d + 1) M_Law_law 589 [l0, l1, l2, l3] (r.toList ++ st) K' I' F' b2 Q) (hbb : b1 + b2 ≤ b) (hst : st.length ≤ 8 := by first | exact Nat.le_of_ble_eq_true rfl | simp) : ex_E Γ (d + 1) M_Law_law 586 [l0, l1, l2, l3] (.inl x1 :: .inl x0 :: .inr r :: st) K I F b Q := by
  subst hr
  exact ex_callV (Mc := M_Mdl_entry) (n := 2) (av := [.inl x0, .inl x1]) (ci := 11) d_Law_law_586 (by decide) rfl rfl (by decide) rfl (by decide) (ex_good w_1043) (List.mem_cons_of_mem _ w_1040) (List.mem_cons_of_mem _ w_11) (List.mem_cons_of_mem _ w_1041) (List.mem_cons_of_mem _ w_1042) ⟨by decide +kernel, by decide +kernel, by decide +kernel⟩ rfl (Nat.le_of_ble_eq_true rfl) hst ha h hbb kk
theorem d_Law_law_589 : decode code 589 = .ok (.if_icmp .eq 74, 3) := by decide +kernel
theorem s_Law_law_589 {l0 l1 l2 l3 : Option ex_V} {x y : Int32} (kt : x = y → ex_E Γ d M_Law_law 663 [l0, l1, l2, l3] (st) K I F b Q) (kf : ¬ x = y → ex_E Γ d M_Law_law 592 [l0, l1, l2, l3] (st) K I F b Q) : ex_E Γ d M_Law_law 589 [l0, l1, l2, l3] (.inl y :: .inl x :: st) K I F b Q := ex_icmp_eq d_Law_law_589 (by decide) kt kf
theorem d_Law_law_592 : decode code 592 = .ok (.iconst 0, 1) := by decide +kernel
theorem s_Law_law_592 {l0 l1 l2 l3 : Option ex_V} (k : ex_E Γ d M_Law_law 593 [l0, l1, l2, l3] (.inl 0 :: st) K I F b Q) : ex_E Γ d M_Law_law 592 [l0, l1, l2, l3] (st) K I F b Q := ex_iconst d_Law_law_592 (by decide +kernel) k
theorem d_Law_law_593 : decode code 593 = .ok (.ireturn, 1) := by decide +kernel
theorem s_Law_law_593 {l0 l1 l2 l3 : Option ex_V} {x : Int32} (hn : narrow .boolean (.int x) = .int x) (hq : Q (some (.inl x)) K I F) : ex_E Γ d M_Law_law 593 [l0, l1, l2, l3] ([.inl x]) K I F b Q := ex_zret d_Law_law_593 rfl hn hq
theorem d_Law_law_594 : decode code 594 = .ok (.aload_n 1, 1) := by decide +kernel
theorem s_Law_law_594 {l0 l2 l3 : Option ex_V} {r : Option Nat} (k : ex_E Γ d M_Law_law 595 [l0, some (.inr r), l2, l3] (.inr r :: st) K I F b Q) : ex_E Γ d M_Law_law 594 [l0, some (.inr r), l2, l3] (st) K I F b Q := ex_aload_n d_Law_law_594 rfl k
theorem d_Law_law_595 : decode code 595 = .ok (.aload_n 0, 1) := by decide +kernel
theorem s_Law_law_595 {l1 l2 l3 : Option ex_V} {r : Option Nat} (k : ex_E Γ d M_Law_law 596 [some (.inr r), l1, l2, l3] (.inr r :: st) K I F b Q) : ex_E Γ d M_Law_law 595 [some (.inr r), l1, l2, l3] (st) K I F b Q := ex_aload_n d_Law_law_595 rfl k
theorem d_Law_law_596 : decode code 596 = .ok (.iload_n 3, 1) := by decide +kernel
theorem s_Law_law_596 {l0 l1 l2 : Option ex_V} {x : Int32} (k : ex_E Γ d M_Law_law 597 [l0, l1, l2, some (.inl x)] (.inl x :: st) K I F b Q) : ex_E Γ d M_Law_law 596 [l0, l1, l2, some (.inl x)] (st) K I F b Q := ex_iload_n d_Law_law_596 rfl k
theorem d_Law_law_597 : decode code 597 = .ok (.iconst 1, 1) := by decide +kernel
theorem s_Law_law_597 {l0 l1 l2 l3 : Option ex_V} (k : ex_E Γ d M_Law_law 598 [l0, l1, l2, l3] (.inl 1 :: st) K I F b Q) : ex_E Γ d M_Law_law 597 [l0, l1, l2, l3] (st) K I F b Q := ex_iconst d_Law_law_597 (by decide +kernel) k
theorem d_Law_law_598 : decode code 598 = .ok (.iadd, 1) := by decide +kernel
theorem s_Law_law_598 {l0 l1 l2 l3 : Option ex_V} {x y : Int32} (k : ex_E Γ d M_Law_law 599 [l0, l1, l2, l3] (.inl (x + y) :: st) K I F b Q) : ex_E Γ d M_Law_law 598 [l0, l1, l2, l3] (.inl y :: .inl x :: st) K I F b Q := ex_iadd d_Law_law_598 k
theorem d_Law_law_599 : decode code 599 = .ok (.iaload, 1) := by decide +kernel
theorem s_Law_law_599 {l0 l1 l2 l3 : Option ex_V} {i : Int32} (hi : vp_in i Γ.2.2.2.2.2.2.1) (k : ex_E Γ d M_Law_law 600 [l0, l1, l2, l3] (.inl (Γ.2.2.2.2.2.2.2 i.toNatClampNeg) :: st) K I F b Q) : ex_E Γ d M_Law_law 599 [l0, l1, l2, l3] (.inl i :: .inr (some Γ.2.2.2.2.2.1) :: st) K I F b Q := ex_sld d_Law_law_599 hi k
theorem d_Law_law_600 : decode code 600 = .ok (.invokevirtual 93, 3) := by decide +kernel
theorem s_Law_law_600 {l0 l1 l2 l3 : Option ex_V} {r : Option Nat} {a : Nat} {x0 : Int32} {b1 b2 : Nat} {Q1 : Option ex_V → ex_K → ex_I → ex_F → Prop} (hr : r = some a) (ha : (K a).1 = 1) (h : ex_E Γ d M_FC_owner 0 [some (.inr (some a)), some (.inl x0)] [] K I F b1 Q1) (kk : ∀ r K' I' F', Q1 r K' I' F' → ex_E Γ (d + 1) M_Law_law 603 [l0, l1, l2, l3] (r.toList ++ st) K' I' F' b2 Q) (hbb : b1 + b2 ≤ b) (hst : st.length ≤ 8 := by first | exact Nat.le_of_ble_eq_true rfl | simp) : ex_E Γ (d + 1) M_Law_law 600 [l0, l1, l2, l3] (.inl x0 :: .inr r :: st) K I F b Q := by
  subst hr
  exact ex_callV (Mc := M_FC_owner) (n := 1) (av := [.inl x0]) (ci := 0) d_Law_law_600 (by decide) rfl rfl (by decide) rfl (by decide) (ex_good w_723) (List.mem_cons_of_mem _ w_720) (List.mem_cons_of_mem _ w_1) (List.mem_cons_of_mem _ w_721) (List.mem_cons_of_mem _ w_722) ⟨by decide +kernel, by decide +kernel, by decide +kernel⟩ rfl (Nat.le_of_ble_eq_true rfl) hst ha h hbb kk
theorem d_Law_law_603 : decode code 603 = .ok (.aload_n 2, 1) := by decide +kernel
theorem s_Law_law_603 {l0 l1 l3 : Option ex_V} {r : Option Nat} (k : ex_E Γ d M_Law_law 604 [l0, l1, some (.inr r), l3] (.inr r :: st) K I F b Q) : ex_E Γ d M_Law_law 603 [l0, l1, some (.inr r), l3] (st) K I F b Q := ex_aload_n d_Law_law_603 rfl k
theorem d_Law_law_604 : decode code 604 = .ok (.aload_n 0, 1) := by decide +kernel
theorem s_Law_law_604 {l1 l2 l3 : Option ex_V} {r : Option Nat} (k : ex_E Γ d M_Law_law 605 [some (.inr r), l1, l2, l3] (.inr r :: st) K I F b Q) : ex_E Γ d M_Law_law 604 [some (.inr r), l1, l2, l3] (st) K I F b Q := ex_aload_n d_Law_law_604 rfl k
theorem d_Law_law_605 : decode code 605 = .ok (.iload_n 3, 1) := by decide +kernel
theorem s_Law_law_605 {l0 l1 l2 : Option ex_V} {x : Int32} (k : ex_E Γ d M_Law_law 606 [l0, l1, l2, some (.inl x)] (.inl x :: st) K I F b Q) : ex_E Γ d M_Law_law 605 [l0, l1, l2, some (.inl x)] (st) K I F b Q := ex_iload_n d_Law_law_605 rfl k
theorem d_Law_law_606 : decode code 606 = .ok (.iconst 1, 1) := by decide +kernel
theorem s_Law_law_606 {l0 l1 l2 l3 : Option ex_V} (k : ex_E Γ d M_Law_law 607 [l0, l1, l2, l3] (.inl 1 :: st) K I F b Q) : ex_E Γ d M_Law_law 606 [l0, l1, l2, l3] (st) K I F b Q := ex_iconst d_Law_law_606 (by decide +kernel) k
theorem d_Law_law_607 : decode code 607 = .ok (.iadd, 1) := by decide +kernel
theorem s_Law_law_607 {l0 l1 l2 l3 : Option ex_V} {x y : Int32} (k : ex_E Γ d M_Law_law 608 [l0, l1, l2, l3] (.inl (x + y) :: st) K I F b Q) : ex_E Γ d M_Law_law 607 [l0, l1, l2, l3] (.inl y :: .inl x :: st) K I F b Q := ex_iadd d_Law_law_607 k
theorem d_Law_law_608 : decode code 608 = .ok (.iaload, 1) := by decide +kernel
theorem s_Law_law_608 {l0 l1 l2 l3 : Option ex_V} {i : Int32} (hi : vp_in i Γ.2.2.2.2.2.2.1) (k : ex_E Γ d M_Law_law 609 [l0, l1, l2, l3] (.inl (Γ.2.2.2.2.2.2.2 i.toNatClampNeg) :: st) K I F b Q) : ex_E Γ d M_Law_law 608 [l0, l1, l2, l3] (.inl i :: .inr (some Γ.2.2.2.2.2.1) :: st) K I F b Q := ex_sld d_Law_law_608 hi k
theorem d_Law_law_609 : decode code 609 = .ok (.invokevirtual 96, 3) := by decide +kernel
theorem s_Law_law_609 {l0 l1 l2 l3 : Option ex_V} {r : Option Nat} {a : Nat} {x0 : Int32} {b1 b2 : Nat} {Q1 : Option ex_V → ex_K → ex_I → ex_F → Prop} (hr : r = some a) (ha : (K a).1 = 12) (h : ex_E Γ d M_Mdl_owner 0 [some (.inr (some a)), some (.inl x0), none, none] [] K I F b1 Q1) (kk : ∀ r K' I' F', Q1 r K' I' F' → ex_E Γ (d + 1) M_Law_law 612 [l0, l1, l2, l3] (r.toList ++ st) K' I' F' b2 Q) (hbb : b1 + b2 ≤ b) (hst : st.length ≤ 8 := by first | exact Nat.le_of_ble_eq_true rfl | simp) : ex_E Γ (d + 1) M_Law_law 609 [l0, l1, l2, l3] (.inl x0 :: .inr r :: st) K I F b Q := by
  subst hr
  exact ex_callV (Mc := M_Mdl_owner) (n := 1) (av := [.inl x0]) (ci := 11) d_Law_law_609 (by decide) rfl rfl (by decide) rfl (by decide) (ex_good w_846) (List.mem_cons_of_mem _ w_843) (List.mem_cons_of_mem _ w_11) (List.mem_cons_of_mem _ w_844) (List.mem_cons_of_mem _ w_845) ⟨by decide +kernel, by decide +kernel, by decide +kernel⟩ rfl (Nat.le_of_ble_eq_true rfl) hst ha h hbb kk
theorem d_Law_law_612 : decode code 612 = .ok (.if_icmp .eq 51, 3) := by decide +kernel
theorem s_Law_law_612 {l0 l1 l2 l3 : Option ex_V} {x y : Int32} (kt : x = y → ex_E Γ d M_Law_law 663 [l0, l1, l2, l3] (st) K I F b Q) (kf : ¬ x = y → ex_E Γ d M_Law_law 615 [l0, l1, l2, l3] (st) K I F b Q) : ex_E Γ d M_Law_law 612 [l0, l1, l2, l3] (.inl y :: .inl x :: st) K I F b Q := ex_icmp_eq d_Law_law_612 (by decide) kt kf
theorem d_Law_law_615 : decode code 615 = .ok (.iconst 0, 1) := by decide +kernel
theorem s_Law_law_615 {l0 l1 l2 l3 : Option ex_V} (k : ex_E Γ d M_Law_law 616 [l0, l1, l2, l3] (.inl 0 :: st) K I F b Q) : ex_E Γ d M_Law_law 615 [l0, l1, l2, l3] (st) K I F b Q := ex_iconst d_Law_law_615 (by decide +kernel) k
theorem d_Law_law_616 : decode code 616 = .ok (.ireturn, 1) := by decide +kernel
theorem s_Law_law_616 {l0 l1 l2 l3 : Option ex_V} {x : Int32} (hn : narrow .boolean (.int x) = .int x) (hq : Q (some (.inl x)) K I F) : ex_E Γ d M_Law_law 616 [l0, l1, l2, l3] ([.inl x]) K I F b Q := ex_zret d_Law_law_616 rfl hn hq
theorem d_Law_law_617 : decode code 617 = .ok (.aload_n 1, 1) := by decide +kernel
theorem s_Law_law_617 {l0 l2 l3 : Option ex_V} {r : Option Nat} (k : ex_E Γ d M_Law_law 618 [l0, some (.inr r), l2, l3] (.inr r :: st) K I F b Q) : ex_E Γ d M_Law_law 617 [l0, some (.inr r), l2, l3] (st) K I F b Q := ex_aload_n d_Law_law_617 rfl k
theorem d_Law_law_618 : decode code 618 = .ok (.aload_n 0, 1) := by decide +kernel
theorem s_Law_law_618 {l1 l2 l3 : Option ex_V} {r : Option Nat} (k : ex_E Γ d M_Law_law 619 [some (.inr r), l1, l2, l3] (.inr r :: st) K I F b Q) : ex_E Γ d M_Law_law 618 [some (.inr r), l1, l2, l3] (st) K I F b Q := ex_aload_n d_Law_law_618 rfl k
theorem d_Law_law_619 : decode code 619 = .ok (.iload_n 3, 1) := by decide +kernel
theorem s_Law_law_619 {l0 l1 l2 : Option ex_V} {x : Int32} (k : ex_E Γ d M_Law_law 620 [l0, l1, l2, some (.inl x)] (.inl x :: st) K I F b Q) : ex_E Γ d M_Law_law 619 [l0, l1, l2, some (.inl x)] (st) K I F b Q := ex_iload_n d_Law_law_619 rfl k
theorem d_Law_law_620 : decode code 620 = .ok (.iconst 1, 1) := by decide +kernel
theorem s_Law_law_620 {l0 l1 l2 l3 : Option ex_V} (k : ex_E Γ d M_Law_law 621 [l0, l1, l2, l3] (.inl 1 :: st) K I F b Q) : ex_E Γ d M_Law_law 620 [l0, l1, l2, l3] (st) K I F b Q := ex_iconst d_Law_law_620 (by decide +kernel) k
theorem d_Law_law_621 : decode code 621 = .ok (.iadd, 1) := by decide +kernel
theorem s_Law_law_621 {l0 l1 l2 l3 : Option ex_V} {x y : Int32} (k : ex_E Γ d M_Law_law 622 [l0, l1, l2, l3] (.inl (x + y) :: st) K I F b Q) : ex_E Γ d M_Law_law 621 [l0, l1, l2, l3] (.inl y :: .inl x :: st) K I F b Q := ex_iadd d_Law_law_621 k
theorem d_Law_law_622 : decode code 622 = .ok (.iaload, 1) := by decide +kernel
theorem s_Law_law_622 {l0 l1 l2 l3 : Option ex_V} {i : Int32} (hi : vp_in i Γ.2.2.2.2.2.2.1) (k : ex_E Γ d M_Law_law 623 [l0, l1, l2, l3] (.inl (Γ.2.2.2.2.2.2.2 i.toNatClampNeg) :: st) K I F b Q) : ex_E Γ d M_Law_law 622 [l0, l1, l2, l3] (.inl i :: .inr (some Γ.2.2.2.2.2.1) :: st) K I F b Q := ex_sld d_Law_law_622 hi k
theorem d_Law_law_623 : decode code 623 = .ok (.invokevirtual 97, 3) := by decide +kernel
theorem s_Law_law_623 {l0 l1 l2 l3 : Option ex_V} {r : Option Nat} {a : Nat} {x0 : Int32} {b1 b2 : Nat} {Q1 : Option ex_V → ex_K → ex_I → ex_F → Prop} (hr : r = some a) (ha : (K a).1 = 1) (h : ex_E Γ d M_FC_waiting 0 [some (.inr (some a)), some (.inl x0)] [] K I F b1 Q1) (kk : ∀ r K' I' F', Q1 r K' I' F' → ex_E Γ (d + 1) M_Law_law 626 [l0, l1, l2, l3] (r.toList ++ st) K' I' F' b2 Q) (hbb : b1 + b2 ≤ b) (hst : st.length ≤ 8 := by first | exact Nat.le_of_ble_eq_true rfl | simp) : ex_E Γ (d + 1) M_Law_law 623 [l0, l1, l2, l3] (.inl x0 :: .inr r :: st) K I F b Q := by
  subst hr
  exact ex_callV (Mc := M_FC_waiting) (n := 1) (av := [.inl x0]) (ci := 0) d_Law_law_623 (by decide) rfl rfl (by decide) rfl (by decide) (ex_good w_727) (List.mem_cons_of_mem _ w_724) (List.mem_cons_of_mem _ w_1) (List.mem_cons_of_mem _ w_725) (List.mem_cons_of_mem _ w_726) ⟨by decide +kernel, by decide +kernel, by decide +kernel⟩ rfl (Nat.le_of_ble_eq_true rfl) hst ha h hbb kk
theorem d_Law_law_626 : decode code 626 = .ok (.aload_n 2, 1) := by decide +kernel
theorem s_Law_law_626 {l0 l1 l3 : Option ex_V} {r : Option Nat} (k : ex_E Γ d M_Law_law 627 [l0, l1, some (.inr r), l3] (.inr r :: st) K I F b Q) : ex_E Γ d M_Law_law 626 [l0, l1, some (.inr r), l3] (st) K I F b Q := ex_aload_n d_Law_law_626 rfl k
theorem d_Law_law_627 : decode code 627 = .ok (.aload_n 0, 1) := by decide +kernel
theorem s_Law_law_627 {l1 l2 l3 : Option ex_V} {r : Option Nat} (k : ex_E Γ d M_Law_law 628 [some (.inr r), l1, l2, l3] (.inr r :: st) K I F b Q) : ex_E Γ d M_Law_law 627 [some (.inr r), l1, l2, l3] (st) K I F b Q := ex_aload_n d_Law_law_627 rfl k
theorem d_Law_law_628 : decode code 628 = .ok (.iload_n 3, 1) := by decide +kernel
theorem s_Law_law_628 {l0 l1 l2 : Option ex_V} {x : Int32} (k : ex_E Γ d M_Law_law 629 [l0, l1, l2, some (.inl x)] (.inl x :: st) K I F b Q) : ex_E Γ d M_Law_law 628 [l0, l1, l2, some (.inl x)] (st) K I F b Q := ex_iload_n d_Law_law_628 rfl k
theorem d_Law_law_629 : decode code 629 = .ok (.iconst 1, 1) := by decide +kernel
theorem s_Law_law_629 {l0 l1 l2 l3 : Option ex_V} (k : ex_E Γ d M_Law_law 630 [l0, l1, l2, l3] (.inl 1 :: st) K I F b Q) : ex_E Γ d M_Law_law 629 [l0, l1, l2, l3] (st) K I F b Q := ex_iconst d_Law_law_629 (by decide +kernel) k
theorem d_Law_law_630 : decode code 630 = .ok (.iadd, 1) := by decide +kernel
theorem s_Law_law_630 {l0 l1 l2 l3 : Option ex_V} {x y : Int32} (k : ex_E Γ d M_Law_law 631 [l0, l1, l2, l3] (.inl (x + y) :: st) K I F b Q) : ex_E Γ d M_Law_law 630 [l0, l1, l2, l3] (.inl y :: .inl x :: st) K I F b Q := ex_iadd d_Law_law_630 k
theorem d_Law_law_631 : decode code 631 = .ok (.iaload, 1) := by decide +kernel
theorem s_Law_law_631 {l0 l1 l2 l3 : Option ex_V} {i : Int32} (hi : vp_in i Γ.2.2.2.2.2.2.1) (k : ex_E Γ d M_Law_law 632 [l0, l1, l2, l3] (.inl (Γ.2.2.2.2.2.2.2 i.toNatClampNeg) :: st) K I F b Q) : ex_E Γ d M_Law_law 631 [l0, l1, l2, l3] (.inl i :: .inr (some Γ.2.2.2.2.2.1) :: st) K I F b Q := ex_sld d_Law_law_631 hi k
theorem d_Law_law_632 : decode code 632 = .ok (.invokevirtual 100, 3) := by decide +kernel
theorem s_Law_law_632 {l0 l1 l2 l3 : Option ex_V} {r : Option Nat} {a : Nat} {x0 : Int32} {b1 b2 : Nat} {Q1 : Option ex_V → ex_K → ex_I → ex_F → Prop} (hr : r = some a) (ha : (K a).1 = 12) (h : ex_E Γ d M_Mdl_waiting 0 [some (.inr (some a)), some (.inl x0)] [] K I F b1 Q1) (kk : ∀ r K' I' F', Q1 r K' I' F' → ex_E Γ (d + 1) M_Law_law 635 [l0, l1, l2, l3] (r.toList ++ st) K' I' F' b2 Q) (hbb : b1 + b2 ≤ b) (hst : st.length ≤ 8 := by first | exact Nat.le_of_ble_eq_true rfl | simp) : ex_E Γ (d + 1) M_Law_law 632 [l0, l1, l2, l3] (.inl x0 :: .inr r :: st) K I F b Q := by
  subst hr
  exact ex_callV (Mc := M_Mdl_waiting) (n := 1) (av := [.inl x0]) (ci := 11) d_Law_law_632 (by decide) rfl rfl (by decide) rfl (by decide) (ex_good w_1047) (List.mem_cons_of_mem _ w_1044) (List.mem_cons_of_mem _ w_11) (List.mem_cons_of_mem _ w_1045) (List.mem_cons_of_mem _ w_1046) ⟨by decide +kernel, by decide +kernel, by decide +kernel⟩ rfl (Nat.le_of_ble_eq_true rfl) hst ha h hbb kk
theorem d_Law_law_635 : decode code 635 = .ok (.if_icmp .eq 28, 3) := by decide +kernel
theorem s_Law_law_635 {l0 l1 l2 l3 : Option ex_V} {x y : Int32} (kt : x = y → ex_E Γ d M_Law_law 663 [l0, l1, l2, l3] (st) K I F b Q) (kf : ¬ x = y → ex_E Γ d M_Law_law 638 [l0, l1, l2, l3] (st) K I F b Q) : ex_E Γ d M_Law_law 635 [l0, l1, l2, l3] (.inl y :: .inl x :: st) K I F b Q := ex_icmp_eq d_Law_law_635 (by decide) kt kf
theorem d_Law_law_638 : decode code 638 = .ok (.iconst 0, 1) := by decide +kernel
theorem s_Law_law_638 {l0 l1 l2 l3 : Option ex_V} (k : ex_E Γ d M_Law_law 639 [l0, l1, l2, l3] (.inl 0 :: st) K I F b Q) : ex_E Γ d M_Law_law 638 [l0, l1, l2, l3] (st) K I F b Q := ex_iconst d_Law_law_638 (by decide +kernel) k
theorem d_Law_law_639 : decode code 639 = .ok (.ireturn, 1) := by decide +kernel
theorem s_Law_law_639 {l0 l1 l2 l3 : Option ex_V} {x : Int32} (hn : narrow .boolean (.int x) = .int x) (hq : Q (some (.inl x)) K I F) : ex_E Γ d M_Law_law 639 [l0, l1, l2, l3] ([.inl x]) K I F b Q := ex_zret d_Law_law_639 rfl hn hq
theorem d_Law_law_640 : decode code 640 = .ok (.aload_n 1, 1) := by decide +kernel
theorem s_Law_law_640 {l0 l2 l3 : Option ex_V} {r : Option Nat} (k : ex_E Γ d M_Law_law 641 [l0, some (.inr r), l2, l3] (.inr r :: st) K I F b Q) : ex_E Γ d M_Law_law 640 [l0, some (.inr r), l2, l3] (st) K I F b Q := ex_aload_n d_Law_law_640 rfl k
theorem d_Law_law_641 : decode code 641 = .ok (.aload_n 0, 1) := by decide +kernel
theorem s_Law_law_641 {l1 l2 l3 : Option ex_V} {r : Option Nat} (k : ex_E Γ d M_Law_law 642 [some (.inr r), l1, l2, l3] (.inr r :: st) K I F b Q) : ex_E Γ d M_Law_law 641 [some (.inr r), l1, l2, l3] (st) K I F b Q := ex_aload_n d_Law_law_641 rfl k
theorem d_Law_law_642 : decode code 642 = .ok (.iload_n 3, 1) := by decide +kernel
theorem s_Law_law_642 {l0 l1 l2 : Option ex_V} {x : Int32} (k : ex_E Γ d M_Law_law 643 [l0, l1, l2, some (.inl x)] (.inl x :: st) K I F b Q) : ex_E Γ d M_Law_law 642 [l0, l1, l2, some (.inl x)] (st) K I F b Q := ex_iload_n d_Law_law_642 rfl k
theorem d_Law_law_643 : decode code 643 = .ok (.iconst 1, 1) := by decide +kernel
theorem s_Law_law_643 {l0 l1 l2 l3 : Option ex_V} (k : ex_E Γ d M_Law_law 644 [l0, l1, l2, l3] (.inl 1 :: st) K I F b Q) : ex_E Γ d M_Law_law 643 [l0, l1, l2, l3] (st) K I F b Q := ex_iconst d_Law_law_643 (by decide +kernel) k
theorem d_Law_law_644 : decode code 644 = .ok (.iadd, 1) := by decide +kernel
theorem s_Law_law_644 {l0 l1 l2 l3 : Option ex_V} {x y : Int32} (k : ex_E Γ d M_Law_law 645 [l0, l1, l2, l3] (.inl (x + y) :: st) K I F b Q) : ex_E Γ d M_Law_law 644 [l0, l1, l2, l3] (.inl y :: .inl x :: st) K I F b Q := ex_iadd d_Law_law_644 k
theorem d_Law_law_645 : decode code 645 = .ok (.iaload, 1) := by decide +kernel
theorem s_Law_law_645 {l0 l1 l2 l3 : Option ex_V} {i : Int32} (hi : vp_in i Γ.2.2.2.2.2.2.1) (k : ex_E Γ d M_Law_law 646 [l0, l1, l2, l3] (.inl (Γ.2.2.2.2.2.2.2 i.toNatClampNeg) :: st) K I F b Q) : ex_E Γ d M_Law_law 645 [l0, l1, l2, l3] (.inl i :: .inr (some Γ.2.2.2.2.2.1) :: st) K I F b Q := ex_sld d_Law_law_645 hi k
theorem d_Law_law_646 : decode code 646 = .ok (.invokevirtual 101, 3) := by decide +kernel
theorem s_Law_law_646 {l0 l1 l2 l3 : Option ex_V} {r : Option Nat} {a : Nat} {x0 : Int32} {b1 b2 : Nat} {Q1 : Option ex_V → ex_K → ex_I → ex_F → Prop} (hr : r = some a) (ha : (K a).1 = 1) (h : ex_E Γ d M_FC_version 0 [some (.inr (some a)), some (.inl x0)] [] K I F b1 Q1) (kk : ∀ r K' I' F', Q1 r K' I' F' → ex_E Γ (d + 1) M_Law_law 649 [l0, l1, l2, l3] (r.toList ++ st) K' I' F' b2 Q) (hbb : b1 + b2 ≤ b) (hst : st.length ≤ 8 := by first | exact Nat.le_of_ble_eq_true rfl | simp) : ex_E Γ (d + 1) M_Law_law 646 [l0, l1, l2, l3] (.inl x0 :: .inr r :: st) K I F b Q := by
  subst hr
  exact ex_callV (Mc := M_FC_version) (n := 1) (av := [.inl x0]) (ci := 0) d_Law_law_646 (by decide) rfl rfl (by decide) rfl (by decide) (ex_good w_731) (List.mem_cons_of_mem _ w_728) (List.mem_cons_of_mem _ w_1) (List.mem_cons_of_mem _ w_729) (List.mem_cons_of_mem _ w_730) ⟨by decide +kernel, by decide +kernel, by decide +kernel⟩ rfl (Nat.le_of_ble_eq_true rfl) hst ha h hbb kk
theorem d_Law_law_649 : decode code 649 = .ok (.aload_n 2, 1) := by decide +kernel
theorem s_Law_law_649 {l0 l1 l3 : Option ex_V} {r : Option Nat} (k : ex_E Γ d M_Law_law 650 [l0, l1, some (.inr r), l3] (.inr r :: st) K I F b Q) : ex_E Γ d M_Law_law 649 [l0, l1, some (.inr r), l3] (st) K I F b Q := ex_aload_n d_Law_law_649 rfl k
theorem d_Law_law_650 : decode code 650 = .ok (.aload_n 0, 1) := by decide +kernel
theorem s_Law_law_650 {l1 l2 l3 : Option ex_V} {r : Option Nat} (k : ex_E Γ d M_Law_law 651 [some (.inr r), l1, l2, l3] (.inr r :: st) K I F b Q) : ex_E Γ d M_Law_law 650 [some (.inr r), l1, l2, l3] (st) K I F b Q := ex_aload_n d_Law_law_650 rfl k
theorem d_Law_law_651 : decode code 651 = .ok (.iload_n 3, 1) := by decide +kernel
theorem s_Law_law_651 {l0 l1 l2 : Option ex_V} {x : Int32} (k : ex_E Γ d M_Law_law 652 [l0, l1, l2, some (.inl x)] (.inl x :: st) K I F b Q) : ex_E Γ d M_Law_law 651 [l0, l1, l2, some (.inl x)] (st) K I F b Q := ex_iload_n d_Law_law_651 rfl k
theorem d_Law_law_652 : decode code 652 = .ok (.iconst 1, 1) := by decide +kernel
theorem s_Law_law_652 {l0 l1 l2 l3 : Option ex_V} (k : ex_E Γ d M_Law_law 653 [l0, l1, l2, l3] (.inl 1 :: st) K I F b Q) : ex_E Γ d M_Law_law 652 [l0, l1, l2, l3] (st) K I F b Q := ex_iconst d_Law_law_652 (by decide +kernel) k
theorem d_Law_law_653 : decode code 653 = .ok (.iadd, 1) := by decide +kernel
theorem s_Law_law_653 {l0 l1 l2 l3 : Option ex_V} {x y : Int32} (k : ex_E Γ d M_Law_law 654 [l0, l1, l2, l3] (.inl (x + y) :: st) K I F b Q) : ex_E Γ d M_Law_law 653 [l0, l1, l2, l3] (.inl y :: .inl x :: st) K I F b Q := ex_iadd d_Law_law_653 k
theorem d_Law_law_654 : decode code 654 = .ok (.iaload, 1) := by decide +kernel
theorem s_Law_law_654 {l0 l1 l2 l3 : Option ex_V} {i : Int32} (hi : vp_in i Γ.2.2.2.2.2.2.1) (k : ex_E Γ d M_Law_law 655 [l0, l1, l2, l3] (.inl (Γ.2.2.2.2.2.2.2 i.toNatClampNeg) :: st) K I F b Q) : ex_E Γ d M_Law_law 654 [l0, l1, l2, l3] (.inl i :: .inr (some Γ.2.2.2.2.2.1) :: st) K I F b Q := ex_sld d_Law_law_654 hi k
theorem d_Law_law_655 : decode code 655 = .ok (.invokevirtual 104, 3) := by decide +kernel
theorem s_Law_law_655 {l0 l1 l2 l3 : Option ex_V} {r : Option Nat} {a : Nat} {x0 : Int32} {b1 b2 : Nat} {Q1 : Option ex_V → ex_K → ex_I → ex_F → Prop} (hr : r = some a) (ha : (K a).1 = 12) (h : ex_E Γ d M_Mdl_version 0 [some (.inr (some a)), some (.inl x0)] [] K I F b1 Q1) (kk : ∀ r K' I' F', Q1 r K' I' F' → ex_E Γ (d + 1) M_Law_law 658 [l0, l1, l2, l3] (r.toList ++ st) K' I' F' b2 Q) (hbb : b1 + b2 ≤ b) (hst : st.length ≤ 8 := by first | exact Nat.le_of_ble_eq_true rfl | simp) : ex_E Γ (d + 1) M_Law_law 655 [l0, l1, l2, l3] (.inl x0 :: .inr r :: st) K I F b Q := by
  subst hr
  exact ex_callV (Mc := M_Mdl_version) (n := 1) (av := [.inl x0]) (ci := 11) d_Law_law_655 (by decide) rfl rfl (by decide) rfl (by decide) (ex_good w_856) (List.mem_cons_of_mem _ w_853) (List.mem_cons_of_mem _ w_11) (List.mem_cons_of_mem _ w_854) (List.mem_cons_of_mem _ w_855) ⟨by decide +kernel, by decide +kernel, by decide +kernel⟩ rfl (Nat.le_of_ble_eq_true rfl) hst ha h hbb kk
theorem d_Law_law_658 : decode code 658 = .ok (.if_icmp .eq 5, 3) := by decide +kernel
theorem s_Law_law_658 {l0 l1 l2 l3 : Option ex_V} {x y : Int32} (kt : x = y → ex_E Γ d M_Law_law 663 [l0, l1, l2, l3] (st) K I F b Q) (kf : ¬ x = y → ex_E Γ d M_Law_law 661 [l0, l1, l2, l3] (st) K I F b Q) : ex_E Γ d M_Law_law 658 [l0, l1, l2, l3] (.inl y :: .inl x :: st) K I F b Q := ex_icmp_eq d_Law_law_658 (by decide) kt kf
theorem d_Law_law_661 : decode code 661 = .ok (.iconst 0, 1) := by decide +kernel
theorem s_Law_law_661 {l0 l1 l2 l3 : Option ex_V} (k : ex_E Γ d M_Law_law 662 [l0, l1, l2, l3] (.inl 0 :: st) K I F b Q) : ex_E Γ d M_Law_law 661 [l0, l1, l2, l3] (st) K I F b Q := ex_iconst d_Law_law_661 (by decide +kernel) k
theorem d_Law_law_662 : decode code 662 = .ok (.ireturn, 1) := by decide +kernel
theorem s_Law_law_662 {l0 l1 l2 l3 : Option ex_V} {x : Int32} (hn : narrow .boolean (.int x) = .int x) (hq : Q (some (.inl x)) K I F) : ex_E Γ d M_Law_law 662 [l0, l1, l2, l3] ([.inl x]) K I F b Q := ex_zret d_Law_law_662 rfl hn hq
theorem d_Law_law_663 : decode code 663 = .ok (.iinc 3 4, 3) := by decide +kernel
theorem s_Law_law_663 {l0 l1 l2 : Option ex_V} {x : Int32} (k : ex_E Γ d M_Law_law 666 [l0, l1, l2, some (.inl (x + 4))] (st) K I F b Q) : ex_E Γ d M_Law_law 663 [l0, l1, l2, some (.inl x)] (st) K I F b Q := ex_iinc (x := x) (v := x + 4) d_Law_law_663 rfl rfl (Nat.le_of_ble_eq_true rfl) k
theorem d_Law_law_666 : decode code 666 = .ok (.goto (-638), 3) := by decide +kernel
theorem s_Law_law_666 {l0 l1 l2 l3 : Option ex_V} (k : ex_E Γ d M_Law_law 28 [l0, l1, l2, l3] (st) K I F b Q) : ex_E Γ d M_Law_law 666 [l0, l1, l2, l3] (st) K I F b Q := ex_goto d_Law_law_666 (by decide) k
theorem d_Law_law_669 : decode code 669 = .ok (.iconst 1, 1) := by decide +kernel
theorem s_Law_law_669 {l0 l1 l2 l3 : Option ex_V} (k : ex_E Γ d M_Law_law 670 [l0, l1, l2, l3] (.inl 1 :: st) K I F b Q) : ex_E Γ d M_Law_law 669 [l0, l1, l2, l3] (st) K I F b Q := ex_iconst d_Law_law_669 (by decide +kernel) k
theorem d_Law_law_670 : decode code 670 = .ok (.ireturn, 1) := by decide +kernel
theorem s_Law_law_670 {l0 l1 l2 l3 : Option ex_V} {x : Int32} (hn : narrow .boolean (.int x) = .int x) (hq : Q (some (.inl x)) K I F) : ex_E Γ d M_Law_law 670 [l0, l1, l2, l3] ([.inl x]) K I F b Q := ex_zret d_Law_law_670 rfl hn hq
theorem d_Law_cell_0 : decode method_2_code 0 = .ok (.iload_n 1, 1) := by decide +kernel
theorem s_Law_cell_0 {l0 : Option ex_V} {x : Int32} (k : ex_E Γ d M_Law_cell 1 [l0, some (.inl x)] (.inl x :: st) K I F b Q) : ex_E Γ d M_Law_cell 0 [l0, some (.inl x)] (st) K I F b Q := ex_iload_n d_Law_cell_0 rfl k
theorem d_Law_cell_1 : decode method_2_code 1 = .ok (.aload_n 0, 1) := by decide +kernel
theorem s_Law_cell_1 {l1 : Option ex_V} {r : Option Nat} (k : ex_E Γ d M_Law_cell 2 [some (.inr r), l1] (.inr r :: st) K I F b Q) : ex_E Γ d M_Law_cell 1 [some (.inr r), l1] (st) K I F b Q := ex_aload_n d_Law_cell_1 rfl k
theorem d_Law_cell_2 : decode method_2_code 2 = .ok (.arraylength, 1) := by decide +kernel
theorem s_Law_cell_2 {l0 l1 : Option ex_V} (k : ex_E Γ d M_Law_cell 3 [l0, l1] (.inl (Int32.ofNat Γ.2.2.2.2.2.2.1) :: st) K I F b Q) : ex_E Γ d M_Law_cell 2 [l0, l1] (.inr (some Γ.2.2.2.2.2.1) :: st) K I F b Q := ex_slen d_Law_cell_2 k
theorem d_Law_cell_3 : decode method_2_code 3 = .ok (.if_icmp .ge 9, 3) := by decide +kernel
theorem s_Law_cell_3 {l0 l1 : Option ex_V} {x y : Int32} (kt : y ≤ x → ex_E Γ d M_Law_cell 12 [l0, l1] (st) K I F b Q) (kf : ¬ y ≤ x → ex_E Γ d M_Law_cell 6 [l0, l1] (st) K I F b Q) : ex_E Γ d M_Law_cell 3 [l0, l1] (.inl y :: .inl x :: st) K I F b Q := ex_icmp_ge d_Law_cell_3 (by decide) kt kf
theorem d_Law_cell_6 : decode method_2_code 6 = .ok (.aload_n 0, 1) := by decide +kernel
theorem s_Law_cell_6 {l1 : Option ex_V} {r : Option Nat} (k : ex_E Γ d M_Law_cell 7 [some (.inr r), l1] (.inr r :: st) K I F b Q) : ex_E Γ d M_Law_cell 6 [some (.inr r), l1] (st) K I F b Q := ex_aload_n d_Law_cell_6 rfl k
theorem d_Law_cell_7 : decode method_2_code 7 = .ok (.iload_n 1, 1) := by decide +kernel
theorem s_Law_cell_7 {l0 : Option ex_V} {x : Int32} (k : ex_E Γ d M_Law_cell 8 [l0, some (.inl x)] (.inl x :: st) K I F b Q) : ex_E Γ d M_Law_cell 7 [l0, some (.inl x)] (st) K I F b Q := ex_iload_n d_Law_cell_7 rfl k
theorem d_Law_cell_8 : decode method_2_code 8 = .ok (.iaload, 1) := by decide +kernel
theorem s_Law_cell_8 {l0 l1 : Option ex_V} {i : Int32} (hi : vp_in i Γ.2.2.2.2.2.2.1) (k : ex_E Γ d M_Law_cell 9 [l0, l1] (.inl (Γ.2.2.2.2.2.2.2 i.toNatClampNeg) :: st) K I F b Q) : ex_E Γ d M_Law_cell 8 [l0, l1] (.inl i :: .inr (some Γ.2.2.2.2.2.1) :: st) K I F b Q := ex_sld d_Law_cell_8 hi k
theorem d_Law_cell_9 : decode method_2_code 9 = .ok (.goto 4, 3) := by decide +kernel
theorem s_Law_cell_9 {l0 l1 : Option ex_V} (k : ex_E Γ d M_Law_cell 13 [l0, l1] (st) K I F b Q) : ex_E Γ d M_Law_cell 9 [l0, l1] (st) K I F b Q := ex_goto d_Law_cell_9 (by decide) k
theorem d_Law_cell_12 : decode method_2_code 12 = .ok (.iconst 0, 1) := by decide +kernel
theorem s_Law_cell_12 {l0 l1 : Option ex_V} (k : ex_E Γ d M_Law_cell 13 [l0, l1] (.inl 0 :: st) K I F b Q) : ex_E Γ d M_Law_cell 12 [l0, l1] (st) K I F b Q := ex_iconst d_Law_cell_12 (by decide +kernel) k
theorem d_Law_cell_13 : decode method_2_code 13 = .ok (.ireturn, 1) := by decide +kernel
theorem s_Law_cell_13 {l0 l1 : Option ex_V} {x : Int32} (hq : Q (some (.inl x)) K I F) : ex_E Γ d M_Law_cell 13 [l0, l1] ([.inl x]) K I F b Q := ex_iret d_Law_cell_13 rfl hq
end
