section
variable {Γ : ex_G} {d : Nat} {st : List ex_V} {K : ex_K} {I : ex_I} {F : ex_F} {b : Nat} {Q : Option ex_V → ex_K → ex_I → ex_F → Prop}
theorem d_Drf_init_0 : decode prog_4_method_1_code 0 = .ok (.aload_n 0, 1) := by decide +kernel
theorem s_Drf_init_0 {r : Option Nat} (k : ex_E Γ d M_Drf_init 1 [some (.inr r)] (.inr r :: st) K I F b Q) : ex_E Γ d M_Drf_init 0 [some (.inr r)] (st) K I F b Q := ex_aload_n d_Drf_init_0 rfl k
theorem d_Drf_init_1 : decode prog_4_method_1_code 1 = .ok (.invokespecial 3, 3) := by decide +kernel
theorem s_Drf_init_1 {l0 : Option ex_V} {r : Option Nat} {a : Nat} (hr : r = some a) (k : ex_E Γ (d + 1) M_Drf_init 4 [l0] (st) K I F b Q) (hst : st.length ≤ 8 := by first | exact Nat.le_of_ble_eq_true rfl | simp) : ex_E Γ (d + 1) M_Drf_init 1 [l0] (.inr r :: st) K I F b Q := by
  subst hr
  exact ex_objInit d_Drf_init_1 (List.mem_cons_of_mem _ w_32) (List.mem_cons_of_mem _ w_25) (List.mem_cons_of_mem _ w_26) hst k
theorem d_Drf_init_4 : decode prog_4_method_1_code 4 = .ok (.aload_n 0, 1) := by decide +kernel
theorem s_Drf_init_4 {r : Option Nat} (k : ex_E Γ d M_Drf_init 5 [some (.inr r)] (.inr r :: st) K I F b Q) : ex_E Γ d M_Drf_init 4 [some (.inr r)] (st) K I F b Q := ex_aload_n d_Drf_init_4 rfl k
theorem d_Drf_init_5 : decode prog_4_method_1_code 5 = .ok (.bipush 40, 2) := by decide +kernel
theorem s_Drf_init_5 {l0 : Option ex_V} (k : ex_E Γ d M_Drf_init 7 [l0] (.inl 40 :: st) K I F b Q) : ex_E Γ d M_Drf_init 5 [l0] (st) K I F b Q := ex_bipush d_Drf_init_5 (by decide +kernel) k
theorem d_Drf_init_7 : decode prog_4_method_1_code 7 = .ok (.newarray .char, 2) := by decide +kernel
theorem s_Drf_init_7 {l0 : Option ex_V} {n : Int32} {N : Nat} (hn : ¬ n < 0) (hN : n.toNatClampNeg = N) (hN4 : N ≤ 400) (k : ∀ a, (K a).1 = 0 → ex_E Γ d M_Drf_init 9 [l0] (.inr (some a) :: st) (ex_nk K a 22 N) (ex_ni I a) (ex_nr F a) b Q) : ex_E Γ d M_Drf_init 7 [l0] (.inl n :: st) K I F (b + 1) Q := ex_newa (ty := .char) (kd := 22) (t0 := 1) d_Drf_init_7 rfl (by decide) (by decide) rfl (fun _ _ h => h) rfl (List.mem_cons_of_mem _ w_40) hn hN hN4 (by show N * 2 ≤ _; omega) k
theorem d_Drf_init_9 : decode prog_4_method_1_code 9 = .ok (.putfield 11, 3) := by decide +kernel
theorem s_Drf_init_9 {l0 : Option ex_V} {r : Option Nat} {a : Nat} {x : Option Nat} (hr : r = some a) (ha : (K a).1 = 3) (k : ex_E Γ d M_Drf_init 12 [l0] (st) K I (ex_uf F 228 a 0 x) b Q) : ex_E Γ d M_Drf_init 9 [l0] (.inr x :: .inr r :: st) K I F b Q := ex_putFr 0 d_Drf_init_9 (ci := 2) rfl (by decide) rfl (by decide) rfl rfl rfl (inC_Drf _) (List.mem_cons_of_mem _ w_33) rfl rfl tyok_Drf nm_Drf (ex_a1 _ _) (ex_a2 _ _) hr ha k
theorem d_Drf_init_12 : decode prog_4_method_1_code 12 = .ok (.return_, 1) := by decide +kernel
theorem s_Drf_init_12 {l0 : Option ex_V} (hq : Q none K I F) : ex_E Γ d M_Drf_init 12 [l0] ([]) K I F b Q := ex_vret d_Drf_init_12 rfl hq
theorem d_Ctl_init_0 : decode prog_3_method_1_code 0 = .ok (.aload_n 0, 1) := by decide +kernel
theorem s_Ctl_init_0 {r : Option Nat} (k : ex_E Γ d M_Ctl_init 1 [some (.inr r)] (.inr r :: st) K I F b Q) : ex_E Γ d M_Ctl_init 0 [some (.inr r)] (st) K I F b Q := ex_aload_n d_Ctl_init_0 rfl k
theorem d_Ctl_init_1 : decode prog_3_method_1_code 1 = .ok (.invokespecial 3, 3) := by decide +kernel
theorem s_Ctl_init_1 {l0 : Option ex_V} {r : Option Nat} {a : Nat} (hr : r = some a) (k : ex_E Γ (d + 1) M_Ctl_init 4 [l0] (st) K I F b Q) (hst : st.length ≤ 8 := by first | exact Nat.le_of_ble_eq_true rfl | simp) : ex_E Γ (d + 1) M_Ctl_init 1 [l0] (.inr r :: st) K I F b Q := by
  subst hr
  exact ex_objInit d_Ctl_init_1 (List.mem_cons_of_mem _ w_86) (List.mem_cons_of_mem _ w_25) (List.mem_cons_of_mem _ w_26) hst k
theorem d_Ctl_init_4 : decode prog_3_method_1_code 4 = .ok (.aload_n 0, 1) := by decide +kernel
theorem s_Ctl_init_4 {r : Option Nat} (k : ex_E Γ d M_Ctl_init 5 [some (.inr r)] (.inr r :: st) K I F b Q) : ex_E Γ d M_Ctl_init 4 [some (.inr r)] (st) K I F b Q := ex_aload_n d_Ctl_init_4 rfl k
theorem d_Ctl_init_5 : decode prog_3_method_1_code 5 = .ok (.bipush 7, 2) := by decide +kernel
theorem s_Ctl_init_5 {l0 : Option ex_V} (k : ex_E Γ d M_Ctl_init 7 [l0] (.inl 7 :: st) K I F b Q) : ex_E Γ d M_Ctl_init 5 [l0] (st) K I F b Q := ex_bipush d_Ctl_init_5 (by decide +kernel) k
theorem d_Ctl_init_7 : decode prog_3_method_1_code 7 = .ok (.newarray .int, 2) := by decide +kernel
theorem s_Ctl_init_7 {l0 : Option ex_V} {n : Int32} {N : Nat} (hn : ¬ n < 0) (hN : n.toNatClampNeg = N) (hN4 : N ≤ 400) (k : ∀ a, (K a).1 = 0 → ex_E Γ d M_Ctl_init 9 [l0] (.inr (some a) :: st) (ex_nk K a 21 N) (ex_ni I a) (ex_nr F a) b Q) : ex_E Γ d M_Ctl_init 7 [l0] (.inl n :: st) K I F (b + 1) Q := ex_newa (ty := .int) (kd := 21) (t0 := 0) d_Ctl_init_7 rfl (by decide) (by decide) rfl (fun _ _ h => h) rfl (List.mem_cons_of_mem _ w_94) hn hN hN4 (by show N * 4 ≤ _; omega) k
theorem d_Ctl_init_9 : decode prog_3_method_1_code 9 = .ok (.putfield 11, 3) := by decide +kernel
theorem s_Ctl_init_9 {l0 : Option ex_V} {r : Option Nat} {a : Nat} {x : Option Nat} (hr : r = some a) (ha : (K a).1 = 2) (k : ex_E Γ d M_Ctl_init 12 [l0] (st) K I (ex_uf F 164 a 0 x) b Q) : ex_E Γ d M_Ctl_init 9 [l0] (.inr x :: .inr r :: st) K I F b Q := ex_putFr 0 d_Ctl_init_9 (ci := 1) rfl (by decide) rfl (by decide) rfl rfl rfl (inC_Ctl _) (List.mem_cons_of_mem _ w_90) rfl rfl tyok_Ctl nm_Ctl (ex_a1 _ _) (ex_a2 _ _) hr ha k
theorem d_Ctl_init_12 : decode prog_3_method_1_code 12 = .ok (.aload_n 0, 1) := by decide +kernel
theorem s_Ctl_init_12 {r : Option Nat} (k : ex_E Γ d M_Ctl_init 13 [some (.inr r)] (.inr r :: st) K I F b Q) : ex_E Γ d M_Ctl_init 12 [some (.inr r)] (st) K I F b Q := ex_aload_n d_Ctl_init_12 rfl k
theorem d_Ctl_init_13 : decode prog_3_method_1_code 13 = .ok (.getfield 11, 3) := by decide +kernel
theorem s_Ctl_init_13 {l0 : Option ex_V} {r : Option Nat} {a : Nat} (hr : r = some a) (ha : (K a).1 = 2) (k : ex_E Γ d M_Ctl_init 16 [l0] (.inr (F 164 a 0) :: st) K I F b Q) : ex_E Γ d M_Ctl_init 13 [l0] (.inr r :: st) K I F b Q := ex_get 0 d_Ctl_init_13 (ci := 1) rfl (by decide) rfl (by decide) rfl (inC_Ctl _) (List.mem_cons_of_mem _ w_90) rfl hr ha k
theorem d_Ctl_init_16 : decode prog_3_method_1_code 16 = .ok (.iconst (-1), 1) := by decide +kernel
theorem s_Ctl_init_16 {l0 : Option ex_V} (k : ex_E Γ d M_Ctl_init 17 [l0] (.inl (-1) :: st) K I F b Q) : ex_E Γ d M_Ctl_init 16 [l0] (st) K I F b Q := ex_iconst d_Ctl_init_16 (by decide +kernel) k
theorem d_Ctl_init_17 : decode prog_3_method_1_code 17 = .ok (.invokestatic 15, 3) := by decide +kernel
theorem s_Ctl_init_17 {l0 : Option ex_V} {x0 : Option Nat} {x1 : Int32} {b1 b2 : Nat} {Q1 : Option ex_V → ex_K → ex_I → ex_F → Prop} (h : ex_E Γ d M_Arr_fill 0 [some (.inr x0), some (.inl x1), none, none] [] K I F b1 Q1) (kk : ∀ r K' I' F', Q1 r K' I' F' → ex_E Γ (d + 1) M_Ctl_init 20 [l0] (r.toList ++ st) K' I' F' b2 Q) (hbb : b1 + b2 ≤ b) (hst : st.length ≤ 8 := by first | exact Nat.le_of_ble_eq_true rfl | simp) : ex_E Γ (d + 1) M_Ctl_init 17 [l0] (.inl x1 :: .inr x0 :: st) K I F b Q := by
  exact ex_callS (Mc := M_Arr_fill) (n := 2) (av := [.inr x0, .inl x1]) d_Ctl_init_17 (by decide) rfl rfl (by decide) (ex_good w_89) (List.mem_cons_of_mem _ w_87) (List.mem_cons_of_mem _ w_7) (List.mem_cons_of_mem _ w_88) ⟨by decide +kernel, by decide +kernel, by decide +kernel⟩ rfl (Nat.le_of_ble_eq_true rfl) hst h hbb kk
theorem d_Ctl_init_20 : decode prog_3_method_1_code 20 = .ok (.return_, 1) := by decide +kernel
theorem s_Ctl_init_20 {l0 : Option ex_V} (hq : Q none K I F) : ex_E Γ d M_Ctl_init 20 [l0] ([]) K I F b Q := ex_vret d_Ctl_init_20 rfl hq
theorem d_Res_init_0 : decode prog_9_method_1_code 0 = .ok (.aload_n 0, 1) := by decide +kernel
theorem s_Res_init_0 {l1 l2 l3 l4 : Option ex_V} {r : Option Nat} (k : ex_E Γ d M_Res_init 1 [some (.inr r), l1, l2, l3, l4] (.inr r :: st) K I F b Q) : ex_E Γ d M_Res_init 0 [some (.inr r), l1, l2, l3, l4] (st) K I F b Q := ex_aload_n d_Res_init_0 rfl k
theorem d_Res_init_1 : decode prog_9_method_1_code 1 = .ok (.invokespecial 1, 3) := by decide +kernel
theorem s_Res_init_1 {l0 l1 l2 l3 l4 : Option ex_V} {r : Option Nat} {a : Nat} (hr : r = some a) (k : ex_E Γ (d + 1) M_Res_init 4 [l0, l1, l2, l3, l4] (st) K I F b Q) (hst : st.length ≤ 8 := by first | exact Nat.le_of_ble_eq_true rfl | simp) : ex_E Γ (d + 1) M_Res_init 1 [l0, l1, l2, l3, l4] (.inr r :: st) K I F b Q := by
  subst hr
  exact ex_objInit d_Res_init_1 (List.mem_cons_of_mem _ w_98) (List.mem_cons_of_mem _ w_25) (List.mem_cons_of_mem _ w_26) hst k
theorem d_Res_init_4 : decode prog_9_method_1_code 4 = .ok (.aload_n 0, 1) := by decide +kernel
theorem s_Res_init_4 {l1 l2 l3 l4 : Option ex_V} {r : Option Nat} (k : ex_E Γ d M_Res_init 5 [some (.inr r), l1, l2, l3, l4] (.inr r :: st) K I F b Q) : ex_E Γ d M_Res_init 4 [some (.inr r), l1, l2, l3, l4] (st) K I F b Q := ex_aload_n d_Res_init_4 rfl k
theorem d_Res_init_5 : decode prog_9_method_1_code 5 = .ok (.iload_n 1, 1) := by decide +kernel
theorem s_Res_init_5 {l0 l2 l3 l4 : Option ex_V} {x : Int32} (k : ex_E Γ d M_Res_init 6 [l0, some (.inl x), l2, l3, l4] (.inl x :: st) K I F b Q) : ex_E Γ d M_Res_init 5 [l0, some (.inl x), l2, l3, l4] (st) K I F b Q := ex_iload_n d_Res_init_5 rfl k
theorem d_Res_init_6 : decode prog_9_method_1_code 6 = .ok (.putfield 7, 3) := by decide +kernel
theorem s_Res_init_6 {l0 l1 l2 l3 l4 : Option ex_V} {r : Option Nat} {a : Nat} {x : Int32} (hr : r = some a) (ha : (K a).1 = 4) (k : ex_E Γ d M_Res_init 9 [l0, l1, l2, l3, l4] (st) K (ex_ui I 292 a 0 x) F b Q) : ex_E Γ d M_Res_init 6 [l0, l1, l2, l3, l4] (.inl x :: .inr r :: st) K I F b Q := ex_putFi 0 d_Res_init_6 (ci := 3) rfl (by decide) rfl (by decide) rfl rfl rfl (inC_Res _) (List.mem_cons_of_mem _ w_99) rfl rfl tyok_Res nm_Res rfl rfl hr ha k
theorem d_Res_init_9 : decode prog_9_method_1_code 9 = .ok (.aload_n 0, 1) := by decide +kernel
theorem s_Res_init_9 {l1 l2 l3 l4 : Option ex_V} {r : Option Nat} (k : ex_E Γ d M_Res_init 10 [some (.inr r), l1, l2, l3, l4] (.inr r :: st) K I F b Q) : ex_E Γ d M_Res_init 9 [some (.inr r), l1, l2, l3, l4] (st) K I F b Q := ex_aload_n d_Res_init_9 rfl k
theorem d_Res_init_10 : decode prog_9_method_1_code 10 = .ok (.iload_n 2, 1) := by decide +kernel
theorem s_Res_init_10 {l0 l1 l3 l4 : Option ex_V} {x : Int32} (k : ex_E Γ d M_Res_init 11 [l0, l1, some (.inl x), l3, l4] (.inl x :: st) K I F b Q) : ex_E Γ d M_Res_init 10 [l0, l1, some (.inl x), l3, l4] (st) K I F b Q := ex_iload_n d_Res_init_10 rfl k
theorem d_Res_init_11 : decode prog_9_method_1_code 11 = .ok (.putfield 13, 3) := by decide +kernel
theorem s_Res_init_11 {l0 l1 l2 l3 l4 : Option ex_V} {r : Option Nat} {a : Nat} {x : Int32} (hr : r = some a) (ha : (K a).1 = 4) (k : ex_E Γ d M_Res_init 14 [l0, l1, l2, l3, l4] (st) K (ex_ui I 293 a 0 x) F b Q) : ex_E Γ d M_Res_init 11 [l0, l1, l2, l3, l4] (.inl x :: .inr r :: st) K I F b Q := ex_putFi 1 d_Res_init_11 (ci := 3) rfl (by decide) rfl (by decide) rfl rfl rfl (inC_Res _) (List.mem_cons_of_mem _ w_101) rfl rfl tyok_Res nm_Res rfl rfl hr ha k
theorem d_Res_init_14 : decode prog_9_method_1_code 14 = .ok (.aload_n 0, 1) := by decide +kernel
theorem s_Res_init_14 {l1 l2 l3 l4 : Option ex_V} {r : Option Nat} (k : ex_E Γ d M_Res_init 15 [some (.inr r), l1, l2, l3, l4] (.inr r :: st) K I F b Q) : ex_E Γ d M_Res_init 14 [some (.inr r), l1, l2, l3, l4] (st) K I F b Q := ex_aload_n d_Res_init_14 rfl k
theorem d_Res_init_15 : decode prog_9_method_1_code 15 = .ok (.iload_n 3, 1) := by decide +kernel
theorem s_Res_init_15 {l0 l1 l2 l4 : Option ex_V} {x : Int32} (k : ex_E Γ d M_Res_init 16 [l0, l1, l2, some (.inl x), l4] (.inl x :: st) K I F b Q) : ex_E Γ d M_Res_init 15 [l0, l1, l2, some (.inl x), l4] (st) K I F b Q := ex_iload_n d_Res_init_15 rfl k
theorem d_Res_init_16 : decode prog_9_method_1_code 16 = .ok (.putfield 16, 3) := by decide +kernel
theorem s_Res_init_16 {l0 l1 l2 l3 l4 : Option ex_V} {r : Option Nat} {a : Nat} {x : Int32} (hz : x = 0 ∨ x = 1) (hr : r = some a) (ha : (K a).1 = 4) (k : ex_E Γ d M_Res_init 19 [l0, l1, l2, l3, l4] (st) K (ex_ui I 294 a 0 x) F b Q) : ex_E Γ d M_Res_init 16 [l0, l1, l2, l3, l4] (.inl x :: .inr r :: st) K I F b Q := ex_putFi 2 d_Res_init_16 (ci := 3) rfl (by decide) rfl (by decide) rfl rfl rfl (inC_Res _) (List.mem_cons_of_mem _ w_104) rfl rfl tyok_Res nm_Res (ex_z1 hz) (ex_z2 hz) hr ha k
theorem d_Res_init_19 : decode prog_9_method_1_code 19 = .ok (.aload_n 0, 1) := by decide +kernel
theorem s_Res_init_19 {l1 l2 l3 l4 : Option ex_V} {r : Option Nat} (k : ex_E Γ d M_Res_init 20 [some (.inr r), l1, l2, l3, l4] (.inr r :: st) K I F b Q) : ex_E Γ d M_Res_init 19 [some (.inr r), l1, l2, l3, l4] (st) K I F b Q := ex_aload_n d_Res_init_19 rfl k
theorem d_Res_init_20 : decode prog_9_method_1_code 20 = .ok (.aload 4, 2) := by decide +kernel
theorem s_Res_init_20 {l0 l1 l2 l3 : Option ex_V} {r : Option Nat} (k : ex_E Γ d M_Res_init 22 [l0, l1, l2, l3, some (.inr r)] (.inr r :: st) K I F b Q) : ex_E Γ d M_Res_init 20 [l0, l1, l2, l3, some (.inr r)] (st) K I F b Q := ex_aload d_Res_init_20 rfl k
theorem d_Res_init_22 : decode prog_9_method_1_code 22 = .ok (.putfield 20, 3) := by decide +kernel
theorem s_Res_init_22 {l0 l1 l2 l3 l4 : Option ex_V} {r : Option Nat} {a : Nat} {x : Option Nat} (hr : r = some a) (ha : (K a).1 = 4) (k : ex_E Γ d M_Res_init 25 [l0, l1, l2, l3, l4] (st) K I (ex_uf F 295 a 0 x) b Q) : ex_E Γ d M_Res_init 22 [l0, l1, l2, l3, l4] (.inr x :: .inr r :: st) K I F b Q := ex_putFr 3 d_Res_init_22 (ci := 3) rfl (by decide) rfl (by decide) rfl rfl rfl (inC_Res _) (List.mem_cons_of_mem _ w_108) rfl rfl tyok_Res nm_Res (ex_o1 _ _) (ex_o2 _ _) hr ha k
theorem d_Res_init_25 : decode prog_9_method_1_code 25 = .ok (.return_, 1) := by decide +kernel
theorem s_Res_init_25 {l0 l1 l2 l3 l4 : Option ex_V} (hq : Q none K I F) : ex_E Γ d M_Res_init 25 [l0, l1, l2, l3, l4] ([]) K I F b Q := ex_vret d_Res_init_25 rfl hq
theorem d_Drf_append_0 : decode prog_4_method_2_code 0 = .ok (.iload_n 1, 1) := by decide +kernel
theorem s_Drf_append_0 {l0 : Option ex_V} {x : Int32} (k : ex_E Γ d M_Drf_append 1 [l0, some (.inl x)] (.inl x :: st) K I F b Q) : ex_E Γ d M_Drf_append 0 [l0, some (.inl x)] (st) K I F b Q := ex_iload_n d_Drf_append_0 rfl k
theorem d_Drf_append_1 : decode prog_4_method_2_code 1 = .ok (.bipush 32, 2) := by decide +kernel
theorem s_Drf_append_1 {l0 l1 : Option ex_V} (k : ex_E Γ d M_Drf_append 3 [l0, l1] (.inl 32 :: st) K I F b Q) : ex_E Γ d M_Drf_append 1 [l0, l1] (st) K I F b Q := ex_bipush d_Drf_append_1 (by decide +kernel) k
theorem d_Drf_append_3 : decode prog_4_method_2_code 3 = .ok (.if_icmp .lt 18, 3) := by decide +kernel
theorem s_Drf_append_3 {l0 l1 : Option ex_V} {x y : Int32} (kt : x < y → ex_E Γ d M_Drf_append 21 [l0, l1] (st) K I F b Q) (kf : ¬ x < y → ex_E Γ d M_Drf_append 6 [l0, l1] (st) K I F b Q) : ex_E Γ d M_Drf_append 3 [l0, l1] (.inl y :: .inl x :: st) K I F b Q := ex_icmp_lt d_Drf_append_3 (by decide) kt kf
theorem d_Drf_append_6 : decode prog_4_method_2_code 6 = .ok (.iload_n 1, 1) := by decide +kernel
theorem s_Drf_append_6 {l0 : Option ex_V} {x : Int32} (k : ex_E Γ d M_Drf_append 7 [l0, some (.inl x)] (.inl x :: st) K I F b Q) : ex_E Γ d M_Drf_append 6 [l0, some (.inl x)] (st) K I F b Q := ex_iload_n d_Drf_append_6 rfl k
theorem d_Drf_append_7 : decode prog_4_method_2_code 7 = .ok (.bipush 126, 2) := by decide +kernel
theorem s_Drf_append_7 {l0 l1 : Option ex_V} (k : ex_E Γ d M_Drf_append 9 [l0, l1] (.inl 126 :: st) K I F b Q) : ex_E Γ d M_Drf_append 7 [l0, l1] (st) K I F b Q := ex_bipush d_Drf_append_7 (by decide +kernel) k
theorem d_Drf_append_9 : decode prog_4_method_2_code 9 = .ok (.if_icmp .gt 12, 3) := by decide +kernel
theorem s_Drf_append_9 {l0 l1 : Option ex_V} {x y : Int32} (kt : y < x → ex_E Γ d M_Drf_append 21 [l0, l1] (st) K I F b Q) (kf : ¬ y < x → ex_E Γ d M_Drf_append 12 [l0, l1] (st) K I F b Q) : ex_E Γ d M_Drf_append 9 [l0, l1] (.inl y :: .inl x :: st) K I F b Q := ex_icmp_gt d_Drf_append_9 (by decide) kt kf
theorem d_Drf_append_12 : decode prog_4_method_2_code 12 = .ok (.aload_n 0, 1) := by decide +kernel
theorem s_Drf_append_12 {l1 : Option ex_V} {r : Option Nat} (k : ex_E Γ d M_Drf_append 13 [some (.inr r), l1] (.inr r :: st) K I F b Q) : ex_E Γ d M_Drf_append 12 [some (.inr r), l1] (st) K I F b Q := ex_aload_n d_Drf_append_12 rfl k
theorem d_Drf_append_13 : decode prog_4_method_2_code 13 = .ok (.getfield 15, 3) := by decide +kernel
theorem s_Drf_append_13 {l0 l1 : Option ex_V} {r : Option Nat} {a : Nat} (hr : r = some a) (ha : (K a).1 = 3) (k : ex_E Γ d M_Drf_append 16 [l0, l1] (.inl (I 229 a 0) :: st) K I F b Q) : ex_E Γ d M_Drf_append 13 [l0, l1] (.inr r :: st) K I F b Q := ex_get 1 d_Drf_append_13 (ci := 2) rfl (by decide) rfl (by decide) rfl (inC_Drf _) (List.mem_cons_of_mem _ w_34) rfl hr ha k
theorem d_Drf_append_16 : decode prog_4_method_2_code 16 = .ok (.bipush 40, 2) := by decide +kernel
theorem s_Drf_append_16 {l0 l1 : Option ex_V} (k : ex_E Γ d M_Drf_append 18 [l0, l1] (.inl 40 :: st) K I F b Q) : ex_E Γ d M_Drf_append 16 [l0, l1] (st) K I F b Q := ex_bipush d_Drf_append_16 (by decide +kernel) k
theorem d_Drf_append_18 : decode prog_4_method_2_code 18 = .ok (.if_icmp .lt 5, 3) := by decide +kernel
theorem s_Drf_append_18 {l0 l1 : Option ex_V} {x y : Int32} (kt : x < y → ex_E Γ d M_Drf_append 23 [l0, l1] (st) K I F b Q) (kf : ¬ x < y → ex_E Γ d M_Drf_append 21 [l0, l1] (st) K I F b Q) : ex_E Γ d M_Drf_append 18 [l0, l1] (.inl y :: .inl x :: st) K I F b Q := ex_icmp_lt d_Drf_append_18 (by decide) kt kf
theorem d_Drf_append_21 : decode prog_4_method_2_code 21 = .ok (.iconst 0, 1) := by decide +kernel
theorem s_Drf_append_21 {l0 l1 : Option ex_V} (k : ex_E Γ d M_Drf_append 22 [l0, l1] (.inl 0 :: st) K I F b Q) : ex_E Γ d M_Drf_append 21 [l0, l1] (st) K I F b Q := ex_iconst d_Drf_append_21 (by decide +kernel) k
theorem d_Drf_append_22 : decode prog_4_method_2_code 22 = .ok (.ireturn, 1) := by decide +kernel
theorem s_Drf_append_22 {l0 l1 : Option ex_V} {x : Int32} (hn : narrow .boolean (.int x) = .int x) (hq : Q (some (.inl x)) K I F) : ex_E Γ d M_Drf_append 22 [l0, l1] ([.inl x]) K I F b Q := ex_zret d_Drf_append_22 rfl hn hq
theorem d_Drf_append_23 : decode prog_4_method_2_code 23 = .ok (.aload_n 0, 1) := by decide +kernel
theorem s_Drf_append_23 {l1 : Option ex_V} {r : Option Nat} (k : ex_E Γ d M_Drf_append 24 [some (.inr r), l1] (.inr r :: st) K I F b Q) : ex_E Γ d M_Drf_append 23 [some (.inr r), l1] (st) K I F b Q := ex_aload_n d_Drf_append_23 rfl k
theorem d_Drf_append_24 : decode prog_4_method_2_code 24 = .ok (.getfield 11, 3) := by decide +kernel
theorem s_Drf_append_24 {l0 l1 : Option ex_V} {r : Option Nat} {a : Nat} (hr : r = some a) (ha : (K a).1 = 3) (k : ex_E Γ d M_Drf_append 27 [l0, l1] (.inr (F 228 a 0) :: st) K I F b Q) : ex_E Γ d M_Drf_append 24 [l0, l1] (.inr r :: st) K I F b Q := ex_get 0 d_Drf_append_24 (ci := 2) rfl (by decide) rfl (by decide) rfl (inC_Drf _) (List.mem_cons_of_mem _ w_33) rfl hr ha k
theorem d_Drf_append_27 : decode prog_4_method_2_code 27 = .ok (.aload_n 0, 1) := by decide +kernel
theorem s_Drf_append_27 {l1 : Option ex_V} {r : Option Nat} (k : ex_E Γ d M_Drf_append 28 [some (.inr r), l1] (.inr r :: st) K I F b Q) : ex_E Γ d M_Drf_append 27 [some (.inr r), l1] (st) K I F b Q := ex_aload_n d_Drf_append_27 rfl k
theorem d_Drf_append_28 : decode prog_4_method_2_code 28 = .ok (.getfield 15, 3) := by decide +kernel
theorem s_Drf_append_28 {l0 l1 : Option ex_V} {r : Option Nat} {a : Nat} (hr : r = some a) (ha : (K a).1 = 3) (k : ex_E Γ d M_Drf_append 31 [l0, l1] (.inl (I 229 a 0) :: st) K I F b Q) : ex_E Γ d M_Drf_append 28 [l0, l1] (.inr r :: st) K I F b Q := ex_get 1 d_Drf_append_28 (ci := 2) rfl (by decide) rfl (by decide) rfl (inC_Drf _) (List.mem_cons_of_mem _ w_34) rfl hr ha k
theorem d_Drf_append_31 : decode prog_4_method_2_code 31 = .ok (.iload_n 1, 1) := by decide +kernel
theorem s_Drf_append_31 {l0 : Option ex_V} {x : Int32} (k : ex_E Γ d M_Drf_append 32 [l0, some (.inl x)] (.inl x :: st) K I F b Q) : ex_E Γ d M_Drf_append 31 [l0, some (.inl x)] (st) K I F b Q := ex_iload_n d_Drf_append_31 rfl k
theorem d_Drf_append_32 : decode prog_4_method_2_code 32 = .ok (.castore, 1) := by decide +kernel
theorem s_Drf_append_32 {l0 l1 : Option ex_V} {r : Option Nat} {a : Nat} {i x : Int32} (hr : r = some a) (ha : (K a).1 = 22) (hi : vp_in i (K a).2) (k : ex_E Γ d M_Drf_append 33 [l0, l1] (st) K (ex_ui I 22 a i.toNatClampNeg (vp_nar .char x)) F b Q) : ex_E Γ d M_Drf_append 32 [l0, l1] (.inl x :: .inl i :: .inr r :: st) K I F b Q := ex_castore d_Drf_append_32 hr ha hi k
theorem d_Drf_append_33 : decode prog_4_method_2_code 33 = .ok (.aload_n 0, 1) := by decide +kernel
theorem s_Drf_append_33 {l1 : Option ex_V} {r : Option Nat} (k : ex_E Γ d M_Drf_append 34 [some (.inr r), l1] (.inr r :: st) K I F b Q) : ex_E Γ d M_Drf_append 33 [some (.inr r), l1] (st) K I F b Q := ex_aload_n d_Drf_append_33 rfl k
theorem d_Drf_append_34 : decode prog_4_method_2_code 34 = .ok (.dup, 1) := by decide +kernel
theorem s_Drf_append_34 {l0 l1 : Option ex_V} {u : ex_V} (k : ex_E Γ d M_Drf_append 35 [l0, l1] (u :: u :: st) K I F b Q) : ex_E Γ d M_Drf_append 34 [l0, l1] (u :: st) K I F b Q := ex_dup d_Drf_append_34 k
theorem d_Drf_append_35 : decode prog_4_method_2_code 35 = .ok (.getfield 15, 3) := by decide +kernel
theorem s_Drf_append_35 {l0 l1 : Option ex_V} {r : Option Nat} {a : Nat} (hr : r = some a) (ha : (K a).1 = 3) (k : ex_E Γ d M_Drf_append 38 [l0, l1] (.inl (I 229 a 0) :: st) K I F b Q) : ex_E Γ d M_Drf_append 35 [l0, l1] (.inr r :: st) K I F b Q := ex_get 1 d_Drf_append_35 (ci := 2) rfl (by decide) rfl (by decide) rfl (inC_Drf _) (List.mem_cons_of_mem _ w_34) rfl hr ha k
theorem d_Drf_append_38 : decode prog_4_method_2_code 38 = .ok (.iconst 1, 1) := by decide +kernel
theorem s_Drf_append_38 {l0 l1 : Option ex_V} (k : ex_E Γ d M_Drf_append 39 [l0, l1] (.inl 1 :: st) K I F b Q) : ex_E Γ d M_Drf_append 38 [l0, l1] (st) K I F b Q := ex_iconst d_Drf_append_38 (by decide +kernel) k
theorem d_Drf_append_39 : decode prog_4_method_2_code 39 = .ok (.iadd, 1) := by decide +kernel
theorem s_Drf_append_39 {l0 l1 : Option ex_V} {x y : Int32} (k : ex_E Γ d M_Drf_append 40 [l0, l1] (.inl (x + y) :: st) K I F b Q) : ex_E Γ d M_Drf_append 39 [l0, l1] (.inl y :: .inl x :: st) K I F b Q := ex_iadd d_Drf_append_39 k
theorem d_Drf_append_40 : decode prog_4_method_2_code 40 = .ok (.putfield 15, 3) := by decide +kernel
theorem s_Drf_append_40 {l0 l1 : Option ex_V} {r : Option Nat} {a : Nat} {x : Int32} (hr : r = some a) (ha : (K a).1 = 3) (k : ex_E Γ d M_Drf_append 43 [l0, l1] (st) K (ex_ui I 229 a 0 x) F b Q) : ex_E Γ d M_Drf_append 40 [l0, l1] (.inl x :: .inr r :: st) K I F b Q := ex_puti 1 d_Drf_append_40 (ci := 2) rfl (by decide) rfl (by decide) rfl rfl rfl (inC_Drf _) (List.mem_cons_of_mem _ w_34) tyok_Drf nm_Drf rfl rfl hr ha k
theorem d_Drf_append_43 : decode prog_4_method_2_code 43 = .ok (.iconst 1, 1) := by decide +kernel
theorem s_Drf_append_43 {l0 l1 : Option ex_V} (k : ex_E Γ d M_Drf_append 44 [l0, l1] (.inl 1 :: st) K I F b Q) : ex_E Γ d M_Drf_append 43 [l0, l1] (st) K I F b Q := ex_iconst d_Drf_append_43 (by decide +kernel) k
theorem d_Drf_append_44 : decode prog_4_method_2_code 44 = .ok (.ireturn, 1) := by decide +kernel
theorem s_Drf_append_44 {l0 l1 : Option ex_V} {x : Int32} (hn : narrow .boolean (.int x) = .int x) (hq : Q (some (.inl x)) K I F) : ex_E Γ d M_Drf_append 44 [l0, l1] ([.inl x]) K I F b Q := ex_zret d_Drf_append_44 rfl hn hq
theorem d_Drf_takeControl_0 : decode prog_4_method_3_code 0 = .ok (.new 19, 3) := by decide +kernel
theorem s_Drf_takeControl_0 {l0 l1 l2 l3 : Option ex_V} (k : ∀ a, (K a).1 = 0 → ex_E Γ d M_Drf_takeControl 3 [l0, l1, l2, l3] (.inr (some a) :: st) (ex_nk K a 2 0) (ex_ni I a) (ex_nr F a) b Q) : ex_E Γ d M_Drf_takeControl 0 [l0, l1, l2, l3] (st) K I F (b + 1) Q := ex_new (ci := 1) ty_Ctl d_Drf_takeControl_0 rfl (by decide) rfl (by decide) tyok_Ctl df_Ctl (inC_Ctl _) (List.mem_cons_of_mem _ w_278) (List.mem_cons_of_mem _ w_82) (List.mem_cons_of_mem _ w_6) k
theorem d_Drf_takeControl_3 : decode prog_4_method_3_code 3 = .ok (.dup, 1) := by decide +kernel
theorem s_Drf_takeControl_3 {l0 l1 l2 l3 : Option ex_V} {u : ex_V} (k : ex_E Γ d M_Drf_takeControl 4 [l0, l1, l2, l3] (u :: u :: st) K I F b Q) : ex_E Γ d M_Drf_takeControl 3 [l0, l1, l2, l3] (u :: st) K I F b Q := ex_dup d_Drf_takeControl_3 k
theorem d_Drf_takeControl_4 : decode prog_4_method_3_code 4 = .ok (.invokespecial 21, 3) := by decide +kernel
theorem s_Drf_takeControl_4 {l0 l1 l2 l3 : Option ex_V} {r : Option Nat} {a : Nat} {b1 b2 : Nat} {Q1 : Option ex_V → ex_K → ex_I → ex_F → Prop} (hr : r = some a) (h : ex_E Γ d M_Ctl_init 0 [some (.inr (some a))] [] K I F b1 Q1) (kk : ∀ r K' I' F', Q1 r K' I' F' → ex_E Γ (d + 1) M_Drf_takeControl 7 [l0, l1, l2, l3] (r.toList ++ st) K' I' F' b2 Q) (hbb : b1 + b2 ≤ b) (hst : st.length ≤ 8 := by first | exact Nat.le_of_ble_eq_true rfl | simp) : ex_E Γ (d + 1) M_Drf_takeControl 4 [l0, l1, l2, l3] (.inr r :: st) K I F b Q := by
  subst hr
  exact ex_callI (Mc := M_Ctl_init) (n := 0) (av := []) d_Drf_takeControl_4 (by decide) rfl rfl (by decide) rfl rfl (ex_good w_85) (List.mem_cons_of_mem _ w_279) (List.mem_cons_of_mem _ w_6) (List.mem_cons_of_mem _ w_84) ⟨by decide +kernel, by decide +kernel, by decide +kernel⟩ rfl (Nat.le_of_ble_eq_true rfl) hst h hbb kk
theorem d_Drf_takeControl_7 : decode prog_4_method_3_code 7 = .ok (.astore_n 1, 1) := by decide +kernel
theorem s_Drf_takeControl_7 {l0 l1 l2 l3 : Option ex_V} {r : Option Nat} (k : ex_E Γ d M_Drf_takeControl 8 [l0, some (.inr r), l2, l3] (st) K I F b Q) : ex_E Γ d M_Drf_takeControl 7 [l0, l1, l2, l3] (.inr r :: st) K I F b Q := ex_astore_n d_Drf_takeControl_7 (Nat.le_of_ble_eq_true rfl) k
theorem d_Drf_takeControl_8 : decode prog_4_method_3_code 8 = .ok (.iconst 0, 1) := by decide +kernel
theorem s_Drf_takeControl_8 {l0 l1 l2 l3 : Option ex_V} (k : ex_E Γ d M_Drf_takeControl 9 [l0, l1, l2, l3] (.inl 0 :: st) K I F b Q) : ex_E Γ d M_Drf_takeControl 8 [l0, l1, l2, l3] (st) K I F b Q := ex_iconst d_Drf_takeControl_8 (by decide +kernel) k
theorem d_Drf_takeControl_9 : decode prog_4_method_3_code 9 = .ok (.istore_n 2, 1) := by decide +kernel
theorem s_Drf_takeControl_9 {l0 l1 l2 l3 : Option ex_V} {x : Int32} (k : ex_E Γ d M_Drf_takeControl 10 [l0, l1, some (.inl x), l3] (st) K I F b Q) : ex_E Γ d M_Drf_takeControl 9 [l0, l1, l2, l3] (.inl x :: st) K I F b Q := ex_istore_n d_Drf_takeControl_9 (Nat.le_of_ble_eq_true rfl) k
theorem d_Drf_takeControl_10 : decode prog_4_method_3_code 10 = .ok (.iconst 0, 1) := by decide +kernel
theorem s_Drf_takeControl_10 {l0 l1 l2 l3 : Option ex_V} (k : ex_E Γ d M_Drf_takeControl 11 [l0, l1, l2, l3] (.inl 0 :: st) K I F b Q) : ex_E Γ d M_Drf_takeControl 10 [l0, l1, l2, l3] (st) K I F b Q := ex_iconst d_Drf_takeControl_10 (by decide +kernel) k
theorem d_Drf_takeControl_11 : decode prog_4_method_3_code 11 = .ok (.istore_n 3, 1) := by decide +kernel
theorem s_Drf_takeControl_11 {l0 l1 l2 l3 : Option ex_V} {x : Int32} (k : ex_E Γ d M_Drf_takeControl 12 [l0, l1, l2, some (.inl x)] (st) K I F b Q) : ex_E Γ d M_Drf_takeControl 11 [l0, l1, l2, l3] (.inl x :: st) K I F b Q := ex_istore_n d_Drf_takeControl_11 (Nat.le_of_ble_eq_true rfl) k
theorem d_Drf_takeControl_12 : decode prog_4_method_3_code 12 = .ok (.iload_n 3, 1) := by decide +kernel
theorem s_Drf_takeControl_12 {l0 l1 l2 : Option ex_V} {x : Int32} (k : ex_E Γ d M_Drf_takeControl 13 [l0, l1, l2, some (.inl x)] (.inl x :: st) K I F b Q) : ex_E Γ d M_Drf_takeControl 12 [l0, l1, l2, some (.inl x)] (st) K I F b Q := ex_iload_n d_Drf_takeControl_12 rfl k
theorem d_Drf_takeControl_13 : decode prog_4_method_3_code 13 = .ok (.aload_n 0, 1) := by decide +kernel
theorem s_Drf_takeControl_13 {l1 l2 l3 : Option ex_V} {r : Option Nat} (k : ex_E Γ d M_Drf_takeControl 14 [some (.inr r), l1, l2, l3] (.inr r :: st) K I F b Q) : ex_E Γ d M_Drf_takeControl 13 [some (.inr r), l1, l2, l3] (st) K I F b Q := ex_aload_n d_Drf_takeControl_13 rfl k
theorem d_Drf_takeControl_14 : decode prog_4_method_3_code 14 = .ok (.getfield 15, 3) := by decide +kernel
theorem s_Drf_takeControl_14 {l0 l1 l2 l3 : Option ex_V} {r : Option Nat} {a : Nat} (hr : r = some a) (ha : (K a).1 = 3) (k : ex_E Γ d M_Drf_takeControl 17 [l0, l1, l2, l3] (.inl (I 229 a 0) :: st) K I F b Q) : ex_E Γ d M_Drf_takeControl 14 [l0, l1, l2, l3] (.inr r :: st) K I F b Q := ex_get 1 d_Drf_takeControl_14 (ci := 2) rfl (by decide) rfl (by decide) rfl (inC_Drf _) (List.mem_cons_of_mem _ w_34) rfl hr ha k
theorem d_Drf_takeControl_17 : decode prog_4_method_3_code 17 = .ok (.if_icmp .gt 39, 3) := by decide +kernel
theorem s_Drf_takeControl_17 {l0 l1 l2 l3 : Option ex_V} {x y : Int32} (kt : y < x → ex_E Γ d M_Drf_takeControl 56 [l0, l1, l2, l3] (st) K I F b Q) (kf : ¬ y < x → ex_E Γ d M_Drf_takeControl 20 [l0, l1, l2, l3] (st) K I F b Q) : ex_E Γ d M_Drf_takeControl 17 [l0, l1, l2, l3] (.inl y :: .inl x :: st) K I F b Q := ex_icmp_gt d_Drf_takeControl_17 (by decide) kt kf
theorem d_Drf_takeControl_20 : decode prog_4_method_3_code 20 = .ok (.iload_n 3, 1) := by decide +kernel
theorem s_Drf_takeControl_20 {l0 l1 l2 : Option ex_V} {x : Int32} (k : ex_E Γ d M_Drf_takeControl 21 [l0, l1, l2, some (.inl x)] (.inl x :: st) K I F b Q) : ex_E Γ d M_Drf_takeControl 20 [l0, l1, l2, some (.inl x)] (st) K I F b Q := ex_iload_n d_Drf_takeControl_20 rfl k
theorem d_Drf_takeControl_21 : decode prog_4_method_3_code 21 = .ok (.aload_n 0, 1) := by decide +kernel
theorem s_Drf_takeControl_21 {l1 l2 l3 : Option ex_V} {r : Option Nat} (k : ex_E Γ d M_Drf_takeControl 22 [some (.inr r), l1, l2, l3] (.inr r :: st) K I F b Q) : ex_E Γ d M_Drf_takeControl 21 [some (.inr r), l1, l2, l3] (st) K I F b Q := ex_aload_n d_Drf_takeControl_21 rfl k
theorem d_Drf_takeControl_22 : decode prog_4_method_3_code 22 = .ok (.getfield 15, 3) := by decide +kernel
theorem s_Drf_takeControl_22 {l0 l1 l2 l3 : Option ex_V} {r : Option Nat} {a : Nat} (hr : r = some a) (ha : (K a).1 = 3) (k : ex_E Γ d M_Drf_takeControl 25 [l0, l1, l2, l3] (.inl (I 229 a 0) :: st) K I F b Q) : ex_E Γ d M_Drf_takeControl 22 [l0, l1, l2, l3] (.inr r :: st) K I F b Q := ex_get 1 d_Drf_takeControl_22 (ci := 2) rfl (by decide) rfl (by decide) rfl (inC_Drf _) (List.mem_cons_of_mem _ w_34) rfl hr ha k
theorem d_Drf_takeControl_25 : decode prog_4_method_3_code 25 = .ok (.if_icmp .eq 14, 3) := by decide +kernel
theorem s_Drf_takeControl_25 {l0 l1 l2 l3 : Option ex_V} {x y : Int32} (kt : x = y → ex_E Γ d M_Drf_takeControl 39 [l0, l1, l2, l3] (st) K I F b Q) (kf : ¬ x = y → ex_E Γ d M_Drf_takeControl 28 [l0, l1, l2, l3] (st) K I F b Q) : ex_E Γ d M_Drf_takeControl 25 [l0, l1, l2, l3] (.inl y :: .inl x :: st) K I F b Q := ex_icmp_eq d_Drf_takeControl_25 (by decide) kt kf
theorem d_Drf_takeControl_28 : decode prog_4_method_3_code 28 = .ok (.aload_n 0, 1) := by decide +kernel
theorem s_Drf_takeControl_28 {l1 l2 l3 : Option ex_V} {r : Option Nat} (k : ex_E Γ d M_Drf_takeControl 29 [some (.inr r), l1, l2, l3] (.inr r :: st) K I F b Q) : ex_E Γ d M_Drf_takeControl 28 [some (.inr r), l1, l2, l3] (st) K I F b Q := ex_aload_n d_Drf_takeControl_28 rfl k
theorem d_Drf_takeControl_29 : decode prog_4_method_3_code 29 = .ok (.getfield 11, 3) := by decide +kernel
theorem s_Drf_takeControl_29 {l0 l1 l2 l3 : Option ex_V} {r : Option Nat} {a : Nat} (hr : r = some a) (ha : (K a).1 = 3) (k : ex_E Γ d M_Drf_takeControl 32 [l0, l1, l2, l3] (.inr (F 228 a 0) :: st) K I F b Q) : ex_E Γ d M_Drf_takeControl 29 [l0, l1, l2, l3] (.inr r :: st) K I F b Q := ex_get 0 d_Drf_takeControl_29 (ci := 2) rfl (by decide) rfl (by decide) rfl (inC_Drf _) (List.mem_cons_of_mem _ w_33) rfl hr ha k
theorem d_Drf_takeControl_32 : decode prog_4_method_3_code 32 = .ok (.iload_n 3, 1) := by decide +kernel
theorem s_Drf_takeControl_32 {l0 l1 l2 : Option ex_V} {x : Int32} (k : ex_E Γ d M_Drf_takeControl 33 [l0, l1, l2, some (.inl x)] (.inl x :: st) K I F b Q) : ex_E Γ d M_Drf_takeControl 32 [l0, l1, l2, some (.inl x)] (st) K I F b Q := ex_iload_n d_Drf_takeControl_32 rfl k
theorem d_Drf_takeControl_33 : decode prog_4_method_3_code 33 = .ok (.caload, 1) := by decide +kernel
theorem s_Drf_takeControl_33 {l0 l1 l2 l3 : Option ex_V} {r : Option Nat} {a : Nat} {i : Int32} (hr : r = some a) (ha : (K a).1 = 22) (hi : vp_in i (K a).2) (k : ex_E Γ d M_Drf_takeControl 34 [l0, l1, l2, l3] (.inl (I 22 a i.toNatClampNeg) :: st) K I F b Q) : ex_E Γ d M_Drf_takeControl 33 [l0, l1, l2, l3] (.inl i :: .inr r :: st) K I F b Q := ex_caload d_Drf_takeControl_33 hr ha hi k
theorem d_Drf_takeControl_34 : decode prog_4_method_3_code 34 = .ok (.bipush 44, 2) := by decide +kernel
theorem s_Drf_takeControl_34 {l0 l1 l2 l3 : Option ex_V} (k : ex_E Γ d M_Drf_takeControl 36 [l0, l1, l2, l3] (.inl 44 :: st) K I F b Q) : ex_E Γ d M_Drf_takeControl 34 [l0, l1, l2, l3] (st) K I F b Q := ex_bipush d_Drf_takeControl_34 (by decide +kernel) k
theorem d_Drf_takeControl_36 : decode prog_4_method_3_code 36 = .ok (.if_icmp .ne 14, 3) := by decide +kernel
theorem s_Drf_takeControl_36 {l0 l1 l2 l3 : Option ex_V} {x y : Int32} (kt : ¬ x = y → ex_E Γ d M_Drf_takeControl 50 [l0, l1, l2, l3] (st) K I F b Q) (kf : x = y → ex_E Γ d M_Drf_takeControl 39 [l0, l1, l2, l3] (st) K I F b Q) : ex_E Γ d M_Drf_takeControl 36 [l0, l1, l2, l3] (.inl y :: .inl x :: st) K I F b Q := ex_icmp_ne d_Drf_takeControl_36 (by decide) kt kf
theorem d_Drf_takeControl_39 : decode prog_4_method_3_code 39 = .ok (.aload_n 0, 1) := by decide +kernel
theorem s_Drf_takeControl_39 {l1 l2 l3 : Option ex_V} {r : Option Nat} (k : ex_E Γ d M_Drf_takeControl 40 [some (.inr r), l1, l2, l3] (.inr r :: st) K I F b Q) : ex_E Γ d M_Drf_takeControl 39 [some (.inr r), l1, l2, l3] (st) K I F b Q := ex_aload_n d_Drf_takeControl_39 rfl k
theorem d_Drf_takeControl_40 : decode prog_4_method_3_code 40 = .ok (.aload_n 1, 1) := by decide +kernel
theorem s_Drf_takeControl_40 {l0 l2 l3 : Option ex_V} {r : Option Nat} (k : ex_E Γ d M_Drf_takeControl 41 [l0, some (.inr r), l2, l3] (.inr r :: st) K I F b Q) : ex_E Γ d M_Drf_takeControl 40 [l0, some (.inr r), l2, l3] (st) K I F b Q := ex_aload_n d_Drf_takeControl_40 rfl k
theorem d_Drf_takeControl_41 : decode prog_4_method_3_code 41 = .ok (.iload_n 2, 1) := by decide +kernel
theorem s_Drf_takeControl_41 {l0 l1 l3 : Option ex_V} {x : Int32} (k : ex_E Γ d M_Drf_takeControl 42 [l0, l1, some (.inl x), l3] (.inl x :: st) K I F b Q) : ex_E Γ d M_Drf_takeControl 41 [l0, l1, some (.inl x), l3] (st) K I F b Q := ex_iload_n d_Drf_takeControl_41 rfl k
theorem d_Drf_takeControl_42 : decode prog_4_method_3_code 42 = .ok (.iload_n 3, 1) := by decide +kernel
theorem s_Drf_takeControl_42 {l0 l1 l2 : Option ex_V} {x : Int32} (k : ex_E Γ d M_Drf_takeControl 43 [l0, l1, l2, some (.inl x)] (.inl x :: st) K I F b Q) : ex_E Γ d M_Drf_takeControl 42 [l0, l1, l2, some (.inl x)] (st) K I F b Q := ex_iload_n d_Drf_takeControl_42 rfl k
theorem d_Drf_takeControl_43 : decode prog_4_method_3_code 43 = .ok (.invokevirtual 22, 3) := by decide +kernel
theorem s_Drf_takeControl_43 {l0 l1 l2 l3 : Option ex_V} {r : Option Nat} {a : Nat} {x0 : Option Nat} {x1 : Int32} {x2 : Int32} {b1 b2 : Nat} {Q1 : Option ex_V → ex_K → ex_I → ex_F → Prop} (hr : r = some a) (ha : (K a).1 = 3) (h : ex_E Γ d M_Drf_readElement 0 [some (.inr (some a)), some (.inr x0), some (.inl x1), some (.inl x2), none, none, none, none, none] [] K I F b1 Q1) (kk : ∀ r K' I' F', Q1 r K' I' F' → ex_E Γ (d + 1) M_Drf_takeControl 46 [l0, l1, l2, l3] (r.toList ++ st) K' I' F' b2 Q) (hbb : b1 + b2 ≤ b) (hst : st.length ≤ 8 := by first | exact Nat.le_of_ble_eq_true rfl | simp) : ex_E Γ (d + 1) M_Drf_takeControl 43 [l0, l1, l2, l3] (.inl x2 :: .inl x1 :: .inr x0 :: .inr r :: st) K I F b Q := by
  subst hr
  exact ex_callV (Mc := M_Drf_readElement) (n := 3) (av := [.inr x0, .inl x1, .inl x2]) (ci := 2) d_Drf_takeControl_43 (by decide) rfl rfl (by decide) rfl (by decide) (ex_good w_283) (List.mem_cons_of_mem _ w_280) (List.mem_cons_of_mem _ w_2) (List.mem_cons_of_mem _ w_282) (List.mem_cons_of_mem _ ws_0) ⟨by decide +kernel, by decide +kernel, by decide +kernel⟩ rfl (Nat.le_of_ble_eq_true rfl) hst ha h hbb kk
theorem d_Drf_takeControl_46 : decode prog_4_method_3_code 46 = .ok (.iload_n 3, 1) := by decide +kernel
theorem s_Drf_takeControl_46 {l0 l1 l2 : Option ex_V} {x : Int32} (k : ex_E Γ d M_Drf_takeControl 47 [l0, l1, l2, some (.inl x)] (.inl x :: st) K I F b Q) : ex_E Γ d M_Drf_takeControl 46 [l0, l1, l2, some (.inl x)] (st) K I F b Q := ex_iload_n d_Drf_takeControl_46 rfl k
theorem d_Drf_takeControl_47 : decode prog_4_method_3_code 47 = .ok (.iconst 1, 1) := by decide +kernel
theorem s_Drf_takeControl_47 {l0 l1 l2 l3 : Option ex_V} (k : ex_E Γ d M_Drf_takeControl 48 [l0, l1, l2, l3] (.inl 1 :: st) K I F b Q) : ex_E Γ d M_Drf_takeControl 47 [l0, l1, l2, l3] (st) K I F b Q := ex_iconst d_Drf_takeControl_47 (by decide +kernel) k
theorem d_Drf_takeControl_48 : decode prog_4_method_3_code 48 = .ok (.iadd, 1) := by decide +kernel
theorem s_Drf_takeControl_48 {l0 l1 l2 l3 : Option ex_V} {x y : Int32} (k : ex_E Γ d M_Drf_takeControl 49 [l0, l1, l2, l3] (.inl (x + y) :: st) K I F b Q) : ex_E Γ d M_Drf_takeControl 48 [l0, l1, l2, l3] (.inl y :: .inl x :: st) K I F b Q := ex_iadd d_Drf_takeControl_48 k
theorem d_Drf_takeControl_49 : decode prog_4_method_3_code 49 = .ok (.istore_n 2, 1) := by decide +kernel
theorem s_Drf_takeControl_49 {l0 l1 l2 l3 : Option ex_V} {x : Int32} (k : ex_E Γ d M_Drf_takeControl 50 [l0, l1, some (.inl x), l3] (st) K I F b Q) : ex_E Γ d M_Drf_takeControl 49 [l0, l1, l2, l3] (.inl x :: st) K I F b Q := ex_istore_n d_Drf_takeControl_49 (Nat.le_of_ble_eq_true rfl) k
theorem d_Drf_takeControl_50 : decode prog_4_method_3_code 50 = .ok (.iinc 3 1, 3) := by decide +kernel
theorem s_Drf_takeControl_50 {l0 l1 l2 : Option ex_V} {x : Int32} (k : ex_E Γ d M_Drf_takeControl 53 [l0, l1, l2, some (.inl (x + 1))] (st) K I F b Q) : ex_E Γ d M_Drf_takeControl 50 [l0, l1, l2, some (.inl x)] (st) K I F b Q := ex_iinc (x := x) (v := x + 1) d_Drf_takeControl_50 rfl rfl (Nat.le_of_ble_eq_true rfl) k
theorem d_Drf_takeControl_53 : decode prog_4_method_3_code 53 = .ok (.goto (-41), 3) := by decide +kernel
theorem s_Drf_takeControl_53 {l0 l1 l2 l3 : Option ex_V} (k : ex_E Γ d M_Drf_takeControl 12 [l0, l1, l2, l3] (st) K I F b Q) : ex_E Γ d M_Drf_takeControl 53 [l0, l1, l2, l3] (st) K I F b Q := ex_goto d_Drf_takeControl_53 (by decide) k
theorem d_Drf_takeControl_56 : decode prog_4_method_3_code 56 = .ok (.aload_n 0, 1) := by decide +kernel
theorem s_Drf_takeControl_56 {l1 l2 l3 : Option ex_V} {r : Option Nat} (k : ex_E Γ d M_Drf_takeControl 57 [some (.inr r), l1, l2, l3] (.inr r :: st) K I F b Q) : ex_E Γ d M_Drf_takeControl 56 [some (.inr r), l1, l2, l3] (st) K I F b Q := ex_aload_n d_Drf_takeControl_56 rfl k
theorem d_Drf_takeControl_57 : decode prog_4_method_3_code 57 = .ok (.iconst 0, 1) := by decide +kernel
theorem s_Drf_takeControl_57 {l0 l1 l2 l3 : Option ex_V} (k : ex_E Γ d M_Drf_takeControl 58 [l0, l1, l2, l3] (.inl 0 :: st) K I F b Q) : ex_E Γ d M_Drf_takeControl 57 [l0, l1, l2, l3] (st) K I F b Q := ex_iconst d_Drf_takeControl_57 (by decide +kernel) k
theorem d_Drf_takeControl_58 : decode prog_4_method_3_code 58 = .ok (.putfield 15, 3) := by decide +kernel
theorem s_Drf_takeControl_58 {l0 l1 l2 l3 : Option ex_V} {r : Option Nat} {a : Nat} {x : Int32} (hr : r = some a) (ha : (K a).1 = 3) (k : ex_E Γ d M_Drf_takeControl 61 [l0, l1, l2, l3] (st) K (ex_ui I 229 a 0 x) F b Q) : ex_E Γ d M_Drf_takeControl 58 [l0, l1, l2, l3] (.inl x :: .inr r :: st) K I F b Q := ex_puti 1 d_Drf_takeControl_58 (ci := 2) rfl (by decide) rfl (by decide) rfl rfl rfl (inC_Drf _) (List.mem_cons_of_mem _ w_34) tyok_Drf nm_Drf rfl rfl hr ha k
theorem d_Drf_takeControl_61 : decode prog_4_method_3_code 61 = .ok (.aload_n 1, 1) := by decide +kernel
theorem s_Drf_takeControl_61 {l0 l2 l3 : Option ex_V} {r : Option Nat} (k : ex_E Γ d M_Drf_takeControl 62 [l0, some (.inr r), l2, l3] (.inr r :: st) K I F b Q) : ex_E Γ d M_Drf_takeControl 61 [l0, some (.inr r), l2, l3] (st) K I F b Q := ex_aload_n d_Drf_takeControl_61 rfl k
theorem d_Drf_takeControl_62 : decode prog_4_method_3_code 62 = .ok (.areturn, 1) := by decide +kernel
theorem s_Drf_takeControl_62 {l0 l1 l2 l3 : Option ex_V} {r : Option Nat} (hq : Q (some (.inr r)) K I F) : ex_E Γ d M_Drf_takeControl 62 [l0, l1, l2, l3] ([.inr r]) K I F b Q := ex_aret (C := "FrontCache$Control") d_Drf_takeControl_62 rfl hq
theorem d_Drf_readElement_0 : decode prog_4_method_4_code 0 = .ok (.iload_n 2, 1) := by decide +kernel
theorem s_Drf_readElement_0 {l0 l1 l3 l4 l5 l6 l7 l8 : Option ex_V} {x : Int32} (k : ex_E Γ d M_Drf_readElement 1 [l0, l1, some (.inl x), l3, l4, l5, l6, l7, l8] (.inl x :: st) K I F b Q) : ex_E Γ d M_Drf_readElement 0 [l0, l1, some (.inl x), l3, l4, l5, l6, l7, l8] (st) K I F b Q := ex_iload_n d_Drf_readElement_0 rfl k
theorem d_Drf_readElement_1 : decode prog_4_method_4_code 1 = .ok (.istore 4, 2) := by decide +kernel
theorem s_Drf_readElement_1 {l0 l1 l2 l3 l4 l5 l6 l7 l8 : Option ex_V} {x : Int32} (k : ex_E Γ d M_Drf_readElement 3 [l0, l1, l2, l3, some (.inl x), l5, l6, l7, l8] (st) K I F b Q) : ex_E Γ d M_Drf_readElement 1 [l0, l1, l2, l3, l4, l5, l6, l7, l8] (.inl x :: st) K I F b Q := ex_istore d_Drf_readElement_1 (Nat.le_of_ble_eq_true rfl) k
theorem d_Drf_readElement_3 : decode prog_4_method_4_code 3 = .ok (.iload 4, 2) := by decide +kernel
theorem s_Drf_readElement_3 {l0 l1 l2 l3 l5 l6 l7 l8 : Option ex_V} {x : Int32} (k : ex_E Γ d M_Drf_readElement 5 [l0, l1, l2, l3, some (.inl x), l5, l6, l7, l8] (.inl x :: st) K I F b Q) : ex_E Γ d M_Drf_readElement 3 [l0, l1, l2, l3, some (.inl x), l5, l6, l7, l8] (st) K I F b Q := ex_iload d_Drf_readElement_3 rfl k
theorem d_Drf_readElement_5 : decode prog_4_method_4_code 5 = .ok (.iload_n 3, 1) := by decide +kernel
theorem s_Drf_readElement_5 {l0 l1 l2 l4 l5 l6 l7 l8 : Option ex_V} {x : Int32} (k : ex_E Γ d M_Drf_readElement 6 [l0, l1, l2, some (.inl x), l4, l5, l6, l7, l8] (.inl x :: st) K I F b Q) : ex_E Γ d M_Drf_readElement 5 [l0, l1, l2, some (.inl x), l4, l5, l6, l7, l8] (st) K I F b Q := ex_iload_n d_Drf_readElement_5 rfl k
theorem d_Drf_readElement_6 : decode prog_4_method_4_code 6 = .ok (.if_icmp .ge 21, 3) := by decide +kernel
theorem s_Drf_readElement_6 {l0 l1 l2 l3 l4 l5 l6 l7 l8 : Option ex_V} {x y : Int32} (kt : y ≤ x → ex_E Γ d M_Drf_readElement 27 [l0, l1, l2, l3, l4, l5, l6, l7, l8] (st) K I F b Q) (kf : ¬ y ≤ x → ex_E Γ d M_Drf_readElement 9 [l0, l1, l2, l3, l4, l5, l6, l7, l8] (st) K I F b Q) : ex_E Γ d M_Drf_readElement 6 [l0, l1, l2, l3, l4, l5, l6, l7, l8] (.inl y :: .inl x :: st) K I F b Q := ex_icmp_ge d_Drf_readElement_6 (by decide) kt kf
theorem d_Drf_readElement_9 : decode prog_4_method_4_code 9 = .ok (.aload_n 0, 1) := by decide +kernel
theorem s_Drf_readElement_9 {l1 l2 l3 l4 l5 l6 l7 l8 : Option ex_V} {r : Option Nat} (k : ex_E Γ d M_Drf_readElement 10 [some (.inr r), l1, l2, l3, l4, l5, l6, l7, l8] (.inr r :: st) K I F b Q) : ex_E Γ d M_Drf_readElement 9 [some (.inr r), l1, l2, l3, l4, l5, l6, l7, l8] (st) K I F b Q := ex_aload_n d_Drf_readElement_9 rfl k
theorem d_Drf_readElement_10 : decode prog_4_method_4_code 10 = .ok (.getfield 11, 3) := by decide +kernel
theorem s_Drf_readElement_10 {l0 l1 l2 l3 l4 l5 l6 l7 l8 : Option ex_V} {r : Option Nat} {a : Nat} (hr : r = some a) (ha : (K a).1 = 3) (k : ex_E Γ d M_Drf_readElement 13 [l0, l1, l2, l3, l4, l5, l6, l7, l8] (.inr (F 228 a 0) :: st) K I F b Q) : ex_E Γ d M_Drf_readElement 10 [l0, l1, l2, l3, l4, l5, l6, l7, l8] (.inr r :: st) K I F b Q := ex_get 0 d_Drf_readElement_10 (ci := 2) rfl (by decide) rfl (by decide) rfl (inC_Drf _) (List.mem_cons_of_mem _ w_33) rfl hr ha k
theorem d_Drf_readElement_13 : decode prog_4_method_4_code 13 = .ok (.iload 4, 2) := by decide +kernel
theorem s_Drf_readElement_13 {l0 l1 l2 l3 l5 l6 l7 l8 : Option ex_V} {x : Int32} (k : ex_E Γ d M_Drf_readElement 15 [l0, l1, l2, l3, some (.inl x), l5, l6, l7, l8] (.inl x :: st) K I F b Q) : ex_E Γ d M_Drf_readElement 13 [l0, l1, l2, l3, some (.inl x), l5, l6, l7, l8] (st) K I F b Q := ex_iload d_Drf_readElement_13 rfl k
theorem d_Drf_readElement_15 : decode prog_4_method_4_code 15 = .ok (.caload, 1) := by decide +kernel
theorem s_Drf_readElement_15 {l0 l1 l2 l3 l4 l5 l6 l7 l8 : Option ex_V} {r : Option Nat} {a : Nat} {i : Int32} (hr : r = some a) (ha : (K a).1 = 22) (hi : vp_in i (K a).2) (k : ex_E Γ d M_Drf_readElement 16 [l0, l1, l2, l3, l4, l5, l6, l7, l8] (.inl (I 22 a i.toNatClampNeg) :: st) K I F b Q) : ex_E Γ d M_Drf_readElement 15 [l0, l1, l2, l3, l4, l5, l6, l7, l8] (.inl i :: .inr r :: st) K I F b Q := ex_caload d_Drf_readElement_15 hr ha hi k
theorem d_Drf_readElement_16 : decode prog_4_method_4_code 16 = .ok (.bipush 32, 2) := by decide +kernel
theorem s_Drf_readElement_16 {l0 l1 l2 l3 l4 l5 l6 l7 l8 : Option ex_V} (k : ex_E Γ d M_Drf_readElement 18 [l0, l1, l2, l3, l4, l5, l6, l7, l8] (.inl 32 :: st) K I F b Q) : ex_E Γ d M_Drf_readElement 16 [l0, l1, l2, l3, l4, l5, l6, l7, l8] (st) K I F b Q := ex_bipush d_Drf_readElement_16 (by decide +kernel) k
theorem d_Drf_readElement_18 : decode prog_4_method_4_code 18 = .ok (.if_icmp .ne 9, 3) := by decide +kernel
theorem s_Drf_readElement_18 {l0 l1 l2 l3 l4 l5 l6 l7 l8 : Option ex_V} {x y : Int32} (kt : ¬ x = y → ex_E Γ d M_Drf_readElement 27 [l0, l1, l2, l3, l4, l5, l6, l7, l8] (st) K I F b Q) (kf : x = y → ex_E Γ d M_Drf_readElement 21 [l0, l1, l2, l3, l4, l5, l6, l7, l8] (st) K I F b Q) : ex_E Γ d M_Drf_readElement 18 [l0, l1, l2, l3, l4, l5, l6, l7, l8] (.inl y :: .inl x :: st) K I F b Q := ex_icmp_ne d_Drf_readElement_18 (by decide) kt kf
theorem d_Drf_readElement_21 : decode prog_4_method_4_code 21 = .ok (.iinc 4 1, 3) := by decide +kernel
theorem s_Drf_readElement_21 {l0 l1 l2 l3 l5 l6 l7 l8 : Option ex_V} {x : Int32} (k : ex_E Γ d M_Drf_readElement 24 [l0, l1, l2, l3, some (.inl (x + 1)), l5, l6, l7, l8] (st) K I F b Q) : ex_E Γ d M_Drf_readElement 21 [l0, l1, l2, l3, some (.inl x), l5, l6, l7, l8] (st) K I F b Q := ex_iinc (x := x) (v := x + 1) d_Drf_readElement_21 rfl rfl (Nat.le_of_ble_eq_true rfl) k
theorem d_Drf_readElement_24 : decode prog_4_method_4_code 24 = .ok (.goto (-21), 3) := by decide +kernel
theorem s_Drf_readElement_24 {l0 l1 l2 l3 l4 l5 l6 l7 l8 : Option ex_V} (k : ex_E Γ d M_Drf_readElement 3 [l0, l1, l2, l3, l4, l5, l6, l7, l8] (st) K I F b Q) : ex_E Γ d M_Drf_readElement 24 [l0, l1, l2, l3, l4, l5, l6, l7, l8] (st) K I F b Q := ex_goto d_Drf_readElement_24 (by decide) k
theorem d_Drf_readElement_27 : decode prog_4_method_4_code 27 = .ok (.iload_n 3, 1) := by decide +kernel
theorem s_Drf_readElement_27 {l0 l1 l2 l4 l5 l6 l7 l8 : Option ex_V} {x : Int32} (k : ex_E Γ d M_Drf_readElement 28 [l0, l1, l2, some (.inl x), l4, l5, l6, l7, l8] (.inl x :: st) K I F b Q) : ex_E Γ d M_Drf_readElement 27 [l0, l1, l2, some (.inl x), l4, l5, l6, l7, l8] (st) K I F b Q := ex_iload_n d_Drf_readElement_27 rfl k
theorem d_Drf_readElement_28 : decode prog_4_method_4_code 28 = .ok (.istore 5, 2) := by decide +kernel
theorem s_Drf_readElement_28 {l0 l1 l2 l3 l4 l5 l6 l7 l8 : Option ex_V} {x : Int32} (k : ex_E Γ d M_Drf_readElement 30 [l0, l1, l2, l3, l4, some (.inl x), l6, l7, l8] (st) K I F b Q) : ex_E Γ d M_Drf_readElement 28 [l0, l1, l2, l3, l4, l5, l6, l7, l8] (.inl x :: st) K I F b Q := ex_istore d_Drf_readElement_28 (Nat.le_of_ble_eq_true rfl) k
theorem d_Drf_readElement_30 : decode prog_4_method_4_code 30 = .ok (.iload 5, 2) := by decide +kernel
theorem s_Drf_readElement_30 {l0 l1 l2 l3 l4 l6 l7 l8 : Option ex_V} {x : Int32} (k : ex_E Γ d M_Drf_readElement 32 [l0, l1, l2, l3, l4, some (.inl x), l6, l7, l8] (.inl x :: st) K I F b Q) : ex_E Γ d M_Drf_readElement 30 [l0, l1, l2, l3, l4, some (.inl x), l6, l7, l8] (st) K I F b Q := ex_iload d_Drf_readElement_30 rfl k
theorem d_Drf_readElement_32 : decode prog_4_method_4_code 32 = .ok (.iload 4, 2) := by decide +kernel
theorem s_Drf_readElement_32 {l0 l1 l2 l3 l5 l6 l7 l8 : Option ex_V} {x : Int32} (k : ex_E Γ d M_Drf_readElement 34 [l0, l1, l2, l3, some (.inl x), l5, l6, l7, l8] (.inl x :: st) K I F b Q) : ex_E Γ d M_Drf_readElement 32 [l0, l1, l2, l3, some (.inl x), l5, l6, l7, l8] (st) K I F b Q := ex_iload d_Drf_readElement_32 rfl k
theorem d_Drf_readElement_34 : decode prog_4_method_4_code 34 = .ok (.if_icmp .le 23, 3) := by decide +kernel
theorem s_Drf_readElement_34 {l0 l1 l2 l3 l4 l5 l6 l7 l8 : Option ex_V} {x y : Int32} (kt : x ≤ y → ex_E Γ d M_Drf_readElement 57 [l0, l1, l2, l3, l4, l5, l6, l7, l8] (st) K I F b Q) (kf : ¬ x ≤ y → ex_E Γ d M_Drf_readElement 37 [l0, l1, l2, l3, l4, l5, l6, l7, l8] (st) K I F b Q) : ex_E Γ d M_Drf_readElement 34 [l0, l1, l2, l3, l4, l5, l6, l7, l8] (.inl y :: .inl x :: st) K I F b Q := ex_icmp_le d_Drf_readElement_34 (by decide) kt kf
theorem d_Drf_readElement_37 : decode prog_4_method_4_code 37 = .ok (.aload_n 0, 1) := by decide +kernel
theorem s_Drf_readElement_37 {l1 l2 l3 l4 l5 l6 l7 l8 : Option ex_V} {r : Option Nat} (k : ex_E Γ d M_Drf_readElement 38 [some (.inr r), l1, l2, l3, l4, l5, l6, l7, l8] (.inr r :: st) K I F b Q) : ex_E Γ d M_Drf_readElement 37 [some (.inr r), l1, l2, l3, l4, l5, l6, l7, l8] (st) K I F b Q := ex_aload_n d_Drf_readElement_37 rfl k
theorem d_Drf_readElement_38 : decode prog_4_method_4_code 38 = .ok (.getfield 11, 3) := by decide +kernel
theorem s_Drf_readElement_38 {l0 l1 l2 l3 l4 l5 l6 l7 l8 : Option ex_V} {r : Option Nat} {a : Nat} (hr : r = some a) (ha : (K a).1 = 3) (k : ex_E Γ d M_Drf_readElement 41 [l0, l1, l2, l3, l4, l5, l6, l7, l8] (.inr (F 228 a 0) :: st) K I F b Q) : ex_E Γ d M_Drf_readElement 38 [l0, l1, l2, l3, l4, l5, l6, l7, l8] (.inr r :: st) K I F b Q := ex_get 0 d_Drf_readElement_38 (ci := 2) rfl (by decide) rfl (by decide) rfl (inC_Drf _) (List.mem_cons_of_mem _ w_33) rfl hr ha k
theorem d_Drf_readElement_41 : decode prog_4_method_4_code 41 = .ok (.iload 5, 2) := by decide +kernel
theorem s_Drf_readElement_41 {l0 l1 l2 l3 l4 l6 l7 l8 : Option ex_V} {x : Int32} (k : ex_E Γ d M_Drf_readElement 43 [l0, l1, l2, l3, l4, some (.inl x), l6, l7, l8] (.inl x :: st) K I F b Q) : ex_E Γ d M_Drf_readElement 41 [l0, l1, l2, l3, l4, some (.inl x), l6, l7, l8] (st) K I F b Q := ex_iload d_Drf_readElement_41 rfl k
theorem d_Drf_readElement_43 : decode prog_4_method_4_code 43 = .ok (.iconst 1, 1) := by decide +kernel
theorem s_Drf_readElement_43 {l0 l1 l2 l3 l4 l5 l6 l7 l8 : Option ex_V} (k : ex_E Γ d M_Drf_readElement 44 [l0, l1, l2, l3, l4, l5, l6, l7, l8] (.inl 1 :: st) K I F b Q) : ex_E Γ d M_Drf_readElement 43 [l0, l1, l2, l3, l4, l5, l6, l7, l8] (st) K I F b Q := ex_iconst d_Drf_readElement_43 (by decide +kernel) k
theorem d_Drf_readElement_44 : decode prog_4_method_4_code 44 = .ok (.isub, 1) := by decide +kernel
theorem s_Drf_readElement_44 {l0 l1 l2 l3 l4 l5 l6 l7 l8 : Option ex_V} {x y : Int32} (k : ex_E Γ d M_Drf_readElement 45 [l0, l1, l2, l3, l4, l5, l6, l7, l8] (.inl (x - y) :: st) K I F b Q) : ex_E Γ d M_Drf_readElement 44 [l0, l1, l2, l3, l4, l5, l6, l7, l8] (.inl y :: .inl x :: st) K I F b Q := ex_isub d_Drf_readElement_44 k
theorem d_Drf_readElement_45 : decode prog_4_method_4_code 45 = .ok (.caload, 1) := by decide +kernel
theorem s_Drf_readElement_45 {l0 l1 l2 l3 l4 l5 l6 l7 l8 : Option ex_V} {r : Option Nat} {a : Nat} {i : Int32} (hr : r = some a) (ha : (K a).1 = 22) (hi : vp_in i (K a).2) (k : ex_E Γ d M_Drf_readElement 46 [l0, l1, l2, l3, l4, l5, l6, l7, l8] (.inl (I 22 a i.toNatClampNeg) :: st) K I F b Q) : ex_E Γ d M_Drf_readElement 45 [l0, l1, l2, l3, l4, l5, l6, l7, l8] (.inl i :: .inr r :: st) K I F b Q := ex_caload d_Drf_readElement_45 hr ha hi k
theorem d_Drf_readElement_46 : decode prog_4_method_4_code 46 = .ok (.bipush 32, 2) := by decide +kernel
theorem s_Drf_readElement_46 {l0 l1 l2 l3 l4 l5 l6 l7 l8 : Option ex_V} (k : ex_E Γ d M_Drf_readElement 48 [l0, l1, l2, l3, l4, l5, l6, l7, l8] (.inl 32 :: st) K I F b Q) : ex_E Γ d M_Drf_readElement 46 [l0, l1, l2, l3, l4, l5, l6, l7, l8] (st) K I F b Q := ex_bipush d_Drf_readElement_46 (by decide +kernel) k
theorem d_Drf_readElement_48 : decode prog_4_method_4_code 48 = .ok (.if_icmp .ne 9, 3) := by decide +kernel
theorem s_Drf_readElement_48 {l0 l1 l2 l3 l4 l5 l6 l7 l8 : Option ex_V} {x y : Int32} (kt : ¬ x = y → ex_E Γ d M_Drf_readElement 57 [l0, l1, l2, l3, l4, l5, l6, l7, l8] (st) K I F b Q) (kf : x = y → ex_E Γ d M_Drf_readElement 51 [l0, l1, l2, l3, l4, l5, l6, l7, l8] (st) K I F b Q) : ex_E Γ d M_Drf_readElement 48 [l0, l1, l2, l3, l4, l5, l6, l7, l8] (.inl y :: .inl x :: st) K I F b Q := ex_icmp_ne d_Drf_readElement_48 (by decide) kt kf
theorem d_Drf_readElement_51 : decode prog_4_method_4_code 51 = .ok (.iinc 5 (-1), 3) := by decide +kernel
theorem s_Drf_readElement_51 {l0 l1 l2 l3 l4 l6 l7 l8 : Option ex_V} {x : Int32} (k : ex_E Γ d M_Drf_readElement 54 [l0, l1, l2, l3, l4, some (.inl (x + (-1))), l6, l7, l8] (st) K I F b Q) : ex_E Γ d M_Drf_readElement 51 [l0, l1, l2, l3, l4, some (.inl x), l6, l7, l8] (st) K I F b Q := ex_iinc (x := x) (v := x + (-1)) d_Drf_readElement_51 rfl rfl (Nat.le_of_ble_eq_true rfl) k
theorem d_Drf_readElement_54 : decode prog_4_method_4_code 54 = .ok (.goto (-24), 3) := by decide +kernel
theorem s_Drf_readElement_54 {l0 l1 l2 l3 l4 l5 l6 l7 l8 : Option ex_V} (k : ex_E Γ d M_Drf_readElement 30 [l0, l1, l2, l3, l4, l5, l6, l7, l8] (st) K I F b Q) : ex_E Γ d M_Drf_readElement 54 [l0, l1, l2, l3, l4, l5, l6, l7, l8] (st) K I F b Q := ex_goto d_Drf_readElement_54 (by decide) k
theorem d_Drf_readElement_57 : decode prog_4_method_4_code 57 = .ok (.iload 4, 2) := by decide +kernel
theorem s_Drf_readElement_57 {l0 l1 l2 l3 l5 l6 l7 l8 : Option ex_V} {x : Int32} (k : ex_E Γ d M_Drf_readElement 59 [l0, l1, l2, l3, some (.inl x), l5, l6, l7, l8] (.inl x :: st) K I F b Q) : ex_E Γ d M_Drf_readElement 57 [l0, l1, l2, l3, some (.inl x), l5, l6, l7, l8] (st) K I F b Q := ex_iload d_Drf_readElement_57 rfl k
theorem d_Drf_readElement_59 : decode prog_4_method_4_code 59 = .ok (.istore 6, 2) := by decide +kernel
theorem s_Drf_readElement_59 {l0 l1 l2 l3 l4 l5 l6 l7 l8 : Option ex_V} {x : Int32} (k : ex_E Γ d M_Drf_readElement 61 [l0, l1, l2, l3, l4, l5, some (.inl x), l7, l8] (st) K I F b Q) : ex_E Γ d M_Drf_readElement 59 [l0, l1, l2, l3, l4, l5, l6, l7, l8] (.inl x :: st) K I F b Q := ex_istore d_Drf_readElement_59 (Nat.le_of_ble_eq_true rfl) k
theorem d_Drf_readElement_61 : decode prog_4_method_4_code 61 = .ok (.iload 6, 2) := by decide +kernel
theorem s_Drf_readElement_61 {l0 l1 l2 l3 l4 l5 l7 l8 : Option ex_V} {x : Int32} (k : ex_E Γ d M_Drf_readElement 63 [l0, l1, l2, l3, l4, l5, some (.inl x), l7, l8] (.inl x :: st) K I F b Q) : ex_E Γ d M_Drf_readElement 61 [l0, l1, l2, l3, l4, l5, some (.inl x), l7, l8] (st) K I F b Q := ex_iload d_Drf_readElement_61 rfl k
theorem d_Drf_readElement_63 : decode prog_4_method_4_code 63 = .ok (.iload 5, 2) := by decide +kernel
theorem s_Drf_readElement_63 {l0 l1 l2 l3 l4 l6 l7 l8 : Option ex_V} {x : Int32} (k : ex_E Γ d M_Drf_readElement 65 [l0, l1, l2, l3, l4, some (.inl x), l6, l7, l8] (.inl x :: st) K I F b Q) : ex_E Γ d M_Drf_readElement 63 [l0, l1, l2, l3, l4, some (.inl x), l6, l7, l8] (st) K I F b Q := ex_iload d_Drf_readElement_63 rfl k
theorem d_Drf_readElement_65 : decode prog_4_method_4_code 65 = .ok (.if_icmp .ge 22, 3) := by decide +kernel
theorem s_Drf_readElement_65 {l0 l1 l2 l3 l4 l5 l6 l7 l8 : Option ex_V} {x y : Int32} (kt : y ≤ x → ex_E Γ d M_Drf_readElement 87 [l0, l1, l2, l3, l4, l5, l6, l7, l8] (st) K I F b Q) (kf : ¬ y ≤ x → ex_E Γ d M_Drf_readElement 68 [l0, l1, l2, l3, l4, l5, l6, l7, l8] (st) K I F b Q) : ex_E Γ d M_Drf_readElement 65 [l0, l1, l2, l3, l4, l5, l6, l7, l8] (.inl y :: .inl x :: st) K I F b Q := ex_icmp_ge d_Drf_readElement_65 (by decide) kt kf
theorem d_Drf_readElement_68 : decode prog_4_method_4_code 68 = .ok (.aload_n 0, 1) := by decide +kernel
theorem s_Drf_readElement_68 {l1 l2 l3 l4 l5 l6 l7 l8 : Option ex_V} {r : Option Nat} (k : ex_E Γ d M_Drf_readElement 69 [some (.inr r), l1, l2, l3, l4, l5, l6, l7, l8] (.inr r :: st) K I F b Q) : ex_E Γ d M_Drf_readElement 68 [some (.inr r), l1, l2, l3, l4, l5, l6, l7, l8] (st) K I F b Q := ex_aload_n d_Drf_readElement_68 rfl k
theorem d_Drf_readElement_69 : decode prog_4_method_4_code 69 = .ok (.getfield 11, 3) := by decide +kernel
theorem s_Drf_readElement_69 {l0 l1 l2 l3 l4 l5 l6 l7 l8 : Option ex_V} {r : Option Nat} {a : Nat} (hr : r = some a) (ha : (K a).1 = 3) (k : ex_E Γ d M_Drf_readElement 72 [l0, l1, l2, l3, l4, l5, l6, l7, l8] (.inr (F 228 a 0) :: st) K I F b Q) : ex_E Γ d M_Drf_readElement 69 [l0, l1, l2, l3, l4, l5, l6, l7, l8] (.inr r :: st) K I F b Q := ex_get 0 d_Drf_readElement_69 (ci := 2) rfl (by decide) rfl (by decide) rfl (inC_Drf _) (List.mem_cons_of_mem _ w_33) rfl hr ha k
theorem d_Drf_readElement_72 : decode prog_4_method_4_code 72 = .ok (.iload 6, 2) := by decide +kernel
theorem s_Drf_readElement_72 {l0 l1 l2 l3 l4 l5 l7 l8 : Option ex_V} {x : Int32} (k : ex_E Γ d M_Drf_readElement 74 [l0, l1, l2, l3, l4, l5, some (.inl x), l7, l8] (.inl x :: st) K I F b Q) : ex_E Γ d M_Drf_readElement 72 [l0, l1, l2, l3, l4, l5, some (.inl x), l7, l8] (st) K I F b Q := ex_iload d_Drf_readElement_72 rfl k
theorem d_Drf_readElement_74 : decode prog_4_method_4_code 74 = .ok (.caload, 1) := by decide +kernel
theorem s_Drf_readElement_74 {l0 l1 l2 l3 l4 l5 l6 l7 l8 : Option ex_V} {r : Option Nat} {a : Nat} {i : Int32} (hr : r = some a) (ha : (K a).1 = 22) (hi : vp_in i (K a).2) (k : ex_E Γ d M_Drf_readElement 75 [l0, l1, l2, l3, l4, l5, l6, l7, l8] (.inl (I 22 a i.toNatClampNeg) :: st) K I F b Q) : ex_E Γ d M_Drf_readElement 74 [l0, l1, l2, l3, l4, l5, l6, l7, l8] (.inl i :: .inr r :: st) K I F b Q := ex_caload d_Drf_readElement_74 hr ha hi k
theorem d_Drf_readElement_75 : decode prog_4_method_4_code 75 = .ok (.invokestatic 26, 3) := by decide +kernel
theorem s_Drf_readElement_75 {l0 l1 l2 l3 l4 l5 l6 l7 l8 : Option ex_V} {x0 : Int32} {b1 b2 : Nat} {Q1 : Option ex_V → ex_K → ex_I → ex_F → Prop} (h : ex_E Γ d M_Drf_isOfName 0 [some (.inl x0)] [] K I F b1 Q1) (kk : ∀ r K' I' F', Q1 r K' I' F' → ex_E Γ (d + 1) M_Drf_readElement 78 [l0, l1, l2, l3, l4, l5, l6, l7, l8] (r.toList ++ st) K' I' F' b2 Q) (hbb : b1 + b2 ≤ b) (hst : st.length ≤ 8 := by first | exact Nat.le_of_ble_eq_true rfl | simp) : ex_E Γ (d + 1) M_Drf_readElement 75 [l0, l1, l2, l3, l4, l5, l6, l7, l8] (.inl x0 :: st) K I F b Q := by
  exact ex_callS (Mc := M_Drf_isOfName) (n := 1) (av := [.inl x0]) d_Drf_readElement_75 (by decide) rfl rfl (by decide) (ex_good w_286) (List.mem_cons_of_mem _ w_284) (List.mem_cons_of_mem _ w_2) (List.mem_cons_of_mem _ w_285) ⟨by decide +kernel, by decide +kernel, by decide +kernel⟩ rfl (Nat.le_of_ble_eq_true rfl) hst h hbb kk
theorem d_Drf_readElement_78 : decode prog_4_method_4_code 78 = .ok (.ifCond .eq 9, 3) := by decide +kernel
theorem s_Drf_readElement_78 {l0 l1 l2 l3 l4 l5 l6 l7 l8 : Option ex_V} {x : Int32} (kt : x = 0 → ex_E Γ d M_Drf_readElement 87 [l0, l1, l2, l3, l4, l5, l6, l7, l8] (st) K I F b Q) (kf : ¬ x = 0 → ex_E Γ d M_Drf_readElement 81 [l0, l1, l2, l3, l4, l5, l6, l7, l8] (st) K I F b Q) : ex_E Γ d M_Drf_readElement 78 [l0, l1, l2, l3, l4, l5, l6, l7, l8] (.inl x :: st) K I F b Q := ex_if_eq d_Drf_readElement_78 (by decide) kt kf
theorem d_Drf_readElement_81 : decode prog_4_method_4_code 81 = .ok (.iinc 6 1, 3) := by decide +kernel
theorem s_Drf_readElement_81 {l0 l1 l2 l3 l4 l5 l7 l8 : Option ex_V} {x : Int32} (k : ex_E Γ d M_Drf_readElement 84 [l0, l1, l2, l3, l4, l5, some (.inl (x + 1)), l7, l8] (st) K I F b Q) : ex_E Γ d M_Drf_readElement 81 [l0, l1, l2, l3, l4, l5, some (.inl x), l7, l8] (st) K I F b Q := ex_iinc (x := x) (v := x + 1) d_Drf_readElement_81 rfl rfl (Nat.le_of_ble_eq_true rfl) k
theorem d_Drf_readElement_84 : decode prog_4_method_4_code 84 = .ok (.goto (-23), 3) := by decide +kernel
theorem s_Drf_readElement_84 {l0 l1 l2 l3 l4 l5 l6 l7 l8 : Option ex_V} (k : ex_E Γ d M_Drf_readElement 61 [l0, l1, l2, l3, l4, l5, l6, l7, l8] (st) K I F b Q) : ex_E Γ d M_Drf_readElement 84 [l0, l1, l2, l3, l4, l5, l6, l7, l8] (st) K I F b Q := ex_goto d_Drf_readElement_84 (by decide) k
theorem d_Drf_readElement_87 : decode prog_4_method_4_code 87 = .ok (.iload 6, 2) := by decide +kernel
theorem s_Drf_readElement_87 {l0 l1 l2 l3 l4 l5 l7 l8 : Option ex_V} {x : Int32} (k : ex_E Γ d M_Drf_readElement 89 [l0, l1, l2, l3, l4, l5, some (.inl x), l7, l8] (.inl x :: st) K I F b Q) : ex_E Γ d M_Drf_readElement 87 [l0, l1, l2, l3, l4, l5, some (.inl x), l7, l8] (st) K I F b Q := ex_iload d_Drf_readElement_87 rfl k
theorem d_Drf_readElement_89 : decode prog_4_method_4_code 89 = .ok (.iload 5, 2) := by decide +kernel
theorem s_Drf_readElement_89 {l0 l1 l2 l3 l4 l6 l7 l8 : Option ex_V} {x : Int32} (k : ex_E Γ d M_Drf_readElement 91 [l0, l1, l2, l3, l4, some (.inl x), l6, l7, l8] (.inl x :: st) K I F b Q) : ex_E Γ d M_Drf_readElement 89 [l0, l1, l2, l3, l4, some (.inl x), l6, l7, l8] (st) K I F b Q := ex_iload d_Drf_readElement_89 rfl k
theorem d_Drf_readElement_91 : decode prog_4_method_4_code 91 = .ok (.if_icmp .ne 7, 3) := by decide +kernel
theorem s_Drf_readElement_91 {l0 l1 l2 l3 l4 l5 l6 l7 l8 : Option ex_V} {x y : Int32} (kt : ¬ x = y → ex_E Γ d M_Drf_readElement 98 [l0, l1, l2, l3, l4, l5, l6, l7, l8] (st) K I F b Q) (kf : x = y → ex_E Γ d M_Drf_readElement 94 [l0, l1, l2, l3, l4, l5, l6, l7, l8] (st) K I F b Q) : ex_E Γ d M_Drf_readElement 91 [l0, l1, l2, l3, l4, l5, l6, l7, l8] (.inl y :: .inl x :: st) K I F b Q := ex_icmp_ne d_Drf_readElement_91 (by decide) kt kf
theorem d_Drf_readElement_94 : decode prog_4_method_4_code 94 = .ok (.iconst 0, 1) := by decide +kernel
theorem s_Drf_readElement_94 {l0 l1 l2 l3 l4 l5 l6 l7 l8 : Option ex_V} (k : ex_E Γ d M_Drf_readElement 95 [l0, l1, l2, l3, l4, l5, l6, l7, l8] (.inl 0 :: st) K I F b Q) : ex_E Γ d M_Drf_readElement 94 [l0, l1, l2, l3, l4, l5, l6, l7, l8] (st) K I F b Q := ex_iconst d_Drf_readElement_94 (by decide +kernel) k
theorem d_Drf_readElement_95 : decode prog_4_method_4_code 95 = .ok (.goto 11, 3) := by decide +kernel
theorem s_Drf_readElement_95 {l0 l1 l2 l3 l4 l5 l6 l7 l8 : Option ex_V} (k : ex_E Γ d M_Drf_readElement 106 [l0, l1, l2, l3, l4, l5, l6, l7, l8] (st) K I F b Q) : ex_E Γ d M_Drf_readElement 95 [l0, l1, l2, l3, l4, l5, l6, l7, l8] (st) K I F b Q := ex_goto d_Drf_readElement_95 (by decide) k
theorem d_Drf_readElement_98 : decode prog_4_method_4_code 98 = .ok (.aload_n 0, 1) := by decide +kernel
theorem s_Drf_readElement_98 {l1 l2 l3 l4 l5 l6 l7 l8 : Option ex_V} {r : Option Nat} (k : ex_E Γ d M_Drf_readElement 99 [some (.inr r), l1, l2, l3, l4, l5, l6, l7, l8] (.inr r :: st) K I F b Q) : ex_E Γ d M_Drf_readElement 98 [some (.inr r), l1, l2, l3, l4, l5, l6, l7, l8] (st) K I F b Q := ex_aload_n d_Drf_readElement_98 rfl k
theorem d_Drf_readElement_99 : decode prog_4_method_4_code 99 = .ok (.iload 6, 2) := by decide +kernel
theorem s_Drf_readElement_99 {l0 l1 l2 l3 l4 l5 l7 l8 : Option ex_V} {x : Int32} (k : ex_E Γ d M_Drf_readElement 101 [l0, l1, l2, l3, l4, l5, some (.inl x), l7, l8] (.inl x :: st) K I F b Q) : ex_E Γ d M_Drf_readElement 99 [l0, l1, l2, l3, l4, l5, some (.inl x), l7, l8] (st) K I F b Q := ex_iload d_Drf_readElement_99 rfl k
theorem d_Drf_readElement_101 : decode prog_4_method_4_code 101 = .ok (.iload 5, 2) := by decide +kernel
theorem s_Drf_readElement_101 {l0 l1 l2 l3 l4 l6 l7 l8 : Option ex_V} {x : Int32} (k : ex_E Γ d M_Drf_readElement 103 [l0, l1, l2, l3, l4, some (.inl x), l6, l7, l8] (.inl x :: st) K I F b Q) : ex_E Γ d M_Drf_readElement 101 [l0, l1, l2, l3, l4, some (.inl x), l6, l7, l8] (st) K I F b Q := ex_iload d_Drf_readElement_101 rfl k
theorem d_Drf_readElement_103 : decode prog_4_method_4_code 103 = .ok (.invokevirtual 30, 3) := by decide +kernel
theorem s_Drf_readElement_103 {l0 l1 l2 l3 l4 l5 l6 l7 l8 : Option ex_V} {r : Option Nat} {a : Nat} {x0 : Int32} {x1 : Int32} {b1 b2 : Nat} {Q1 : Option ex_V → ex_K → ex_I → ex_F → Prop} (hr : r = some a) (ha : (K a).1 = 3) (h : ex_E Γ d M_Drf_numberFrom 0 [some (.inr (some a)), some (.inl x0), some (.inl x1), none, none, none] [] K I F b1 Q1) (kk : ∀ r K' I' F', Q1 r K' I' F' → ex_E Γ (d + 1) M_Drf_readElement 106 [l0, l1, l2, l3, l4, l5, l6, l7, l8] (r.toList ++ st) K' I' F' b2 Q) (hbb : b1 + b2 ≤ b) (hst : st.length ≤ 8 := by first | exact Nat.le_of_ble_eq_true rfl | simp) : ex_E Γ (d + 1) M_Drf_readElement 103 [l0, l1, l2, l3, l4, l5, l6, l7, l8] (.inl x1 :: .inl x0 :: .inr r :: st) K I F b Q := by
  subst hr
  exact ex_callV (Mc := M_Drf_numberFrom) (n := 2) (av := [.inl x0, .inl x1]) (ci := 2) d_Drf_readElement_103 (by decide) rfl rfl (by decide) rfl (by decide) (ex_good w_290) (List.mem_cons_of_mem _ w_287) (List.mem_cons_of_mem _ w_2) (List.mem_cons_of_mem _ w_289) (List.mem_cons_of_mem _ ws_1) ⟨by decide +kernel, by decide +kernel, by decide +kernel⟩ rfl (Nat.le_of_ble_eq_true rfl) hst ha h hbb kk
theorem d_Drf_readElement_106 : decode prog_4_method_4_code 106 = .ok (.istore 7, 2) := by decide +kernel
theorem s_Drf_readElement_106 {l0 l1 l2 l3 l4 l5 l6 l7 l8 : Option ex_V} {x : Int32} (k : ex_E Γ d M_Drf_readElement 108 [l0, l1, l2, l3, l4, l5, l6, some (.inl x), l8] (st) K I F b Q) : ex_E Γ d M_Drf_readElement 106 [l0, l1, l2, l3, l4, l5, l6, l7, l8] (.inl x :: st) K I F b Q := ex_istore d_Drf_readElement_106 (Nat.le_of_ble_eq_true rfl) k
theorem d_Drf_readElement_108 : decode prog_4_method_4_code 108 = .ok (.aload_n 0, 1) := by decide +kernel
theorem s_Drf_readElement_108 {l1 l2 l3 l4 l5 l6 l7 l8 : Option ex_V} {r : Option Nat} (k : ex_E Γ d M_Drf_readElement 109 [some (.inr r), l1, l2, l3, l4, l5, l6, l7, l8] (.inr r :: st) K I F b Q) : ex_E Γ d M_Drf_readElement 108 [some (.inr r), l1, l2, l3, l4, l5, l6, l7, l8] (st) K I F b Q := ex_aload_n d_Drf_readElement_108 rfl k
theorem d_Drf_readElement_109 : decode prog_4_method_4_code 109 = .ok (.iload 4, 2) := by decide +kernel
theorem s_Drf_readElement_109 {l0 l1 l2 l3 l5 l6 l7 l8 : Option ex_V} {x : Int32} (k : ex_E Γ d M_Drf_readElement 111 [l0, l1, l2, l3, some (.inl x), l5, l6, l7, l8] (.inl x :: st) K I F b Q) : ex_E Γ d M_Drf_readElement 109 [l0, l1, l2, l3, some (.inl x), l5, l6, l7, l8] (st) K I F b Q := ex_iload d_Drf_readElement_109 rfl k
theorem d_Drf_readElement_111 : decode prog_4_method_4_code 111 = .ok (.iload 6, 2) := by decide +kernel
theorem s_Drf_readElement_111 {l0 l1 l2 l3 l4 l5 l7 l8 : Option ex_V} {x : Int32} (k : ex_E Γ d M_Drf_readElement 113 [l0, l1, l2, l3, l4, l5, some (.inl x), l7, l8] (.inl x :: st) K I F b Q) : ex_E Γ d M_Drf_readElement 111 [l0, l1, l2, l3, l4, l5, some (.inl x), l7, l8] (st) K I F b Q := ex_iload d_Drf_readElement_111 rfl k
theorem d_Drf_readElement_113 : decode prog_4_method_4_code 113 = .ok (.invokevirtual 34, 3) := by decide +kernel
theorem s_Drf_readElement_113 {l0 l1 l2 l3 l4 l5 l6 l7 l8 : Option ex_V} {r : Option Nat} {a : Nat} {x0 : Int32} {x1 : Int32} {b1 b2 : Nat} {Q1 : Option ex_V → ex_K → ex_I → ex_F → Prop} (hr : r = some a) (ha : (K a).1 = 3) (h : ex_E Γ d M_Drf_directiveAt 0 [some (.inr (some a)), some (.inl x0), some (.inl x1), none] [] K I F b1 Q1) (kk : ∀ r K' I' F', Q1 r K' I' F' → ex_E Γ (d + 1) M_Drf_readElement 116 [l0, l1, l2, l3, l4, l5, l6, l7, l8] (r.toList ++ st) K' I' F' b2 Q) (hbb : b1 + b2 ≤ b) (hst : st.length ≤ 8 := by first | exact Nat.le_of_ble_eq_true rfl | simp) : ex_E Γ (d + 1) M_Drf_readElement 113 [l0, l1, l2, l3, l4, l5, l6, l7, l8] (.inl x1 :: .inl x0 :: .inr r :: st) K I F b Q := by
  subst hr
  exact ex_callV (Mc := M_Drf_directiveAt) (n := 2) (av := [.inl x0, .inl x1]) (ci := 2) d_Drf_readElement_113 (by decide) rfl rfl (by decide) rfl (by decide) (ex_good w_294) (List.mem_cons_of_mem _ w_291) (List.mem_cons_of_mem _ w_2) (List.mem_cons_of_mem _ w_293) (List.mem_cons_of_mem _ ws_2) ⟨by decide +kernel, by decide +kernel, by decide +kernel⟩ rfl (Nat.le_of_ble_eq_true rfl) hst ha h hbb kk
theorem d_Drf_readElement_116 : decode prog_4_method_4_code 116 = .ok (.istore 8, 2) := by decide +kernel
theorem s_Drf_readElement_116 {l0 l1 l2 l3 l4 l5 l6 l7 l8 : Option ex_V} {x : Int32} (k : ex_E Γ d M_Drf_readElement 118 [l0, l1, l2, l3, l4, l5, l6, l7, some (.inl x)] (st) K I F b Q) : ex_E Γ d M_Drf_readElement 116 [l0, l1, l2, l3, l4, l5, l6, l7, l8] (.inl x :: st) K I F b Q := ex_istore d_Drf_readElement_116 (Nat.le_of_ble_eq_true rfl) k
theorem d_Drf_readElement_118 : decode prog_4_method_4_code 118 = .ok (.iload 7, 2) := by decide +kernel
theorem s_Drf_readElement_118 {l0 l1 l2 l3 l4 l5 l6 l8 : Option ex_V} {x : Int32} (k : ex_E Γ d M_Drf_readElement 120 [l0, l1, l2, l3, l4, l5, l6, some (.inl x), l8] (.inl x :: st) K I F b Q) : ex_E Γ d M_Drf_readElement 118 [l0, l1, l2, l3, l4, l5, l6, some (.inl x), l8] (st) K I F b Q := ex_iload d_Drf_readElement_118 rfl k
theorem d_Drf_readElement_120 : decode prog_4_method_4_code 120 = .ok (.iconst (-1), 1) := by decide +kernel
theorem s_Drf_readElement_120 {l0 l1 l2 l3 l4 l5 l6 l7 l8 : Option ex_V} (k : ex_E Γ d M_Drf_readElement 121 [l0, l1, l2, l3, l4, l5, l6, l7, l8] (.inl (-1) :: st) K I F b Q) : ex_E Γ d M_Drf_readElement 120 [l0, l1, l2, l3, l4, l5, l6, l7, l8] (st) K I F b Q := ex_iconst d_Drf_readElement_120 (by decide +kernel) k
theorem d_Drf_readElement_121 : decode prog_4_method_4_code 121 = .ok (.if_icmp .eq 17, 3) := by decide +kernel
theorem s_Drf_readElement_121 {l0 l1 l2 l3 l4 l5 l6 l7 l8 : Option ex_V} {x y : Int32} (kt : x = y → ex_E Γ d M_Drf_readElement 138 [l0, l1, l2, l3, l4, l5, l6, l7, l8] (st) K I F b Q) (kf : ¬ x = y → ex_E Γ d M_Drf_readElement 124 [l0, l1, l2, l3, l4, l5, l6, l7, l8] (st) K I F b Q) : ex_E Γ d M_Drf_readElement 121 [l0, l1, l2, l3, l4, l5, l6, l7, l8] (.inl y :: .inl x :: st) K I F b Q := ex_icmp_eq d_Drf_readElement_121 (by decide) kt kf
theorem d_Drf_readElement_124 : decode prog_4_method_4_code 124 = .ok (.iload 8, 2) := by decide +kernel
theorem s_Drf_readElement_124 {l0 l1 l2 l3 l4 l5 l6 l7 : Option ex_V} {x : Int32} (k : ex_E Γ d M_Drf_readElement 126 [l0, l1, l2, l3, l4, l5, l6, l7, some (.inl x)] (.inl x :: st) K I F b Q) : ex_E Γ d M_Drf_readElement 124 [l0, l1, l2, l3, l4, l5, l6, l7, some (.inl x)] (st) K I F b Q := ex_iload d_Drf_readElement_124 rfl k
theorem d_Drf_readElement_126 : decode prog_4_method_4_code 126 = .ok (.iconst (-1), 1) := by decide +kernel
theorem s_Drf_readElement_126 {l0 l1 l2 l3 l4 l5 l6 l7 l8 : Option ex_V} (k : ex_E Γ d M_Drf_readElement 127 [l0, l1, l2, l3, l4, l5, l6, l7, l8] (.inl (-1) :: st) K I F b Q) : ex_E Γ d M_Drf_readElement 126 [l0, l1, l2, l3, l4, l5, l6, l7, l8] (st) K I F b Q := ex_iconst d_Drf_readElement_126 (by decide +kernel) k
theorem d_Drf_readElement_127 : decode prog_4_method_4_code 127 = .ok (.if_icmp .eq 11, 3) := by decide +kernel
theorem s_Drf_readElement_127 {l0 l1 l2 l3 l4 l5 l6 l7 l8 : Option ex_V} {x y : Int32} (kt : x = y → ex_E Γ d M_Drf_readElement 138 [l0, l1, l2, l3, l4, l5, l6, l7, l8] (st) K I F b Q) (kf : ¬ x = y → ex_E Γ d M_Drf_readElement 130 [l0, l1, l2, l3, l4, l5, l6, l7, l8] (st) K I F b Q) : ex_E Γ d M_Drf_readElement 127 [l0, l1, l2, l3, l4, l5, l6, l7, l8] (.inl y :: .inl x :: st) K I F b Q := ex_icmp_eq d_Drf_readElement_127 (by decide) kt kf
theorem d_Drf_readElement_130 : decode prog_4_method_4_code 130 = .ok (.aload_n 1, 1) := by decide +kernel
theorem s_Drf_readElement_130 {l0 l2 l3 l4 l5 l6 l7 l8 : Option ex_V} {r : Option Nat} (k : ex_E Γ d M_Drf_readElement 131 [l0, some (.inr r), l2, l3, l4, l5, l6, l7, l8] (.inr r :: st) K I F b Q) : ex_E Γ d M_Drf_readElement 130 [l0, some (.inr r), l2, l3, l4, l5, l6, l7, l8] (st) K I F b Q := ex_aload_n d_Drf_readElement_130 rfl k
theorem d_Drf_readElement_131 : decode prog_4_method_4_code 131 = .ok (.iload 8, 2) := by decide +kernel
theorem s_Drf_readElement_131 {l0 l1 l2 l3 l4 l5 l6 l7 : Option ex_V} {x : Int32} (k : ex_E Γ d M_Drf_readElement 133 [l0, l1, l2, l3, l4, l5, l6, l7, some (.inl x)] (.inl x :: st) K I F b Q) : ex_E Γ d M_Drf_readElement 131 [l0, l1, l2, l3, l4, l5, l6, l7, some (.inl x)] (st) K I F b Q := ex_iload d_Drf_readElement_131 rfl k
theorem d_Drf_readElement_133 : decode prog_4_method_4_code 133 = .ok (.iload 7, 2) := by decide +kernel
theorem s_Drf_readElement_133 {l0 l1 l2 l3 l4 l5 l6 l8 : Option ex_V} {x : Int32} (k : ex_E Γ d M_Drf_readElement 135 [l0, l1, l2, l3, l4, l5, l6, some (.inl x), l8] (.inl x :: st) K I F b Q) : ex_E Γ d M_Drf_readElement 133 [l0, l1, l2, l3, l4, l5, l6, some (.inl x), l8] (st) K I F b Q := ex_iload d_Drf_readElement_133 rfl k
theorem d_Drf_readElement_135 : decode prog_4_method_4_code 135 = .ok (.invokevirtual 37, 3) := by decide +kernel
theorem s_Drf_readElement_135 {l0 l1 l2 l3 l4 l5 l6 l7 l8 : Option ex_V} {r : Option Nat} {a : Nat} {x0 : Int32} {x1 : Int32} {b1 b2 : Nat} {Q1 : Option ex_V → ex_K → ex_I → ex_F → Prop} (hr : r = some a) (ha : (K a).1 = 2) (h : ex_E Γ d M_Ctl_learn 0 [some (.inr (some a)), some (.inl x0), some (.inl x1)] [] K I F b1 Q1) (kk : ∀ r K' I' F', Q1 r K' I' F' → ex_E Γ (d + 1) M_Drf_readElement 138 [l0, l1, l2, l3, l4, l5, l6, l7, l8] (r.toList ++ st) K' I' F' b2 Q) (hbb : b1 + b2 ≤ b) (hst : st.length ≤ 8 := by first | exact Nat.le_of_ble_eq_true rfl | simp) : ex_E Γ (d + 1) M_Drf_readElement 135 [l0, l1, l2, l3, l4, l5, l6, l7, l8] (.inl x1 :: .inl x0 :: .inr r :: st) K I F b Q := by
  subst hr
  exact ex_callV (Mc := M_Ctl_learn) (n := 2) (av := [.inl x0, .inl x1]) (ci := 1) d_Drf_readElement_135 (by decide) rfl rfl (by decide) rfl (by decide) (ex_good w_360) (List.mem_cons_of_mem _ w_357) (List.mem_cons_of_mem _ w_6) (List.mem_cons_of_mem _ w_358) (List.mem_cons_of_mem _ w_359) ⟨by decide +kernel, by decide +kernel, by decide +kernel⟩ rfl (Nat.le_of_ble_eq_true rfl) hst ha h hbb kk
theorem d_Drf_readElement_138 : decode prog_4_method_4_code 138 = .ok (.return_, 1) := by decide +kernel
theorem s_Drf_readElement_138 {l0 l1 l2 l3 l4 l5 l6 l7 l8 : Option ex_V} (hq : Q none K I F) : ex_E Γ d M_Drf_readElement 138 [l0, l1, l2, l3, l4, l5, l6, l7, l8] ([]) K I F b Q := ex_vret d_Drf_readElement_138 rfl hq
theorem d_Drf_isOfName_0 : decode prog_4_method_5_code 0 = .ok (.iload_n 0, 1) := by decide +kernel
theorem s_Drf_isOfName_0 {x : Int32} (k : ex_E Γ d M_Drf_isOfName 1 [some (.inl x)] (.inl x :: st) K I F b Q) : ex_E Γ d M_Drf_isOfName 0 [some (.inl x)] (st) K I F b Q := ex_iload_n d_Drf_isOfName_0 rfl k
theorem d_Drf_isOfName_1 : decode prog_4_method_5_code 1 = .ok (.bipush 97, 2) := by decide +kernel
theorem s_Drf_isOfName_1 {l0 : Option ex_V} (k : ex_E Γ d M_Drf_isOfName 3 [l0] (.inl 97 :: st) K I F b Q) : ex_E Γ d M_Drf_isOfName 1 [l0] (st) K I F b Q := ex_bipush d_Drf_isOfName_1 (by decide +kernel) k
theorem d_Drf_isOfName_3 : decode prog_4_method_5_code 3 = .ok (.if_icmp .lt 9, 3) := by decide +kernel
theorem s_Drf_isOfName_3 {l0 : Option ex_V} {x y : Int32} (kt : x < y → ex_E Γ d M_Drf_isOfName 12 [l0] (st) K I F b Q) (kf : ¬ x < y → ex_E Γ d M_Drf_isOfName 6 [l0] (st) K I F b Q) : ex_E Γ d M_Drf_isOfName 3 [l0] (.inl y :: .inl x :: st) K I F b Q := ex_icmp_lt d_Drf_isOfName_3 (by decide) kt kf
theorem d_Drf_isOfName_6 : decode prog_4_method_5_code 6 = .ok (.iload_n 0, 1) := by decide +kernel
theorem s_Drf_isOfName_6 {x : Int32} (k : ex_E Γ d M_Drf_isOfName 7 [some (.inl x)] (.inl x :: st) K I F b Q) : ex_E Γ d M_Drf_isOfName 6 [some (.inl x)] (st) K I F b Q := ex_iload_n d_Drf_isOfName_6 rfl k
theorem d_Drf_isOfName_7 : decode prog_4_method_5_code 7 = .ok (.bipush 122, 2) := by decide +kernel
theorem s_Drf_isOfName_7 {l0 : Option ex_V} (k : ex_E Γ d M_Drf_isOfName 9 [l0] (.inl 122 :: st) K I F b Q) : ex_E Γ d M_Drf_isOfName 7 [l0] (st) K I F b Q := ex_bipush d_Drf_isOfName_7 (by decide +kernel) k
theorem d_Drf_isOfName_9 : decode prog_4_method_5_code 9 = .ok (.if_icmp .le 9, 3) := by decide +kernel
theorem s_Drf_isOfName_9 {l0 : Option ex_V} {x y : Int32} (kt : x ≤ y → ex_E Γ d M_Drf_isOfName 18 [l0] (st) K I F b Q) (kf : ¬ x ≤ y → ex_E Γ d M_Drf_isOfName 12 [l0] (st) K I F b Q) : ex_E Γ d M_Drf_isOfName 9 [l0] (.inl y :: .inl x :: st) K I F b Q := ex_icmp_le d_Drf_isOfName_9 (by decide) kt kf
theorem d_Drf_isOfName_12 : decode prog_4_method_5_code 12 = .ok (.iload_n 0, 1) := by decide +kernel
theorem s_Drf_isOfName_12 {x : Int32} (k : ex_E Γ d M_Drf_isOfName 13 [some (.inl x)] (.inl x :: st) K I F b Q) : ex_E Γ d M_Drf_isOfName 12 [some (.inl x)] (st) K I F b Q := ex_iload_n d_Drf_isOfName_12 rfl k
theorem d_Drf_isOfName_13 : decode prog_4_method_5_code 13 = .ok (.bipush 45, 2) := by decide +kernel
theorem s_Drf_isOfName_13 {l0 : Option ex_V} (k : ex_E Γ d M_Drf_isOfName 15 [l0] (.inl 45 :: st) K I F b Q) : ex_E Γ d M_Drf_isOfName 13 [l0] (st) K I F b Q := ex_bipush d_Drf_isOfName_13 (by decide +kernel) k
theorem d_Drf_isOfName_15 : decode prog_4_method_5_code 15 = .ok (.if_icmp .ne 7, 3) := by decide +kernel
theorem s_Drf_isOfName_15 {l0 : Option ex_V} {x y : Int32} (kt : ¬ x = y → ex_E Γ d M_Drf_isOfName 22 [l0] (st) K I F b Q) (kf : x = y → ex_E Γ d M_Drf_isOfName 18 [l0] (st) K I F b Q) : ex_E Γ d M_Drf_isOfName 15 [l0] (.inl y :: .inl x :: st) K I F b Q := ex_icmp_ne d_Drf_isOfName_15 (by decide) kt kf
theorem d_Drf_isOfName_18 : decode prog_4_method_5_code 18 = .ok (.iconst 1, 1) := by decide +kernel
theorem s_Drf_isOfName_18 {l0 : Option ex_V} (k : ex_E Γ d M_Drf_isOfName 19 [l0] (.inl 1 :: st) K I F b Q) : ex_E Γ d M_Drf_isOfName 18 [l0] (st) K I F b Q := ex_iconst d_Drf_isOfName_18 (by decide +kernel) k
theorem d_Drf_isOfName_19 : decode prog_4_method_5_code 19 = .ok (.goto 4, 3) := by decide +kernel
theorem s_Drf_isOfName_19 {l0 : Option ex_V} (k : ex_E Γ d M_Drf_isOfName 23 [l0] (st) K I F b Q) : ex_E Γ d M_Drf_isOfName 19 [l0] (st) K I F b Q := ex_goto d_Drf_isOfName_19 (by decide) k
theorem d_Drf_isOfName_22 : decode prog_4_method_5_code 22 = .ok (.iconst 0, 1) := by decide +kernel
theorem s_Drf_isOfName_22 {l0 : Option ex_V} (k : ex_E Γ d M_Drf_isOfName 23 [l0] (.inl 0 :: st) K I F b Q) : ex_E Γ d M_Drf_isOfName 22 [l0] (st) K I F b Q := ex_iconst d_Drf_isOfName_22 (by decide +kernel) k
theorem d_Drf_isOfName_23 : decode prog_4_method_5_code 23 = .ok (.ireturn, 1) := by decide +kernel
theorem s_Drf_isOfName_23 {l0 : Option ex_V} {x : Int32} (hn : narrow .boolean (.int x) = .int x) (hq : Q (some (.inl x)) K I F) : ex_E Γ d M_Drf_isOfName 23 [l0] ([.inl x]) K I F b Q := ex_zret d_Drf_isOfName_23 rfl hn hq
theorem d_Drf_numberFrom_0 : decode prog_4_method_6_code 0 = .ok (.iload_n 2, 1) := by decide +kernel
theorem s_Drf_numberFrom_0 {l0 l1 l3 l4 l5 : Option ex_V} {x : Int32} (k : ex_E Γ d M_Drf_numberFrom 1 [l0, l1, some (.inl x), l3, l4, l5] (.inl x :: st) K I F b Q) : ex_E Γ d M_Drf_numberFrom 0 [l0, l1, some (.inl x), l3, l4, l5] (st) K I F b Q := ex_iload_n d_Drf_numberFrom_0 rfl k
theorem d_Drf_numberFrom_1 : decode prog_4_method_6_code 1 = .ok (.iload_n 1, 1) := by decide +kernel
theorem s_Drf_numberFrom_1 {l0 l2 l3 l4 l5 : Option ex_V} {x : Int32} (k : ex_E Γ d M_Drf_numberFrom 2 [l0, some (.inl x), l2, l3, l4, l5] (.inl x :: st) K I F b Q) : ex_E Γ d M_Drf_numberFrom 1 [l0, some (.inl x), l2, l3, l4, l5] (st) K I F b Q := ex_iload_n d_Drf_numberFrom_1 rfl k
theorem d_Drf_numberFrom_2 : decode prog_4_method_6_code 2 = .ok (.isub, 1) := by decide +kernel
theorem s_Drf_numberFrom_2 {l0 l1 l2 l3 l4 l5 : Option ex_V} {x y : Int32} (k : ex_E Γ d M_Drf_numberFrom 3 [l0, l1, l2, l3, l4, l5] (.inl (x - y) :: st) K I F b Q) : ex_E Γ d M_Drf_numberFrom 2 [l0, l1, l2, l3, l4, l5] (.inl y :: .inl x :: st) K I F b Q := ex_isub d_Drf_numberFrom_2 k
theorem d_Drf_numberFrom_3 : decode prog_4_method_6_code 3 = .ok (.iconst 1, 1) := by decide +kernel
theorem s_Drf_numberFrom_3 {l0 l1 l2 l3 l4 l5 : Option ex_V} (k : ex_E Γ d M_Drf_numberFrom 4 [l0, l1, l2, l3, l4, l5] (.inl 1 :: st) K I F b Q) : ex_E Γ d M_Drf_numberFrom 3 [l0, l1, l2, l3, l4, l5] (st) K I F b Q := ex_iconst d_Drf_numberFrom_3 (by decide +kernel) k
theorem d_Drf_numberFrom_4 : decode prog_4_method_6_code 4 = .ok (.isub, 1) := by decide +kernel
theorem s_Drf_numberFrom_4 {l0 l1 l2 l3 l4 l5 : Option ex_V} {x y : Int32} (k : ex_E Γ d M_Drf_numberFrom 5 [l0, l1, l2, l3, l4, l5] (.inl (x - y) :: st) K I F b Q) : ex_E Γ d M_Drf_numberFrom 4 [l0, l1, l2, l3, l4, l5] (.inl y :: .inl x :: st) K I F b Q := ex_isub d_Drf_numberFrom_4 k
theorem d_Drf_numberFrom_5 : decode prog_4_method_6_code 5 = .ok (.istore_n 3, 1) := by decide +kernel
theorem s_Drf_numberFrom_5 {l0 l1 l2 l3 l4 l5 : Option ex_V} {x : Int32} (k : ex_E Γ d M_Drf_numberFrom 6 [l0, l1, l2, some (.inl x), l4, l5] (st) K I F b Q) : ex_E Γ d M_Drf_numberFrom 5 [l0, l1, l2, l3, l4, l5] (.inl x :: st) K I F b Q := ex_istore_n d_Drf_numberFrom_5 (Nat.le_of_ble_eq_true rfl) k
theorem d_Drf_numberFrom_6 : decode prog_4_method_6_code 6 = .ok (.aload_n 0, 1) := by decide +kernel
theorem s_Drf_numberFrom_6 {l1 l2 l3 l4 l5 : Option ex_V} {r : Option Nat} (k : ex_E Γ d M_Drf_numberFrom 7 [some (.inr r), l1, l2, l3, l4, l5] (.inr r :: st) K I F b Q) : ex_E Γ d M_Drf_numberFrom 6 [some (.inr r), l1, l2, l3, l4, l5] (st) K I F b Q := ex_aload_n d_Drf_numberFrom_6 rfl k
theorem d_Drf_numberFrom_7 : decode prog_4_method_6_code 7 = .ok (.getfield 11, 3) := by decide +kernel
theorem s_Drf_numberFrom_7 {l0 l1 l2 l3 l4 l5 : Option ex_V} {r : Option Nat} {a : Nat} (hr : r = some a) (ha : (K a).1 = 3) (k : ex_E Γ d M_Drf_numberFrom 10 [l0, l1, l2, l3, l4, l5] (.inr (F 228 a 0) :: st) K I F b Q) : ex_E Γ d M_Drf_numberFrom 7 [l0, l1, l2, l3, l4, l5] (.inr r :: st) K I F b Q := ex_get 0 d_Drf_numberFrom_7 (ci := 2) rfl (by decide) rfl (by decide) rfl (inC_Drf _) (List.mem_cons_of_mem _ w_33) rfl hr ha k
theorem d_Drf_numberFrom_10 : decode prog_4_method_6_code 10 = .ok (.iload_n 1, 1) := by decide +kernel
theorem s_Drf_numberFrom_10 {l0 l2 l3 l4 l5 : Option ex_V} {x : Int32} (k : ex_E Γ d M_Drf_numberFrom 11 [l0, some (.inl x), l2, l3, l4, l5] (.inl x :: st) K I F b Q) : ex_E Γ d M_Drf_numberFrom 10 [l0, some (.inl x), l2, l3, l4, l5] (st) K I F b Q := ex_iload_n d_Drf_numberFrom_10 rfl k
theorem d_Drf_numberFrom_11 : decode prog_4_method_6_code 11 = .ok (.caload, 1) := by decide +kernel
theorem s_Drf_numberFrom_11 {l0 l1 l2 l3 l4 l5 : Option ex_V} {r : Option Nat} {a : Nat} {i : Int32} (hr : r = some a) (ha : (K a).1 = 22) (hi : vp_in i (K a).2) (k : ex_E Γ d M_Drf_numberFrom 12 [l0, l1, l2, l3, l4, l5] (.inl (I 22 a i.toNatClampNeg) :: st) K I F b Q) : ex_E Γ d M_Drf_numberFrom 11 [l0, l1, l2, l3, l4, l5] (.inl i :: .inr r :: st) K I F b Q := ex_caload d_Drf_numberFrom_11 hr ha hi k
theorem d_Drf_numberFrom_12 : decode prog_4_method_6_code 12 = .ok (.bipush 61, 2) := by decide +kernel
theorem s_Drf_numberFrom_12 {l0 l1 l2 l3 l4 l5 : Option ex_V} (k : ex_E Γ d M_Drf_numberFrom 14 [l0, l1, l2, l3, l4, l5] (.inl 61 :: st) K I F b Q) : ex_E Γ d M_Drf_numberFrom 12 [l0, l1, l2, l3, l4, l5] (st) K I F b Q := ex_bipush d_Drf_numberFrom_12 (by decide +kernel) k
theorem d_Drf_numberFrom_14 : decode prog_4_method_6_code 14 = .ok (.if_icmp .ne 13, 3) := by decide +kernel
theorem s_Drf_numberFrom_14 {l0 l1 l2 l3 l4 l5 : Option ex_V} {x y : Int32} (kt : ¬ x = y → ex_E Γ d M_Drf_numberFrom 27 [l0, l1, l2, l3, l4, l5] (st) K I F b Q) (kf : x = y → ex_E Γ d M_Drf_numberFrom 17 [l0, l1, l2, l3, l4, l5] (st) K I F b Q) : ex_E Γ d M_Drf_numberFrom 14 [l0, l1, l2, l3, l4, l5] (.inl y :: .inl x :: st) K I F b Q := ex_icmp_ne d_Drf_numberFrom_14 (by decide) kt kf
theorem d_Drf_numberFrom_17 : decode prog_4_method_6_code 17 = .ok (.iload_n 3, 1) := by decide +kernel
theorem s_Drf_numberFrom_17 {l0 l1 l2 l4 l5 : Option ex_V} {x : Int32} (k : ex_E Γ d M_Drf_numberFrom 18 [l0, l1, l2, some (.inl x), l4, l5] (.inl x :: st) K I F b Q) : ex_E Γ d M_Drf_numberFrom 17 [l0, l1, l2, some (.inl x), l4, l5] (st) K I F b Q := ex_iload_n d_Drf_numberFrom_17 rfl k
theorem d_Drf_numberFrom_18 : decode prog_4_method_6_code 18 = .ok (.iconst 1, 1) := by decide +kernel
theorem s_Drf_numberFrom_18 {l0 l1 l2 l3 l4 l5 : Option ex_V} (k : ex_E Γ d M_Drf_numberFrom 19 [l0, l1, l2, l3, l4, l5] (.inl 1 :: st) K I F b Q) : ex_E Γ d M_Drf_numberFrom 18 [l0, l1, l2, l3, l4, l5] (st) K I F b Q := ex_iconst d_Drf_numberFrom_18 (by decide +kernel) k
theorem d_Drf_numberFrom_19 : decode prog_4_method_6_code 19 = .ok (.if_icmp .lt 8, 3) := by decide +kernel
theorem s_Drf_numberFrom_19 {l0 l1 l2 l3 l4 l5 : Option ex_V} {x y : Int32} (kt : x < y → ex_E Γ d M_Drf_numberFrom 27 [l0, l1, l2, l3, l4, l5] (st) K I F b Q) (kf : ¬ x < y → ex_E Γ d M_Drf_numberFrom 22 [l0, l1, l2, l3, l4, l5] (st) K I F b Q) : ex_E Γ d M_Drf_numberFrom 19 [l0, l1, l2, l3, l4, l5] (.inl y :: .inl x :: st) K I F b Q := ex_icmp_lt d_Drf_numberFrom_19 (by decide) kt kf
theorem d_Drf_numberFrom_22 : decode prog_4_method_6_code 22 = .ok (.iload_n 3, 1) := by decide +kernel
theorem s_Drf_numberFrom_22 {l0 l1 l2 l4 l5 : Option ex_V} {x : Int32} (k : ex_E Γ d M_Drf_numberFrom 23 [l0, l1, l2, some (.inl x), l4, l5] (.inl x :: st) K I F b Q) : ex_E Γ d M_Drf_numberFrom 22 [l0, l1, l2, some (.inl x), l4, l5] (st) K I F b Q := ex_iload_n d_Drf_numberFrom_22 rfl k
theorem d_Drf_numberFrom_23 : decode prog_4_method_6_code 23 = .ok (.iconst 5, 1) := by decide +kernel
theorem s_Drf_numberFrom_23 {l0 l1 l2 l3 l4 l5 : Option ex_V} (k : ex_E Γ d M_Drf_numberFrom 24 [l0, l1, l2, l3, l4, l5] (.inl 5 :: st) K I F b Q) : ex_E Γ d M_Drf_numberFrom 23 [l0, l1, l2, l3, l4, l5] (st) K I F b Q := ex_iconst d_Drf_numberFrom_23 (by decide +kernel) k
theorem d_Drf_numberFrom_24 : decode prog_4_method_6_code 24 = .ok (.if_icmp .le 5, 3) := by decide +kernel
theorem s_Drf_numberFrom_24 {l0 l1 l2 l3 l4 l5 : Option ex_V} {x y : Int32} (kt : x ≤ y → ex_E Γ d M_Drf_numberFrom 29 [l0, l1, l2, l3, l4, l5] (st) K I F b Q) (kf : ¬ x ≤ y → ex_E Γ d M_Drf_numberFrom 27 [l0, l1, l2, l3, l4, l5] (st) K I F b Q) : ex_E Γ d M_Drf_numberFrom 24 [l0, l1, l2, l3, l4, l5] (.inl y :: .inl x :: st) K I F b Q := ex_icmp_le d_Drf_numberFrom_24 (by decide) kt kf
theorem d_Drf_numberFrom_27 : decode prog_4_method_6_code 27 = .ok (.iconst (-1), 1) := by decide +kernel
theorem s_Drf_numberFrom_27 {l0 l1 l2 l3 l4 l5 : Option ex_V} (k : ex_E Γ d M_Drf_numberFrom 28 [l0, l1, l2, l3, l4, l5] (.inl (-1) :: st) K I F b Q) : ex_E Γ d M_Drf_numberFrom 27 [l0, l1, l2, l3, l4, l5] (st) K I F b Q := ex_iconst d_Drf_numberFrom_27 (by decide +kernel) k
theorem d_Drf_numberFrom_28 : decode prog_4_method_6_code 28 = .ok (.ireturn, 1) := by decide +kernel
theorem s_Drf_numberFrom_28 {l0 l1 l2 l3 l4 l5 : Option ex_V} {x : Int32} (hq : Q (some (.inl x)) K I F) : ex_E Γ d M_Drf_numberFrom 28 [l0, l1, l2, l3, l4, l5] ([.inl x]) K I F b Q := ex_iret d_Drf_numberFrom_28 rfl hq
theorem d_Drf_numberFrom_29 : decode prog_4_method_6_code 29 = .ok (.iconst 0, 1) := by decide +kernel
theorem s_Drf_numberFrom_29 {l0 l1 l2 l3 l4 l5 : Option ex_V} (k : ex_E Γ d M_Drf_numberFrom 30 [l0, l1, l2, l3, l4, l5] (.inl 0 :: st) K I F b Q) : ex_E Γ d M_Drf_numberFrom 29 [l0, l1, l2, l3, l4, l5] (st) K I F b Q := ex_iconst d_Drf_numberFrom_29 (by decide +kernel) k
theorem d_Drf_numberFrom_30 : decode prog_4_method_6_code 30 = .ok (.istore 4, 2) := by decide +kernel
theorem s_Drf_numberFrom_30 {l0 l1 l2 l3 l4 l5 : Option ex_V} {x : Int32} (k : ex_E Γ d M_Drf_numberFrom 32 [l0, l1, l2, l3, some (.inl x), l5] (st) K I F b Q) : ex_E Γ d M_Drf_numberFrom 30 [l0, l1, l2, l3, l4, l5] (.inl x :: st) K I F b Q := ex_istore d_Drf_numberFrom_30 (Nat.le_of_ble_eq_true rfl) k
theorem d_Drf_numberFrom_32 : decode prog_4_method_6_code 32 = .ok (.iload_n 1, 1) := by decide +kernel
theorem s_Drf_numberFrom_32 {l0 l2 l3 l4 l5 : Option ex_V} {x : Int32} (k : ex_E Γ d M_Drf_numberFrom 33 [l0, some (.inl x), l2, l3, l4, l5] (.inl x :: st) K I F b Q) : ex_E Γ d M_Drf_numberFrom 32 [l0, some (.inl x), l2, l3, l4, l5] (st) K I F b Q := ex_iload_n d_Drf_numberFrom_32 rfl k
theorem d_Drf_numberFrom_33 : decode prog_4_method_6_code 33 = .ok (.iconst 1, 1) := by decide +kernel
theorem s_Drf_numberFrom_33 {l0 l1 l2 l3 l4 l5 : Option ex_V} (k : ex_E Γ d M_Drf_numberFrom 34 [l0, l1, l2, l3, l4, l5] (.inl 1 :: st) K I F b Q) : ex_E Γ d M_Drf_numberFrom 33 [l0, l1, l2, l3, l4, l5] (st) K I F b Q := ex_iconst d_Drf_numberFrom_33 (by decide +kernel) k
theorem d_Drf_numberFrom_34 : decode prog_4_method_6_code 34 = .ok (.iadd, 1) := by decide +kernel
theorem s_Drf_numberFrom_34 {l0 l1 l2 l3 l4 l5 : Option ex_V} {x y : Int32} (k : ex_E Γ d M_Drf_numberFrom 35 [l0, l1, l2, l3, l4, l5] (.inl (x + y) :: st) K I F b Q) : ex_E Γ d M_Drf_numberFrom 34 [l0, l1, l2, l3, l4, l5] (.inl y :: .inl x :: st) K I F b Q := ex_iadd d_Drf_numberFrom_34 k
theorem d_Drf_numberFrom_35 : decode prog_4_method_6_code 35 = .ok (.istore 5, 2) := by decide +kernel
theorem s_Drf_numberFrom_35 {l0 l1 l2 l3 l4 l5 : Option ex_V} {x : Int32} (k : ex_E Γ d M_Drf_numberFrom 37 [l0, l1, l2, l3, l4, some (.inl x)] (st) K I F b Q) : ex_E Γ d M_Drf_numberFrom 35 [l0, l1, l2, l3, l4, l5] (.inl x :: st) K I F b Q := ex_istore d_Drf_numberFrom_35 (Nat.le_of_ble_eq_true rfl) k
theorem d_Drf_numberFrom_37 : decode prog_4_method_6_code 37 = .ok (.iload 5, 2) := by decide +kernel
theorem s_Drf_numberFrom_37 {l0 l1 l2 l3 l4 : Option ex_V} {x : Int32} (k : ex_E Γ d M_Drf_numberFrom 39 [l0, l1, l2, l3, l4, some (.inl x)] (.inl x :: st) K I F b Q) : ex_E Γ d M_Drf_numberFrom 37 [l0, l1, l2, l3, l4, some (.inl x)] (st) K I F b Q := ex_iload d_Drf_numberFrom_37 rfl k
theorem d_Drf_numberFrom_39 : decode prog_4_method_6_code 39 = .ok (.iload_n 2, 1) := by decide +kernel
theorem s_Drf_numberFrom_39 {l0 l1 l3 l4 l5 : Option ex_V} {x : Int32} (k : ex_E Γ d M_Drf_numberFrom 40 [l0, l1, some (.inl x), l3, l4, l5] (.inl x :: st) K I F b Q) : ex_E Γ d M_Drf_numberFrom 39 [l0, l1, some (.inl x), l3, l4, l5] (st) K I F b Q := ex_iload_n d_Drf_numberFrom_39 rfl k
theorem d_Drf_numberFrom_40 : decode prog_4_method_6_code 40 = .ok (.if_icmp .ge 53, 3) := by decide +kernel
theorem s_Drf_numberFrom_40 {l0 l1 l2 l3 l4 l5 : Option ex_V} {x y : Int32} (kt : y ≤ x → ex_E Γ d M_Drf_numberFrom 93 [l0, l1, l2, l3, l4, l5] (st) K I F b Q) (kf : ¬ y ≤ x → ex_E Γ d M_Drf_numberFrom 43 [l0, l1, l2, l3, l4, l5] (st) K I F b Q) : ex_E Γ d M_Drf_numberFrom 40 [l0, l1, l2, l3, l4, l5] (.inl y :: .inl x :: st) K I F b Q := ex_icmp_ge d_Drf_numberFrom_40 (by decide) kt kf
theorem d_Drf_numberFrom_43 : decode prog_4_method_6_code 43 = .ok (.aload_n 0, 1) := by decide +kernel
theorem s_Drf_numberFrom_43 {l1 l2 l3 l4 l5 : Option ex_V} {r : Option Nat} (k : ex_E Γ d M_Drf_numberFrom 44 [some (.inr r), l1, l2, l3, l4, l5] (.inr r :: st) K I F b Q) : ex_E Γ d M_Drf_numberFrom 43 [some (.inr r), l1, l2, l3, l4, l5] (st) K I F b Q := ex_aload_n d_Drf_numberFrom_43 rfl k
theorem d_Drf_numberFrom_44 : decode prog_4_method_6_code 44 = .ok (.getfield 11, 3) := by decide +kernel
theorem s_Drf_numberFrom_44 {l0 l1 l2 l3 l4 l5 : Option ex_V} {r : Option Nat} {a : Nat} (hr : r = some a) (ha : (K a).1 = 3) (k : ex_E Γ d M_Drf_numberFrom 47 [l0, l1, l2, l3, l4, l5] (.inr (F 228 a 0) :: st) K I F b Q) : ex_E Γ d M_Drf_numberFrom 44 [l0, l1, l2, l3, l4, l5] (.inr r :: st) K I F b Q := ex_get 0 d_Drf_numberFrom_44 (ci := 2) rfl (by decide) rfl (by decide) rfl (inC_Drf _) (List.mem_cons_of_mem _ w_33) rfl hr ha k
theorem d_Drf_numberFrom_47 : decode prog_4_method_6_code 47 = .ok (.iload 5, 2) := by decide +kernel
theorem s_Drf_numberFrom_47 {l0 l1 l2 l3 l4 : Option ex_V} {x : Int32} (k : ex_E Γ d M_Drf_numberFrom 49 [l0, l1, l2, l3, l4, some (.inl x)] (.inl x :: st) K I F b Q) : ex_E Γ d M_Drf_numberFrom 47 [l0, l1, l2, l3, l4, some (.inl x)] (st) K I F b Q := ex_iload d_Drf_numberFrom_47 rfl k
theorem d_Drf_numberFrom_49 : decode prog_4_method_6_code 49 = .ok (.caload, 1) := by decide +kernel
theorem s_Drf_numberFrom_49 {l0 l1 l2 l3 l4 l5 : Option ex_V} {r : Option Nat} {a : Nat} {i : Int32} (hr : r = some a) (ha : (K a).1 = 22) (hi : vp_in i (K a).2) (k : ex_E Γ d M_Drf_numberFrom 50 [l0, l1, l2, l3, l4, l5] (.inl (I 22 a i.toNatClampNeg) :: st) K I F b Q) : ex_E Γ d M_Drf_numberFrom 49 [l0, l1, l2, l3, l4, l5] (.inl i :: .inr r :: st) K I F b Q := ex_caload d_Drf_numberFrom_49 hr ha hi k
theorem d_Drf_numberFrom_50 : decode prog_4_method_6_code 50 = .ok (.bipush 48, 2) := by decide +kernel
theorem s_Drf_numberFrom_50 {l0 l1 l2 l3 l4 l5 : Option ex_V} (k : ex_E Γ d M_Drf_numberFrom 52 [l0, l1, l2, l3, l4, l5] (.inl 48 :: st) K I F b Q) : ex_E Γ d M_Drf_numberFrom 50 [l0, l1, l2, l3, l4, l5] (st) K I F b Q := ex_bipush d_Drf_numberFrom_50 (by decide +kernel) k
theorem d_Drf_numberFrom_52 : decode prog_4_method_6_code 52 = .ok (.if_icmp .lt 15, 3) := by decide +kernel
theorem s_Drf_numberFrom_52 {l0 l1 l2 l3 l4 l5 : Option ex_V} {x y : Int32} (kt : x < y → ex_E Γ d M_Drf_numberFrom 67 [l0, l1, l2, l3, l4, l5] (st) K I F b Q) (kf : ¬ x < y → ex_E Γ d M_Drf_numberFrom 55 [l0, l1, l2, l3, l4, l5] (st) K I F b Q) : ex_E Γ d M_Drf_numberFrom 52 [l0, l1, l2, l3, l4, l5] (.inl y :: .inl x :: st) K I F b Q := ex_icmp_lt d_Drf_numberFrom_52 (by decide) kt kf
theorem d_Drf_numberFrom_55 : decode prog_4_method_6_code 55 = .ok (.aload_n 0, 1) := by decide +kernel
theorem s_Drf_numberFrom_55 {l1 l2 l3 l4 l5 : Option ex_V} {r : Option Nat} (k : ex_E Γ d M_Drf_numberFrom 56 [some (.inr r), l1, l2, l3, l4, l5] (.inr r :: st) K I F b Q) : ex_E Γ d M_Drf_numberFrom 55 [some (.inr r), l1, l2, l3, l4, l5] (st) K I F b Q := ex_aload_n d_Drf_numberFrom_55 rfl k
theorem d_Drf_numberFrom_56 : decode prog_4_method_6_code 56 = .ok (.getfield 11, 3) := by decide +kernel
theorem s_Drf_numberFrom_56 {l0 l1 l2 l3 l4 l5 : Option ex_V} {r : Option Nat} {a : Nat} (hr : r = some a) (ha : (K a).1 = 3) (k : ex_E Γ d M_Drf_numberFrom 59 [l0, l1, l2, l3, l4, l5] (.inr (F 228 a 0) :: st) K I F b Q) : ex_E Γ d M_Drf_numberFrom 56 [l0, l1, l2, l3, l4, l5] (.inr r :: st) K I F b Q := ex_get 0 d_Drf_numberFrom_56 (ci := 2) rfl (by decide) rfl (by decide) rfl (inC_Drf _) (List.mem_cons_of_mem _ w_33) rfl hr ha k
theorem d_Drf_numberFrom_59 : decode prog_4_method_6_code 59 = .ok (.iload 5, 2) := by decide +kernel
theorem s_Drf_numberFrom_59 {l0 l1 l2 l3 l4 : Option ex_V} {x : Int32} (k : ex_E Γ d M_Drf_numberFrom 61 [l0, l1, l2, l3, l4, some (.inl x)] (.inl x :: st) K I F b Q) : ex_E Γ d M_Drf_numberFrom 59 [l0, l1, l2, l3, l4, some (.inl x)] (st) K I F b Q := ex_iload d_Drf_numberFrom_59 rfl k
theorem d_Drf_numberFrom_61 : decode prog_4_method_6_code 61 = .ok (.caload, 1) := by decide +kernel
theorem s_Drf_numberFrom_61 {l0 l1 l2 l3 l4 l5 : Option ex_V} {r : Option Nat} {a : Nat} {i : Int32} (hr : r = some a) (ha : (K a).1 = 22) (hi : vp_in i (K a).2) (k : ex_E Γ d M_Drf_numberFrom 62 [l0, l1, l2, l3, l4, l5] (.inl (I 22 a i.toNatClampNeg) :: st) K I F b Q) : ex_E Γ d M_Drf_numberFrom 61 [l0, l1, l2, l3, l4, l5] (.inl i :: .inr r :: st) K I F b Q := ex_caload d_Drf_numberFrom_61 hr ha hi k
theorem d_Drf_numberFrom_62 : decode prog_4_method_6_code 62 = .ok (.bipush 57, 2) := by decide +kernel
theorem s_Drf_numberFrom_62 {l0 l1 l2 l3 l4 l5 : Option ex_V} (k : ex_E Γ d M_Drf_numberFrom 64 [l0, l1, l2, l3, l4, l5] (.inl 57 :: st) K I F b Q) : ex_E Γ d M_Drf_numberFrom 62 [l0, l1, l2, l3, l4, l5] (st) K I F b Q := ex_bipush d_Drf_numberFrom_62 (by decide +kernel) k
theorem d_Drf_numberFrom_64 : decode prog_4_method_6_code 64 = .ok (.if_icmp .le 5, 3) := by decide +kernel
theorem s_Drf_numberFrom_64 {l0 l1 l2 l3 l4 l5 : Option ex_V} {x y : Int32} (kt : x ≤ y → ex_E Γ d M_Drf_numberFrom 69 [l0, l1, l2, l3, l4, l5] (st) K I F b Q) (kf : ¬ x ≤ y → ex_E Γ d M_Drf_numberFrom 67 [l0, l1, l2, l3, l4, l5] (st) K I F b Q) : ex_E Γ d M_Drf_numberFrom 64 [l0, l1, l2, l3, l4, l5] (.inl y :: .inl x :: st) K I F b Q := ex_icmp_le d_Drf_numberFrom_64 (by decide) kt kf
theorem d_Drf_numberFrom_67 : decode prog_4_method_6_code 67 = .ok (.iconst (-1), 1) := by decide +kernel
theorem s_Drf_numberFrom_67 {l0 l1 l2 l3 l4 l5 : Option ex_V} (k : ex_E Γ d M_Drf_numberFrom 68 [l0, l1, l2, l3, l4, l5] (.inl (-1) :: st) K I F b Q) : ex_E Γ d M_Drf_numberFrom 67 [l0, l1, l2, l3, l4, l5] (st) K I F b Q := ex_iconst d_Drf_numberFrom_67 (by decide +kernel) k
theorem d_Drf_numberFrom_68 : decode prog_4_method_6_code 68 = .ok (.ireturn, 1) := by decide +kernel
theorem s_Drf_numberFrom_68 {l0 l1 l2 l3 l4 l5 : Option ex_V} {x : Int32} (hq : Q (some (.inl x)) K I F) : ex_E Γ d M_Drf_numberFrom 68 [l0, l1, l2, l3, l4, l5] ([.inl x]) K I F b Q := ex_iret d_Drf_numberFrom_68 rfl hq
theorem d_Drf_numberFrom_69 : decode prog_4_method_6_code 69 = .ok (.bipush 10, 2) := by decide +kernel
theorem s_Drf_numberFrom_69 {l0 l1 l2 l3 l4 l5 : Option ex_V} (k : ex_E Γ d M_Drf_numberFrom 71 [l0, l1, l2, l3, l4, l5] (.inl 10 :: st) K I F b Q) : ex_E Γ d M_Drf_numberFrom 69 [l0, l1, l2, l3, l4, l5] (st) K I F b Q := ex_bipush d_Drf_numberFrom_69 (by decide +kernel) k
theorem d_Drf_numberFrom_71 : decode prog_4_method_6_code 71 = .ok (.iload 4, 2) := by decide +kernel
theorem s_Drf_numberFrom_71 {l0 l1 l2 l3 l5 : Option ex_V} {x : Int32} (k : ex_E Γ d M_Drf_numberFrom 73 [l0, l1, l2, l3, some (.inl x), l5] (.inl x :: st) K I F b Q) : ex_E Γ d M_Drf_numberFrom 71 [l0, l1, l2, l3, some (.inl x), l5] (st) K I F b Q := ex_iload d_Drf_numberFrom_71 rfl k
theorem d_Drf_numberFrom_73 : decode prog_4_method_6_code 73 = .ok (.imul, 1) := by decide +kernel
theorem s_Drf_numberFrom_73 {l0 l1 l2 l3 l4 l5 : Option ex_V} {x y : Int32} (k : ex_E Γ d M_Drf_numberFrom 74 [l0, l1, l2, l3, l4, l5] (.inl (x * y) :: st) K I F b Q) : ex_E Γ d M_Drf_numberFrom 73 [l0, l1, l2, l3, l4, l5] (.inl y :: .inl x :: st) K I F b Q := ex_imul d_Drf_numberFrom_73 k
theorem d_Drf_numberFrom_74 : decode prog_4_method_6_code 74 = .ok (.aload_n 0, 1) := by decide +kernel
theorem s_Drf_numberFrom_74 {l1 l2 l3 l4 l5 : Option ex_V} {r : Option Nat} (k : ex_E Γ d M_Drf_numberFrom 75 [some (.inr r), l1, l2, l3, l4, l5] (.inr r :: st) K I F b Q) : ex_E Γ d M_Drf_numberFrom 74 [some (.inr r), l1, l2, l3, l4, l5] (st) K I F b Q := ex_aload_n d_Drf_numberFrom_74 rfl k
theorem d_Drf_numberFrom_75 : decode prog_4_method_6_code 75 = .ok (.getfield 11, 3) := by decide +kernel
theorem s_Drf_numberFrom_75 {l0 l1 l2 l3 l4 l5 : Option ex_V} {r : Option Nat} {a : Nat} (hr : r = some a) (ha : (K a).1 = 3) (k : ex_E Γ d M_Drf_numberFrom 78 [l0, l1, l2, l3, l4, l5] (.inr (F 228 a 0) :: st) K I F b Q) : ex_E Γ d M_Drf_numberFrom 75 [l0, l1, l2, l3, l4, l5] (.inr r :: st) K I F b Q := ex_get 0 d_Drf_numberFrom_75 (ci := 2) rfl (by decide) rfl (by decide) rfl (inC_Drf _) (List.mem_cons_of_mem _ w_33) rfl hr ha k
theorem d_Drf_numberFrom_78 : decode prog_4_method_6_code 78 = .ok (.iload 5, 2) := by decide +kernel
theorem s_Drf_numberFrom_78 {l0 l1 l2 l3 l4 : Option ex_V} {x : Int32} (k : ex_E Γ d M_Drf_numberFrom 80 [l0, l1, l2, l3, l4, some (.inl x)] (.inl x :: st) K I F b Q) : ex_E Γ d M_Drf_numberFrom 78 [l0, l1, l2, l3, l4, some (.inl x)] (st) K I F b Q := ex_iload d_Drf_numberFrom_78 rfl k
theorem d_Drf_numberFrom_80 : decode prog_4_method_6_code 80 = .ok (.caload, 1) := by decide +kernel
theorem s_Drf_numberFrom_80 {l0 l1 l2 l3 l4 l5 : Option ex_V} {r : Option Nat} {a : Nat} {i : Int32} (hr : r = some a) (ha : (K a).1 = 22) (hi : vp_in i (K a).2) (k : ex_E Γ d M_Drf_numberFrom 81 [l0, l1, l2, l3, l4, l5] (.inl (I 22 a i.toNatClampNeg) :: st) K I F b Q) : ex_E Γ d M_Drf_numberFrom 80 [l0, l1, l2, l3, l4, l5] (.inl i :: .inr r :: st) K I F b Q := ex_caload d_Drf_numberFrom_80 hr ha hi k
theorem d_Drf_numberFrom_81 : decode prog_4_method_6_code 81 = .ok (.bipush 48, 2) := by decide +kernel
theorem s_Drf_numberFrom_81 {l0 l1 l2 l3 l4 l5 : Option ex_V} (k : ex_E Γ d M_Drf_numberFrom 83 [l0, l1, l2, l3, l4, l5] (.inl 48 :: st) K I F b Q) : ex_E Γ d M_Drf_numberFrom 81 [l0, l1, l2, l3, l4, l5] (st) K I F b Q := ex_bipush d_Drf_numberFrom_81 (by decide +kernel) k
theorem d_Drf_numberFrom_83 : decode prog_4_method_6_code 83 = .ok (.isub, 1) := by decide +kernel
theorem s_Drf_numberFrom_83 {l0 l1 l2 l3 l4 l5 : Option ex_V} {x y : Int32} (k : ex_E Γ d M_Drf_numberFrom 84 [l0, l1, l2, l3, l4, l5] (.inl (x - y) :: st) K I F b Q) : ex_E Γ d M_Drf_numberFrom 83 [l0, l1, l2, l3, l4, l5] (.inl y :: .inl x :: st) K I F b Q := ex_isub d_Drf_numberFrom_83 k
theorem d_Drf_numberFrom_84 : decode prog_4_method_6_code 84 = .ok (.iadd, 1) := by decide +kernel
theorem s_Drf_numberFrom_84 {l0 l1 l2 l3 l4 l5 : Option ex_V} {x y : Int32} (k : ex_E Γ d M_Drf_numberFrom 85 [l0, l1, l2, l3, l4, l5] (.inl (x + y) :: st) K I F b Q) : ex_E Γ d M_Drf_numberFrom 84 [l0, l1, l2, l3, l4, l5] (.inl y :: .inl x :: st) K I F b Q := ex_iadd d_Drf_numberFrom_84 k
theorem d_Drf_numberFrom_85 : decode prog_4_method_6_code 85 = .ok (.istore 4, 2) := by decide +kernel
theorem s_Drf_numberFrom_85 {l0 l1 l2 l3 l4 l5 : Option ex_V} {x : Int32} (k : ex_E Γ d M_Drf_numberFrom 87 [l0, l1, l2, l3, some (.inl x), l5] (st) K I F b Q) : ex_E Γ d M_Drf_numberFrom 85 [l0, l1, l2, l3, l4, l5] (.inl x :: st) K I F b Q := ex_istore d_Drf_numberFrom_85 (Nat.le_of_ble_eq_true rfl) k
theorem d_Drf_numberFrom_87 : decode prog_4_method_6_code 87 = .ok (.iinc 5 1, 3) := by decide +kernel
theorem s_Drf_numberFrom_87 {l0 l1 l2 l3 l4 : Option ex_V} {x : Int32} (k : ex_E Γ d M_Drf_numberFrom 90 [l0, l1, l2, l3, l4, some (.inl (x + 1))] (st) K I F b Q) : ex_E Γ d M_Drf_numberFrom 87 [l0, l1, l2, l3, l4, some (.inl x)] (st) K I F b Q := ex_iinc (x := x) (v := x + 1) d_Drf_numberFrom_87 rfl rfl (Nat.le_of_ble_eq_true rfl) k
theorem d_Drf_numberFrom_90 : decode prog_4_method_6_code 90 = .ok (.goto (-53), 3) := by decide +kernel
theorem s_Drf_numberFrom_90 {l0 l1 l2 l3 l4 l5 : Option ex_V} (k : ex_E Γ d M_Drf_numberFrom 37 [l0, l1, l2, l3, l4, l5] (st) K I F b Q) : ex_E Γ d M_Drf_numberFrom 90 [l0, l1, l2, l3, l4, l5] (st) K I F b Q := ex_goto d_Drf_numberFrom_90 (by decide) k
theorem d_Drf_numberFrom_93 : decode prog_4_method_6_code 93 = .ok (.iload 4, 2) := by decide +kernel
theorem s_Drf_numberFrom_93 {l0 l1 l2 l3 l5 : Option ex_V} {x : Int32} (k : ex_E Γ d M_Drf_numberFrom 95 [l0, l1, l2, l3, some (.inl x), l5] (.inl x :: st) K I F b Q) : ex_E Γ d M_Drf_numberFrom 93 [l0, l1, l2, l3, some (.inl x), l5] (st) K I F b Q := ex_iload d_Drf_numberFrom_93 rfl k
theorem d_Drf_numberFrom_95 : decode prog_4_method_6_code 95 = .ok (.ireturn, 1) := by decide +kernel
theorem s_Drf_numberFrom_95 {l0 l1 l2 l3 l4 l5 : Option ex_V} {x : Int32} (hq : Q (some (.inl x)) K I F) : ex_E Γ d M_Drf_numberFrom 95 [l0, l1, l2, l3, l4, l5] ([.inl x]) K I F b Q := ex_iret d_Drf_numberFrom_95 rfl hq
theorem d_Drf_directiveAt_0 : decode prog_4_method_7_code 0 = .ok (.iconst 0, 1) := by decide +kernel
theorem s_Drf_directiveAt_0 {l0 l1 l2 l3 : Option ex_V} (k : ex_E Γ d M_Drf_directiveAt 1 [l0, l1, l2, l3] (.inl 0 :: st) K I F b Q) : ex_E Γ d M_Drf_directiveAt 0 [l0, l1, l2, l3] (st) K I F b Q := ex_iconst d_Drf_directiveAt_0 (by decide +kernel) k
theorem d_Drf_directiveAt_1 : decode prog_4_method_7_code 1 = .ok (.istore_n 3, 1) := by decide +kernel
theorem s_Drf_directiveAt_1 {l0 l1 l2 l3 : Option ex_V} {x : Int32} (k : ex_E Γ d M_Drf_directiveAt 2 [l0, l1, l2, some (.inl x)] (st) K I F b Q) : ex_E Γ d M_Drf_directiveAt 1 [l0, l1, l2, l3] (.inl x :: st) K I F b Q := ex_istore_n d_Drf_directiveAt_1 (Nat.le_of_ble_eq_true rfl) k
theorem d_Drf_directiveAt_2 : decode prog_4_method_7_code 2 = .ok (.iload_n 3, 1) := by decide +kernel
theorem s_Drf_directiveAt_2 {l0 l1 l2 : Option ex_V} {x : Int32} (k : ex_E Γ d M_Drf_directiveAt 3 [l0, l1, l2, some (.inl x)] (.inl x :: st) K I F b Q) : ex_E Γ d M_Drf_directiveAt 2 [l0, l1, l2, some (.inl x)] (st) K I F b Q := ex_iload_n d_Drf_directiveAt_2 rfl k
theorem d_Drf_directiveAt_3 : decode prog_4_method_7_code 3 = .ok (.bipush 7, 2) := by decide +kernel
theorem s_Drf_directiveAt_3 {l0 l1 l2 l3 : Option ex_V} (k : ex_E Γ d M_Drf_directiveAt 5 [l0, l1, l2, l3] (.inl 7 :: st) K I F b Q) : ex_E Γ d M_Drf_directiveAt 3 [l0, l1, l2, l3] (st) K I F b Q := ex_bipush d_Drf_directiveAt_3 (by decide +kernel) k
theorem d_Drf_directiveAt_5 : decode prog_4_method_7_code 5 = .ok (.if_icmp .ge 24, 3) := by decide +kernel
theorem s_Drf_directiveAt_5 {l0 l1 l2 l3 : Option ex_V} {x y : Int32} (kt : y ≤ x → ex_E Γ d M_Drf_directiveAt 29 [l0, l1, l2, l3] (st) K I F b Q) (kf : ¬ y ≤ x → ex_E Γ d M_Drf_directiveAt 8 [l0, l1, l2, l3] (st) K I F b Q) : ex_E Γ d M_Drf_directiveAt 5 [l0, l1, l2, l3] (.inl y :: .inl x :: st) K I F b Q := ex_icmp_ge d_Drf_directiveAt_5 (by decide) kt kf
theorem d_Drf_directiveAt_8 : decode prog_4_method_7_code 8 = .ok (.aload_n 0, 1) := by decide +kernel
theorem s_Drf_directiveAt_8 {l1 l2 l3 : Option ex_V} {r : Option Nat} (k : ex_E Γ d M_Drf_directiveAt 9 [some (.inr r), l1, l2, l3] (.inr r :: st) K I F b Q) : ex_E Γ d M_Drf_directiveAt 8 [some (.inr r), l1, l2, l3] (st) K I F b Q := ex_aload_n d_Drf_directiveAt_8 rfl k
theorem d_Drf_directiveAt_9 : decode prog_4_method_7_code 9 = .ok (.iload_n 3, 1) := by decide +kernel
theorem s_Drf_directiveAt_9 {l0 l1 l2 : Option ex_V} {x : Int32} (k : ex_E Γ d M_Drf_directiveAt 10 [l0, l1, l2, some (.inl x)] (.inl x :: st) K I F b Q) : ex_E Γ d M_Drf_directiveAt 9 [l0, l1, l2, some (.inl x)] (st) K I F b Q := ex_iload_n d_Drf_directiveAt_9 rfl k
theorem d_Drf_directiveAt_10 : decode prog_4_method_7_code 10 = .ok (.invokestatic 41, 3) := by decide +kernel
theorem s_Drf_directiveAt_10 {l0 l1 l2 l3 : Option ex_V} {x0 : Int32} {b1 b2 : Nat} {Q1 : Option ex_V → ex_K → ex_I → ex_F → Prop} (h : ex_E Γ d M_Ctl_nameOf 0 [some (.inl x0)] [] K I F b1 Q1) (kk : ∀ r K' I' F', Q1 r K' I' F' → ex_E Γ (d + 1) M_Drf_directiveAt 13 [l0, l1, l2, l3] (r.toList ++ st) K' I' F' b2 Q) (hbb : b1 + b2 ≤ b) (hst : st.length ≤ 8 := by first | exact Nat.le_of_ble_eq_true rfl | simp) : ex_E Γ (d + 1) M_Drf_directiveAt 10 [l0, l1, l2, l3] (.inl x0 :: st) K I F b Q := by
  exact ex_callS (Mc := M_Ctl_nameOf) (n := 1) (av := [.inl x0]) d_Drf_directiveAt_10 (by decide) rfl rfl (by decide) (ex_good w_297) (List.mem_cons_of_mem _ w_295) (List.mem_cons_of_mem _ w_6) (List.mem_cons_of_mem _ w_296) ⟨by decide +kernel, by decide +kernel, by decide +kernel⟩ rfl (Nat.le_of_ble_eq_true rfl) hst h hbb kk
theorem d_Drf_directiveAt_13 : decode prog_4_method_7_code 13 = .ok (.iload_n 1, 1) := by decide +kernel
theorem s_Drf_directiveAt_13 {l0 l2 l3 : Option ex_V} {x : Int32} (k : ex_E Γ d M_Drf_directiveAt 14 [l0, some (.inl x), l2, l3] (.inl x :: st) K I F b Q) : ex_E Γ d M_Drf_directiveAt 13 [l0, some (.inl x), l2, l3] (st) K I F b Q := ex_iload_n d_Drf_directiveAt_13 rfl k
theorem d_Drf_directiveAt_14 : decode prog_4_method_7_code 14 = .ok (.iload_n 2, 1) := by decide +kernel
theorem s_Drf_directiveAt_14 {l0 l1 l3 : Option ex_V} {x : Int32} (k : ex_E Γ d M_Drf_directiveAt 15 [l0, l1, some (.inl x), l3] (.inl x :: st) K I F b Q) : ex_E Γ d M_Drf_directiveAt 14 [l0, l1, some (.inl x), l3] (st) K I F b Q := ex_iload_n d_Drf_directiveAt_14 rfl k
theorem d_Drf_directiveAt_15 : decode prog_4_method_7_code 15 = .ok (.invokevirtual 45, 3) := by decide +kernel
theorem s_Drf_directiveAt_15 {l0 l1 l2 l3 : Option ex_V} {r : Option Nat} {a : Nat} {x0 : Option Nat} {x1 : Int32} {x2 : Int32} {b1 b2 : Nat} {Q1 : Option ex_V → ex_K → ex_I → ex_F → Prop} (hr : r = some a) (ha : (K a).1 = 3) (h : ex_E Γ d M_Drf_stands 0 [some (.inr (some a)), some (.inr x0), some (.inl x1), some (.inl x2), none] [] K I F b1 Q1) (kk : ∀ r K' I' F', Q1 r K' I' F' → ex_E Γ (d + 1) M_Drf_directiveAt 18 [l0, l1, l2, l3] (r.toList ++ st) K' I' F' b2 Q) (hbb : b1 + b2 ≤ b) (hst : st.length ≤ 8 := by first | exact Nat.le_of_ble_eq_true rfl | simp) : ex_E Γ (d + 1) M_Drf_directiveAt 15 [l0, l1, l2, l3] (.inl x2 :: .inl x1 :: .inr x0 :: .inr r :: st) K I F b Q := by
  subst hr
  exact ex_callV (Mc := M_Drf_stands) (n := 3) (av := [.inr x0, .inl x1, .inl x2]) (ci := 2) d_Drf_directiveAt_15 (by decide) rfl rfl (by decide) rfl (by decide) (ex_good w_308) (List.mem_cons_of_mem _ w_305) (List.mem_cons_of_mem _ w_2) (List.mem_cons_of_mem _ w_307) (List.mem_cons_of_mem _ ws_3) ⟨by decide +kernel, by decide +kernel, by decide +kernel⟩ rfl (Nat.le_of_ble_eq_true rfl) hst ha h hbb kk
theorem d_Drf_directiveAt_18 : decode prog_4_method_7_code 18 = .ok (.ifCond .eq 5, 3) := by decide +kernel
theorem s_Drf_directiveAt_18 {l0 l1 l2 l3 : Option ex_V} {x : Int32} (kt : x = 0 → ex_E Γ d M_Drf_directiveAt 23 [l0, l1, l2, l3] (st) K I F b Q) (kf : ¬ x = 0 → ex_E Γ d M_Drf_directiveAt 21 [l0, l1, l2, l3] (st) K I F b Q) : ex_E Γ d M_Drf_directiveAt 18 [l0, l1, l2, l3] (.inl x :: st) K I F b Q := ex_if_eq d_Drf_directiveAt_18 (by decide) kt kf
theorem d_Drf_directiveAt_21 : decode prog_4_method_7_code 21 = .ok (.iload_n 3, 1) := by decide +kernel
theorem s_Drf_directiveAt_21 {l0 l1 l2 : Option ex_V} {x : Int32} (k : ex_E Γ d M_Drf_directiveAt 22 [l0, l1, l2, some (.inl x)] (.inl x :: st) K I F b Q) : ex_E Γ d M_Drf_directiveAt 21 [l0, l1, l2, some (.inl x)] (st) K I F b Q := ex_iload_n d_Drf_directiveAt_21 rfl k
theorem d_Drf_directiveAt_22 : decode prog_4_method_7_code 22 = .ok (.ireturn, 1) := by decide +kernel
theorem s_Drf_directiveAt_22 {l0 l1 l2 l3 : Option ex_V} {x : Int32} (hq : Q (some (.inl x)) K I F) : ex_E Γ d M_Drf_directiveAt 22 [l0, l1, l2, l3] ([.inl x]) K I F b Q := ex_iret d_Drf_directiveAt_22 rfl hq
theorem d_Drf_directiveAt_23 : decode prog_4_method_7_code 23 = .ok (.iinc 3 1, 3) := by decide +kernel
theorem s_Drf_directiveAt_23 {l0 l1 l2 : Option ex_V} {x : Int32} (k : ex_E Γ d M_Drf_directiveAt 26 [l0, l1, l2, some (.inl (x + 1))] (st) K I F b Q) : ex_E Γ d M_Drf_directiveAt 23 [l0, l1, l2, some (.inl x)] (st) K I F b Q := ex_iinc (x := x) (v := x + 1) d_Drf_directiveAt_23 rfl rfl (Nat.le_of_ble_eq_true rfl) k
theorem d_Drf_directiveAt_26 : decode prog_4_method_7_code 26 = .ok (.goto (-24), 3) := by decide +kernel
theorem s_Drf_directiveAt_26 {l0 l1 l2 l3 : Option ex_V} (k : ex_E Γ d M_Drf_directiveAt 2 [l0, l1, l2, l3] (st) K I F b Q) : ex_E Γ d M_Drf_directiveAt 26 [l0, l1, l2, l3] (st) K I F b Q := ex_goto d_Drf_directiveAt_26 (by decide) k
theorem d_Drf_directiveAt_29 : decode prog_4_method_7_code 29 = .ok (.iconst (-1), 1) := by decide +kernel
theorem s_Drf_directiveAt_29 {l0 l1 l2 l3 : Option ex_V} (k : ex_E Γ d M_Drf_directiveAt 30 [l0, l1, l2, l3] (.inl (-1) :: st) K I F b Q) : ex_E Γ d M_Drf_directiveAt 29 [l0, l1, l2, l3] (st) K I F b Q := ex_iconst d_Drf_directiveAt_29 (by decide +kernel) k
theorem d_Drf_directiveAt_30 : decode prog_4_method_7_code 30 = .ok (.ireturn, 1) := by decide +kernel
theorem s_Drf_directiveAt_30 {l0 l1 l2 l3 : Option ex_V} {x : Int32} (hq : Q (some (.inl x)) K I F) : ex_E Γ d M_Drf_directiveAt 30 [l0, l1, l2, l3] ([.inl x]) K I F b Q := ex_iret d_Drf_directiveAt_30 rfl hq
theorem d_Ctl_nameOf_0 : decode prog_3_method_2_code 0 = .ok (.iload_n 0, 1) := by decide +kernel
theorem s_Ctl_nameOf_0 {x : Int32} (k : ex_E Γ d M_Ctl_nameOf 1 [some (.inl x)] (.inl x :: st) K I F b Q) : ex_E Γ d M_Ctl_nameOf 0 [some (.inl x)] (st) K I F b Q := ex_iload_n d_Ctl_nameOf_0 rfl k
theorem d_Ctl_nameOf_1 : decode prog_3_method_2_code 1 = .ok (.tableswitch 57 0 5 #[39, 42, 45, 48, 51, 54], 39) := by decide +kernel
theorem s_Ctl_nameOf_1 {l0 : Option ex_V} {x : Int32} (k0 : x = 0 → ex_E Γ d M_Ctl_nameOf 40 [l0] (st) K I F b Q) (k1 : x = 1 → ex_E Γ d M_Ctl_nameOf 43 [l0] (st) K I F b Q) (k2 : x = 2 → ex_E Γ d M_Ctl_nameOf 46 [l0] (st) K I F b Q) (k3 : x = 3 → ex_E Γ d M_Ctl_nameOf 49 [l0] (st) K I F b Q) (k4 : x = 4 → ex_E Γ d M_Ctl_nameOf 52 [l0] (st) K I F b Q) (k5 : x = 5 → ex_E Γ d M_Ctl_nameOf 55 [l0] (st) K I F b Q) (kd : ¬ x = 0 → ¬ x = 1 → ¬ x = 2 → ¬ x = 3 → ¬ x = 4 → ¬ x = 5 → ex_E Γ d M_Ctl_nameOf 58 [l0] (st) K I F b Q) : ex_E Γ d M_Ctl_nameOf 1 [l0] (.inl x :: st) K I F b Q := by
  by_cases h0 : x = 0
  · subst h0
    exact ex_tableIn d_Ctl_nameOf_1 (by decide) (by decide) rfl (by decide) (k0 rfl)
  by_cases h1 : x = 1
  · subst h1
    exact ex_tableIn d_Ctl_nameOf_1 (by decide) (by decide) rfl (by decide) (k1 rfl)
  by_cases h2 : x = 2
  · subst h2
    exact ex_tableIn d_Ctl_nameOf_1 (by decide) (by decide) rfl (by decide) (k2 rfl)
  by_cases h3 : x = 3
  · subst h3
    exact ex_tableIn d_Ctl_nameOf_1 (by decide) (by decide) rfl (by decide) (k3 rfl)
  by_cases h4 : x = 4
  · subst h4
    exact ex_tableIn d_Ctl_nameOf_1 (by decide) (by decide) rfl (by decide) (k4 rfl)
  by_cases h5 : x = 5
  · subst h5
    exact ex_tableIn d_Ctl_nameOf_1 (by decide) (by decide) rfl (by decide) (k5 rfl)
  exact ex_tableOut d_Ctl_nameOf_1 (by
    by_cases z : x.toInt < 0
    · exact Or.inl z
    · right
      have n : ∀ v : Int32, ¬ x = v → ¬ x.toInt = v.toInt := fun v hv q => hv (Int32.toInt_inj.mp q)
      have m0 := n 0 h0
      rw [show (0 : Int32).toInt = 0 from rfl] at m0
      have m1 := n 1 h1
      rw [show (1 : Int32).toInt = 1 from rfl] at m1
      have m2 := n 2 h2
      rw [show (2 : Int32).toInt = 2 from rfl] at m2
      have m3 := n 3 h3
      rw [show (3 : Int32).toInt = 3 from rfl] at m3
      have m4 := n 4 h4
      rw [show (4 : Int32).toInt = 4 from rfl] at m4
      have m5 := n 5 h5
      rw [show (5 : Int32).toInt = 5 from rfl] at m5
      omega) (by decide) (kd h0 h1 h2 h3 h4 h5)
theorem d_Ctl_nameOf_40 : decode prog_3_method_2_code 40 = .ok (.ldc 21, 2) := by decide +kernel
theorem s_Ctl_nameOf_40 {l0 : Option ex_V} (k : ex_E Γ d M_Ctl_nameOf 42 [l0] (.inr (some (Γ.2.2.2.1 0)) :: st) K I F b Q) : ex_E Γ d M_Ctl_nameOf 40 [l0] (st) K I F b Q := ex_ldcS (i := 0) d_Ctl_nameOf_40 rfl (by decide) rfl k
theorem d_Ctl_nameOf_42 : decode prog_3_method_2_code 42 = .ok (.areturn, 1) := by decide +kernel
theorem s_Ctl_nameOf_42 {l0 : Option ex_V} {r : Option Nat} (hq : Q (some (.inr r)) K I F) : ex_E Γ d M_Ctl_nameOf 42 [l0] ([.inr r]) K I F b Q := ex_aret (C := "java/lang/String") d_Ctl_nameOf_42 rfl hq
theorem d_Ctl_nameOf_43 : decode prog_3_method_2_code 43 = .ok (.ldc 23, 2) := by decide +kernel
theorem s_Ctl_nameOf_43 {l0 : Option ex_V} (k : ex_E Γ d M_Ctl_nameOf 45 [l0] (.inr (some (Γ.2.2.2.1 1)) :: st) K I F b Q) : ex_E Γ d M_Ctl_nameOf 43 [l0] (st) K I F b Q := ex_ldcS (i := 1) d_Ctl_nameOf_43 rfl (by decide) rfl k
theorem d_Ctl_nameOf_45 : decode prog_3_method_2_code 45 = .ok (.areturn, 1) := by decide +kernel
theorem s_Ctl_nameOf_45 {l0 : Option ex_V} {r : Option Nat} (hq : Q (some (.inr r)) K I F) : ex_E Γ d M_Ctl_nameOf 45 [l0] ([.inr r]) K I F b Q := ex_aret (C := "java/lang/String") d_Ctl_nameOf_45 rfl hq
theorem d_Ctl_nameOf_46 : decode prog_3_method_2_code 46 = .ok (.ldc 25, 2) := by decide +kernel
theorem s_Ctl_nameOf_46 {l0 : Option ex_V} (k : ex_E Γ d M_Ctl_nameOf 48 [l0] (.inr (some (Γ.2.2.2.1 2)) :: st) K I F b Q) : ex_E Γ d M_Ctl_nameOf 46 [l0] (st) K I F b Q := ex_ldcS (i := 2) d_Ctl_nameOf_46 rfl (by decide) rfl k
theorem d_Ctl_nameOf_48 : decode prog_3_method_2_code 48 = .ok (.areturn, 1) := by decide +kernel
theorem s_Ctl_nameOf_48 {l0 : Option ex_V} {r : Option Nat} (hq : Q (some (.inr r)) K I F) : ex_E Γ d M_Ctl_nameOf 48 [l0] ([.inr r]) K I F b Q := ex_aret (C := "java/lang/String") d_Ctl_nameOf_48 rfl hq
theorem d_Ctl_nameOf_49 : decode prog_3_method_2_code 49 = .ok (.ldc 27, 2) := by decide +kernel
theorem s_Ctl_nameOf_49 {l0 : Option ex_V} (k : ex_E Γ d M_Ctl_nameOf 51 [l0] (.inr (some (Γ.2.2.2.1 3)) :: st) K I F b Q) : ex_E Γ d M_Ctl_nameOf 49 [l0] (st) K I F b Q := ex_ldcS (i := 3) d_Ctl_nameOf_49 rfl (by decide) rfl k
theorem d_Ctl_nameOf_51 : decode prog_3_method_2_code 51 = .ok (.areturn, 1) := by decide +kernel
theorem s_Ctl_nameOf_51 {l0 : Option ex_V} {r : Option Nat} (hq : Q (some (.inr r)) K I F) : ex_E Γ d M_Ctl_nameOf 51 [l0] ([.inr r]) K I F b Q := ex_aret (C := "java/lang/String") d_Ctl_nameOf_51 rfl hq
theorem d_Ctl_nameOf_52 : decode prog_3_method_2_code 52 = .ok (.ldc 29, 2) := by decide +kernel
theorem s_Ctl_nameOf_52 {l0 : Option ex_V} (k : ex_E Γ d M_Ctl_nameOf 54 [l0] (.inr (some (Γ.2.2.2.1 4)) :: st) K I F b Q) : ex_E Γ d M_Ctl_nameOf 52 [l0] (st) K I F b Q := ex_ldcS (i := 4) d_Ctl_nameOf_52 rfl (by decide) rfl k
theorem d_Ctl_nameOf_54 : decode prog_3_method_2_code 54 = .ok (.areturn, 1) := by decide +kernel
theorem s_Ctl_nameOf_54 {l0 : Option ex_V} {r : Option Nat} (hq : Q (some (.inr r)) K I F) : ex_E Γ d M_Ctl_nameOf 54 [l0] ([.inr r]) K I F b Q := ex_aret (C := "java/lang/String") d_Ctl_nameOf_54 rfl hq
theorem d_Ctl_nameOf_55 : decode prog_3_method_2_code 55 = .ok (.ldc 31, 2) := by decide +kernel
theorem s_Ctl_nameOf_55 {l0 : Option ex_V} (k : ex_E Γ d M_Ctl_nameOf 57 [l0] (.inr (some (Γ.2.2.2.1 5)) :: st) K I F b Q) : ex_E Γ d M_Ctl_nameOf 55 [l0] (st) K I F b Q := ex_ldcS (i := 5) d_Ctl_nameOf_55 rfl (by decide) rfl k
theorem d_Ctl_nameOf_57 : decode prog_3_method_2_code 57 = .ok (.areturn, 1) := by decide +kernel
theorem s_Ctl_nameOf_57 {l0 : Option ex_V} {r : Option Nat} (hq : Q (some (.inr r)) K I F) : ex_E Γ d M_Ctl_nameOf 57 [l0] ([.inr r]) K I F b Q := ex_aret (C := "java/lang/String") d_Ctl_nameOf_57 rfl hq
theorem d_Ctl_nameOf_58 : decode prog_3_method_2_code 58 = .ok (.ldc 33, 2) := by decide +kernel
theorem s_Ctl_nameOf_58 {l0 : Option ex_V} (k : ex_E Γ d M_Ctl_nameOf 60 [l0] (.inr (some (Γ.2.2.2.1 6)) :: st) K I F b Q) : ex_E Γ d M_Ctl_nameOf 58 [l0] (st) K I F b Q := ex_ldcS (i := 6) d_Ctl_nameOf_58 rfl (by decide) rfl k
theorem d_Ctl_nameOf_60 : decode prog_3_method_2_code 60 = .ok (.areturn, 1) := by decide +kernel
theorem s_Ctl_nameOf_60 {l0 : Option ex_V} {r : Option Nat} (hq : Q (some (.inr r)) K I F) : ex_E Γ d M_Ctl_nameOf 60 [l0] ([.inr r]) K I F b Q := ex_aret (C := "java/lang/String") d_Ctl_nameOf_60 rfl hq
theorem d_Drf_stands_0 : decode prog_4_method_8_code 0 = .ok (.aload_n 1, 1) := by decide +kernel
theorem s_Drf_stands_0 {l0 l2 l3 l4 : Option ex_V} {r : Option Nat} (k : ex_E Γ d M_Drf_stands 1 [l0, some (.inr r), l2, l3, l4] (.inr r :: st) K I F b Q) : ex_E Γ d M_Drf_stands 0 [l0, some (.inr r), l2, l3, l4] (st) K I F b Q := ex_aload_n d_Drf_stands_0 rfl k
theorem d_Drf_stands_1 : decode prog_4_method_8_code 1 = .ok (.invokevirtual 49, 3) := by decide +kernel
theorem s_Drf_stands_1 {l0 l1 l2 l3 l4 : Option ex_V} {i : Nat} {b1 b2 : Nat} {Q1 : Option ex_V → ex_K → ex_I → ex_F → Prop} (hi : i < 7) (h : ex_E Γ d M_Str_length 0 [some (.inr (some (Γ.2.2.2.1 i)))] [] K I F b1 Q1) (kk : ∀ r K' I' F', Q1 r K' I' F' → ex_E Γ (d + 1) M_Drf_stands 4 [l0, l1, l2, l3, l4] (r.toList ++ st) K' I' F' b2 Q) (hbb : b1 + b2 ≤ b) (hst : st.length ≤ 8 := by first | exact Nat.le_of_ble_eq_true rfl | simp) : ex_E Γ (d + 1) M_Drf_stands 1 [l0, l1, l2, l3, l4] (.inr (some (Γ.2.2.2.1 i)) :: st) K I F b Q := by
  exact ex_callVS (Mc := M_Str_length) (n := 0) (av := []) d_Drf_stands_1 (by decide) rfl rfl (by decide) hi (ex_good w_312) (List.mem_cons_of_mem _ w_309) (List.mem_cons_of_mem _ w_12) (List.mem_cons_of_mem _ w_310) (List.mem_cons_of_mem _ w_311) ⟨by decide +kernel, by decide +kernel, by decide +kernel⟩ rfl (Nat.le_of_ble_eq_true rfl) hst h hbb kk
theorem d_Drf_stands_4 : decode prog_4_method_8_code 4 = .ok (.iload_n 3, 1) := by decide +kernel
theorem s_Drf_stands_4 {l0 l1 l2 l4 : Option ex_V} {x : Int32} (k : ex_E Γ d M_Drf_stands 5 [l0, l1, l2, some (.inl x), l4] (.inl x :: st) K I F b Q) : ex_E Γ d M_Drf_stands 4 [l0, l1, l2, some (.inl x), l4] (st) K I F b Q := ex_iload_n d_Drf_stands_4 rfl k
theorem d_Drf_stands_5 : decode prog_4_method_8_code 5 = .ok (.iload_n 2, 1) := by decide +kernel
theorem s_Drf_stands_5 {l0 l1 l3 l4 : Option ex_V} {x : Int32} (k : ex_E Γ d M_Drf_stands 6 [l0, l1, some (.inl x), l3, l4] (.inl x :: st) K I F b Q) : ex_E Γ d M_Drf_stands 5 [l0, l1, some (.inl x), l3, l4] (st) K I F b Q := ex_iload_n d_Drf_stands_5 rfl k
theorem d_Drf_stands_6 : decode prog_4_method_8_code 6 = .ok (.isub, 1) := by decide +kernel
theorem s_Drf_stands_6 {l0 l1 l2 l3 l4 : Option ex_V} {x y : Int32} (k : ex_E Γ d M_Drf_stands 7 [l0, l1, l2, l3, l4] (.inl (x - y) :: st) K I F b Q) : ex_E Γ d M_Drf_stands 6 [l0, l1, l2, l3, l4] (.inl y :: .inl x :: st) K I F b Q := ex_isub d_Drf_stands_6 k
theorem d_Drf_stands_7 : decode prog_4_method_8_code 7 = .ok (.if_icmp .eq 5, 3) := by decide +kernel
theorem s_Drf_stands_7 {l0 l1 l2 l3 l4 : Option ex_V} {x y : Int32} (kt : x = y → ex_E Γ d M_Drf_stands 12 [l0, l1, l2, l3, l4] (st) K I F b Q) (kf : ¬ x = y → ex_E Γ d M_Drf_stands 10 [l0, l1, l2, l3, l4] (st) K I F b Q) : ex_E Γ d M_Drf_stands 7 [l0, l1, l2, l3, l4] (.inl y :: .inl x :: st) K I F b Q := ex_icmp_eq d_Drf_stands_7 (by decide) kt kf
theorem d_Drf_stands_10 : decode prog_4_method_8_code 10 = .ok (.iconst 0, 1) := by decide +kernel
theorem s_Drf_stands_10 {l0 l1 l2 l3 l4 : Option ex_V} (k : ex_E Γ d M_Drf_stands 11 [l0, l1, l2, l3, l4] (.inl 0 :: st) K I F b Q) : ex_E Γ d M_Drf_stands 10 [l0, l1, l2, l3, l4] (st) K I F b Q := ex_iconst d_Drf_stands_10 (by decide +kernel) k
theorem d_Drf_stands_11 : decode prog_4_method_8_code 11 = .ok (.ireturn, 1) := by decide +kernel
theorem s_Drf_stands_11 {l0 l1 l2 l3 l4 : Option ex_V} {x : Int32} (hn : narrow .boolean (.int x) = .int x) (hq : Q (some (.inl x)) K I F) : ex_E Γ d M_Drf_stands 11 [l0, l1, l2, l3, l4] ([.inl x]) K I F b Q := ex_zret d_Drf_stands_11 rfl hn hq
theorem d_Drf_stands_12 : decode prog_4_method_8_code 12 = .ok (.iload_n 2, 1) := by decide +kernel
theorem s_Drf_stands_12 {l0 l1 l3 l4 : Option ex_V} {x : Int32} (k : ex_E Γ d M_Drf_stands 13 [l0, l1, some (.inl x), l3, l4] (.inl x :: st) K I F b Q) : ex_E Γ d M_Drf_stands 12 [l0, l1, some (.inl x), l3, l4] (st) K I F b Q := ex_iload_n d_Drf_stands_12 rfl k
theorem d_Drf_stands_13 : decode prog_4_method_8_code 13 = .ok (.istore 4, 2) := by decide +kernel
theorem s_Drf_stands_13 {l0 l1 l2 l3 l4 : Option ex_V} {x : Int32} (k : ex_E Γ d M_Drf_stands 15 [l0, l1, l2, l3, some (.inl x)] (st) K I F b Q) : ex_E Γ d M_Drf_stands 13 [l0, l1, l2, l3, l4] (.inl x :: st) K I F b Q := ex_istore d_Drf_stands_13 (Nat.le_of_ble_eq_true rfl) k
theorem d_Drf_stands_15 : decode prog_4_method_8_code 15 = .ok (.iload 4, 2) := by decide +kernel
theorem s_Drf_stands_15 {l0 l1 l2 l3 : Option ex_V} {x : Int32} (k : ex_E Γ d M_Drf_stands 17 [l0, l1, l2, l3, some (.inl x)] (.inl x :: st) K I F b Q) : ex_E Γ d M_Drf_stands 15 [l0, l1, l2, l3, some (.inl x)] (st) K I F b Q := ex_iload d_Drf_stands_15 rfl k
theorem d_Drf_stands_17 : decode prog_4_method_8_code 17 = .ok (.iload_n 3, 1) := by decide +kernel
theorem s_Drf_stands_17 {l0 l1 l2 l4 : Option ex_V} {x : Int32} (k : ex_E Γ d M_Drf_stands 18 [l0, l1, l2, some (.inl x), l4] (.inl x :: st) K I F b Q) : ex_E Γ d M_Drf_stands 17 [l0, l1, l2, some (.inl x), l4] (st) K I F b Q := ex_iload_n d_Drf_stands_17 rfl k
theorem d_Drf_stands_18 : decode prog_4_method_8_code 18 = .ok (.if_icmp .ge 29, 3) := by decide +kernel
theorem s_Drf_stands_18 {l0 l1 l2 l3 l4 : Option ex_V} {x y : Int32} (kt : y ≤ x → ex_E Γ d M_Drf_stands 47 [l0, l1, l2, l3, l4] (st) K I F b Q) (kf : ¬ y ≤ x → ex_E Γ d M_Drf_stands 21 [l0, l1, l2, l3, l4] (st) K I F b Q) : ex_E Γ d M_Drf_stands 18 [l0, l1, l2, l3, l4] (.inl y :: .inl x :: st) K I F b Q := ex_icmp_ge d_Drf_stands_18 (by decide) kt kf
theorem d_Drf_stands_21 : decode prog_4_method_8_code 21 = .ok (.aload_n 0, 1) := by decide +kernel
theorem s_Drf_stands_21 {l1 l2 l3 l4 : Option ex_V} {r : Option Nat} (k : ex_E Γ d M_Drf_stands 22 [some (.inr r), l1, l2, l3, l4] (.inr r :: st) K I F b Q) : ex_E Γ d M_Drf_stands 21 [some (.inr r), l1, l2, l3, l4] (st) K I F b Q := ex_aload_n d_Drf_stands_21 rfl k
theorem d_Drf_stands_22 : decode prog_4_method_8_code 22 = .ok (.getfield 11, 3) := by decide +kernel
theorem s_Drf_stands_22 {l0 l1 l2 l3 l4 : Option ex_V} {r : Option Nat} {a : Nat} (hr : r = some a) (ha : (K a).1 = 3) (k : ex_E Γ d M_Drf_stands 25 [l0, l1, l2, l3, l4] (.inr (F 228 a 0) :: st) K I F b Q) : ex_E Γ d M_Drf_stands 22 [l0, l1, l2, l3, l4] (.inr r :: st) K I F b Q := ex_get 0 d_Drf_stands_22 (ci := 2) rfl (by decide) rfl (by decide) rfl (inC_Drf _) (List.mem_cons_of_mem _ w_33) rfl hr ha k
theorem d_Drf_stands_25 : decode prog_4_method_8_code 25 = .ok (.iload 4, 2) := by decide +kernel
theorem s_Drf_stands_25 {l0 l1 l2 l3 : Option ex_V} {x : Int32} (k : ex_E Γ d M_Drf_stands 27 [l0, l1, l2, l3, some (.inl x)] (.inl x :: st) K I F b Q) : ex_E Γ d M_Drf_stands 25 [l0, l1, l2, l3, some (.inl x)] (st) K I F b Q := ex_iload d_Drf_stands_25 rfl k
theorem d_Drf_stands_27 : decode prog_4_method_8_code 27 = .ok (.caload, 1) := by decide +kernel
theorem s_Drf_stands_27 {l0 l1 l2 l3 l4 : Option ex_V} {r : Option Nat} {a : Nat} {i : Int32} (hr : r = some a) (ha : (K a).1 = 22) (hi : vp_in i (K a).2) (k : ex_E Γ d M_Drf_stands 28 [l0, l1, l2, l3, l4] (.inl (I 22 a i.toNatClampNeg) :: st) K I F b Q) : ex_E Γ d M_Drf_stands 27 [l0, l1, l2, l3, l4] (.inl i :: .inr r :: st) K I F b Q := ex_caload d_Drf_stands_27 hr ha hi k
theorem d_Drf_stands_28 : decode prog_4_method_8_code 28 = .ok (.aload_n 1, 1) := by decide +kernel
theorem s_Drf_stands_28 {l0 l2 l3 l4 : Option ex_V} {r : Option Nat} (k : ex_E Γ d M_Drf_stands 29 [l0, some (.inr r), l2, l3, l4] (.inr r :: st) K I F b Q) : ex_E Γ d M_Drf_stands 28 [l0, some (.inr r), l2, l3, l4] (st) K I F b Q := ex_aload_n d_Drf_stands_28 rfl k
theorem d_Drf_stands_29 : decode prog_4_method_8_code 29 = .ok (.iload 4, 2) := by decide +kernel
theorem s_Drf_stands_29 {l0 l1 l2 l3 : Option ex_V} {x : Int32} (k : ex_E Γ d M_Drf_stands 31 [l0, l1, l2, l3, some (.inl x)] (.inl x :: st) K I F b Q) : ex_E Γ d M_Drf_stands 29 [l0, l1, l2, l3, some (.inl x)] (st) K I F b Q := ex_iload d_Drf_stands_29 rfl k
theorem d_Drf_stands_31 : decode prog_4_method_8_code 31 = .ok (.iload_n 2, 1) := by decide +kernel
theorem s_Drf_stands_31 {l0 l1 l3 l4 : Option ex_V} {x : Int32} (k : ex_E Γ d M_Drf_stands 32 [l0, l1, some (.inl x), l3, l4] (.inl x :: st) K I F b Q) : ex_E Γ d M_Drf_stands 31 [l0, l1, some (.inl x), l3, l4] (st) K I F b Q := ex_iload_n d_Drf_stands_31 rfl k
theorem d_Drf_stands_32 : decode prog_4_method_8_code 32 = .ok (.isub, 1) := by decide +kernel
theorem s_Drf_stands_32 {l0 l1 l2 l3 l4 : Option ex_V} {x y : Int32} (k : ex_E Γ d M_Drf_stands 33 [l0, l1, l2, l3, l4] (.inl (x - y) :: st) K I F b Q) : ex_E Γ d M_Drf_stands 32 [l0, l1, l2, l3, l4] (.inl y :: .inl x :: st) K I F b Q := ex_isub d_Drf_stands_32 k
theorem d_Drf_stands_33 : decode prog_4_method_8_code 33 = .ok (.invokevirtual 54, 3) := by decide +kernel
theorem s_Drf_stands_33 {l0 l1 l2 l3 l4 : Option ex_V} {i : Nat} {x0 : Int32} {b1 b2 : Nat} {Q1 : Option ex_V → ex_K → ex_I → ex_F → Prop} (hi : i < 7) (h : ex_E Γ d M_Str_charAt 0 [some (.inr (some (Γ.2.2.2.1 i))), some (.inl x0)] [] K I F b1 Q1) (kk : ∀ r K' I' F', Q1 r K' I' F' → ex_E Γ (d + 1) M_Drf_stands 36 [l0, l1, l2, l3, l4] (r.toList ++ st) K' I' F' b2 Q) (hbb : b1 + b2 ≤ b) (hst : st.length ≤ 8 := by first | exact Nat.le_of_ble_eq_true rfl | simp) : ex_E Γ (d + 1) M_Drf_stands 33 [l0, l1, l2, l3, l4] (.inl x0 :: .inr (some (Γ.2.2.2.1 i)) :: st) K I F b Q := by
  exact ex_callVS (Mc := M_Str_charAt) (n := 1) (av := [.inl x0]) d_Drf_stands_33 (by decide) rfl rfl (by decide) hi (ex_good w_322) (List.mem_cons_of_mem _ w_319) (List.mem_cons_of_mem _ w_12) (List.mem_cons_of_mem _ w_320) (List.mem_cons_of_mem _ w_321) ⟨by decide +kernel, by decide +kernel, by decide +kernel⟩ rfl (Nat.le_of_ble_eq_true rfl) hst h hbb kk
theorem d_Drf_stands_36 : decode prog_4_method_8_code 36 = .ok (.if_icmp .eq 5, 3) := by decide +kernel
theorem s_Drf_stands_36 {l0 l1 l2 l3 l4 : Option ex_V} {x y : Int32} (kt : x = y → ex_E Γ d M_Drf_stands 41 [l0, l1, l2, l3, l4] (st) K I F b Q) (kf : ¬ x = y → ex_E Γ d M_Drf_stands 39 [l0, l1, l2, l3, l4] (st) K I F b Q) : ex_E Γ d M_Drf_stands 36 [l0, l1, l2, l3, l4] (.inl y :: .inl x :: st) K I F b Q := ex_icmp_eq d_Drf_stands_36 (by decide) kt kf
theorem d_Drf_stands_39 : decode prog_4_method_8_code 39 = .ok (.iconst 0, 1) := by decide +kernel
theorem s_Drf_stands_39 {l0 l1 l2 l3 l4 : Option ex_V} (k : ex_E Γ d M_Drf_stands 40 [l0, l1, l2, l3, l4] (.inl 0 :: st) K I F b Q) : ex_E Γ d M_Drf_stands 39 [l0, l1, l2, l3, l4] (st) K I F b Q := ex_iconst d_Drf_stands_39 (by decide +kernel) k
theorem d_Drf_stands_40 : decode prog_4_method_8_code 40 = .ok (.ireturn, 1) := by decide +kernel
theorem s_Drf_stands_40 {l0 l1 l2 l3 l4 : Option ex_V} {x : Int32} (hn : narrow .boolean (.int x) = .int x) (hq : Q (some (.inl x)) K I F) : ex_E Γ d M_Drf_stands 40 [l0, l1, l2, l3, l4] ([.inl x]) K I F b Q := ex_zret d_Drf_stands_40 rfl hn hq
theorem d_Drf_stands_41 : decode prog_4_method_8_code 41 = .ok (.iinc 4 1, 3) := by decide +kernel
theorem s_Drf_stands_41 {l0 l1 l2 l3 : Option ex_V} {x : Int32} (k : ex_E Γ d M_Drf_stands 44 [l0, l1, l2, l3, some (.inl (x + 1))] (st) K I F b Q) : ex_E Γ d M_Drf_stands 41 [l0, l1, l2, l3, some (.inl x)] (st) K I F b Q := ex_iinc (x := x) (v := x + 1) d_Drf_stands_41 rfl rfl (Nat.le_of_ble_eq_true rfl) k
theorem d_Drf_stands_44 : decode prog_4_method_8_code 44 = .ok (.goto (-29), 3) := by decide +kernel
theorem s_Drf_stands_44 {l0 l1 l2 l3 l4 : Option ex_V} (k : ex_E Γ d M_Drf_stands 15 [l0, l1, l2, l3, l4] (st) K I F b Q) : ex_E Γ d M_Drf_stands 44 [l0, l1, l2, l3, l4] (st) K I F b Q := ex_goto d_Drf_stands_44 (by decide) k
theorem d_Drf_stands_47 : decode prog_4_method_8_code 47 = .ok (.iconst 1, 1) := by decide +kernel
theorem s_Drf_stands_47 {l0 l1 l2 l3 l4 : Option ex_V} (k : ex_E Γ d M_Drf_stands 48 [l0, l1, l2, l3, l4] (.inl 1 :: st) K I F b Q) : ex_E Γ d M_Drf_stands 47 [l0, l1, l2, l3, l4] (st) K I F b Q := ex_iconst d_Drf_stands_47 (by decide +kernel) k
theorem d_Drf_stands_48 : decode prog_4_method_8_code 48 = .ok (.ireturn, 1) := by decide +kernel
theorem s_Drf_stands_48 {l0 l1 l2 l3 l4 : Option ex_V} {x : Int32} (hn : narrow .boolean (.int x) = .int x) (hq : Q (some (.inl x)) K I F) : ex_E Γ d M_Drf_stands 48 [l0, l1, l2, l3, l4] ([.inl x]) K I F b Q := ex_zret d_Drf_stands_48 rfl hn hq
theorem d_Ctl_learn_0 : decode prog_3_method_3_code 0 = .ok (.aload_n 0, 1) := by decide +kernel
theorem s_Ctl_learn_0 {l1 l2 : Option ex_V} {r : Option Nat} (k : ex_E Γ d M_Ctl_learn 1 [some (.inr r), l1, l2] (.inr r :: st) K I F b Q) : ex_E Γ d M_Ctl_learn 0 [some (.inr r), l1, l2] (st) K I F b Q := ex_aload_n d_Ctl_learn_0 rfl k
theorem d_Ctl_learn_1 : decode prog_3_method_3_code 1 = .ok (.iload_n 1, 1) := by decide +kernel
theorem s_Ctl_learn_1 {l0 l2 : Option ex_V} {x : Int32} (k : ex_E Γ d M_Ctl_learn 2 [l0, some (.inl x), l2] (.inl x :: st) K I F b Q) : ex_E Γ d M_Ctl_learn 1 [l0, some (.inl x), l2] (st) K I F b Q := ex_iload_n d_Ctl_learn_1 rfl k
theorem d_Ctl_learn_2 : decode prog_3_method_3_code 2 = .ok (.invokevirtual 35, 3) := by decide +kernel
theorem s_Ctl_learn_2 {l0 l1 l2 : Option ex_V} {r : Option Nat} {a : Nat} {x0 : Int32} {b1 b2 : Nat} {Q1 : Option ex_V → ex_K → ex_I → ex_F → Prop} (hr : r = some a) (ha : (K a).1 = 2) (h : ex_E Γ d M_Ctl_has 0 [some (.inr (some a)), some (.inl x0)] [] K I F b1 Q1) (kk : ∀ r K' I' F', Q1 r K' I' F' → ex_E Γ (d + 1) M_Ctl_learn 5 [l0, l1, l2] (r.toList ++ st) K' I' F' b2 Q) (hbb : b1 + b2 ≤ b) (hst : st.length ≤ 8 := by first | exact Nat.le_of_ble_eq_true rfl | simp) : ex_E Γ (d + 1) M_Ctl_learn 2 [l0, l1, l2] (.inl x0 :: .inr r :: st) K I F b Q := by
  subst hr
  exact ex_callV (Mc := M_Ctl_has) (n := 1) (av := [.inl x0]) (ci := 1) d_Ctl_learn_2 (by decide) rfl rfl (by decide) rfl (by decide) (ex_good w_364) (List.mem_cons_of_mem _ w_361) (List.mem_cons_of_mem _ w_6) (List.mem_cons_of_mem _ w_362) (List.mem_cons_of_mem _ w_363) ⟨by decide +kernel, by decide +kernel, by decide +kernel⟩ rfl (Nat.le_of_ble_eq_true rfl) hst ha h hbb kk
theorem d_Ctl_learn_5 : decode prog_3_method_3_code 5 = .ok (.ifCond .ne 10, 3) := by decide +kernel
theorem s_Ctl_learn_5 {l0 l1 l2 : Option ex_V} {x : Int32} (kt : ¬ x = 0 → ex_E Γ d M_Ctl_learn 15 [l0, l1, l2] (st) K I F b Q) (kf : x = 0 → ex_E Γ d M_Ctl_learn 8 [l0, l1, l2] (st) K I F b Q) : ex_E Γ d M_Ctl_learn 5 [l0, l1, l2] (.inl x :: st) K I F b Q := ex_if_ne d_Ctl_learn_5 (by decide) kt kf
theorem d_Ctl_learn_8 : decode prog_3_method_3_code 8 = .ok (.aload_n 0, 1) := by decide +kernel
theorem s_Ctl_learn_8 {l1 l2 : Option ex_V} {r : Option Nat} (k : ex_E Γ d M_Ctl_learn 9 [some (.inr r), l1, l2] (.inr r :: st) K I F b Q) : ex_E Γ d M_Ctl_learn 8 [some (.inr r), l1, l2] (st) K I F b Q := ex_aload_n d_Ctl_learn_8 rfl k
theorem d_Ctl_learn_9 : decode prog_3_method_3_code 9 = .ok (.getfield 11, 3) := by decide +kernel
theorem s_Ctl_learn_9 {l0 l1 l2 : Option ex_V} {r : Option Nat} {a : Nat} (hr : r = some a) (ha : (K a).1 = 2) (k : ex_E Γ d M_Ctl_learn 12 [l0, l1, l2] (.inr (F 164 a 0) :: st) K I F b Q) : ex_E Γ d M_Ctl_learn 9 [l0, l1, l2] (.inr r :: st) K I F b Q := ex_get 0 d_Ctl_learn_9 (ci := 1) rfl (by decide) rfl (by decide) rfl (inC_Ctl _) (List.mem_cons_of_mem _ w_90) rfl hr ha k
theorem d_Ctl_learn_12 : decode prog_3_method_3_code 12 = .ok (.iload_n 1, 1) := by decide +kernel
theorem s_Ctl_learn_12 {l0 l2 : Option ex_V} {x : Int32} (k : ex_E Γ d M_Ctl_learn 13 [l0, some (.inl x), l2] (.inl x :: st) K I F b Q) : ex_E Γ d M_Ctl_learn 12 [l0, some (.inl x), l2] (st) K I F b Q := ex_iload_n d_Ctl_learn_12 rfl k
theorem d_Ctl_learn_13 : decode prog_3_method_3_code 13 = .ok (.iload_n 2, 1) := by decide +kernel
theorem s_Ctl_learn_13 {l0 l1 : Option ex_V} {x : Int32} (k : ex_E Γ d M_Ctl_learn 14 [l0, l1, some (.inl x)] (.inl x :: st) K I F b Q) : ex_E Γ d M_Ctl_learn 13 [l0, l1, some (.inl x)] (st) K I F b Q := ex_iload_n d_Ctl_learn_13 rfl k
theorem d_Ctl_learn_14 : decode prog_3_method_3_code 14 = .ok (.iastore, 1) := by decide +kernel
theorem s_Ctl_learn_14 {l0 l1 l2 : Option ex_V} {r : Option Nat} {a : Nat} {i x : Int32} (hr : r = some a) (ha : (K a).1 = 21) (hi : vp_in i (K a).2) (k : ex_E Γ d M_Ctl_learn 15 [l0, l1, l2] (st) K (ex_ui I 21 a i.toNatClampNeg x) F b Q) : ex_E Γ d M_Ctl_learn 14 [l0, l1, l2] (.inl x :: .inl i :: .inr r :: st) K I F b Q := ex_iastore d_Ctl_learn_14 hr ha hi k
theorem d_Ctl_learn_15 : decode prog_3_method_3_code 15 = .ok (.return_, 1) := by decide +kernel
theorem s_Ctl_learn_15 {l0 l1 l2 : Option ex_V} (hq : Q none K I F) : ex_E Γ d M_Ctl_learn 15 [l0, l1, l2] ([]) K I F b Q := ex_vret d_Ctl_learn_15 rfl hq
theorem d_Ctl_has_0 : decode prog_3_method_4_code 0 = .ok (.aload_n 0, 1) := by decide +kernel
theorem s_Ctl_has_0 {l1 : Option ex_V} {r : Option Nat} (k : ex_E Γ d M_Ctl_has 1 [some (.inr r), l1] (.inr r :: st) K I F b Q) : ex_E Γ d M_Ctl_has 0 [some (.inr r), l1] (st) K I F b Q := ex_aload_n d_Ctl_has_0 rfl k
theorem d_Ctl_has_1 : decode prog_3_method_4_code 1 = .ok (.getfield 11, 3) := by decide +kernel
theorem s_Ctl_has_1 {l0 l1 : Option ex_V} {r : Option Nat} {a : Nat} (hr : r = some a) (ha : (K a).1 = 2) (k : ex_E Γ d M_Ctl_has 4 [l0, l1] (.inr (F 164 a 0) :: st) K I F b Q) : ex_E Γ d M_Ctl_has 1 [l0, l1] (.inr r :: st) K I F b Q := ex_get 0 d_Ctl_has_1 (ci := 1) rfl (by decide) rfl (by decide) rfl (inC_Ctl _) (List.mem_cons_of_mem _ w_90) rfl hr ha k
theorem d_Ctl_has_4 : decode prog_3_method_4_code 4 = .ok (.iload_n 1, 1) := by decide +kernel
theorem s_Ctl_has_4 {l0 : Option ex_V} {x : Int32} (k : ex_E Γ d M_Ctl_has 5 [l0, some (.inl x)] (.inl x :: st) K I F b Q) : ex_E Γ d M_Ctl_has 4 [l0, some (.inl x)] (st) K I F b Q := ex_iload_n d_Ctl_has_4 rfl k
theorem d_Ctl_has_5 : decode prog_3_method_4_code 5 = .ok (.iaload, 1) := by decide +kernel
theorem s_Ctl_has_5 {l0 l1 : Option ex_V} {r : Option Nat} {a : Nat} {i : Int32} (hr : r = some a) (ha : (K a).1 = 21) (hi : vp_in i (K a).2) (k : ex_E Γ d M_Ctl_has 6 [l0, l1] (.inl (I 21 a i.toNatClampNeg) :: st) K I F b Q) : ex_E Γ d M_Ctl_has 5 [l0, l1] (.inl i :: .inr r :: st) K I F b Q := ex_iaload d_Ctl_has_5 hr ha hi k
theorem d_Ctl_has_6 : decode prog_3_method_4_code 6 = .ok (.iconst (-1), 1) := by decide +kernel
theorem s_Ctl_has_6 {l0 l1 : Option ex_V} (k : ex_E Γ d M_Ctl_has 7 [l0, l1] (.inl (-1) :: st) K I F b Q) : ex_E Γ d M_Ctl_has 6 [l0, l1] (st) K I F b Q := ex_iconst d_Ctl_has_6 (by decide +kernel) k
theorem d_Ctl_has_7 : decode prog_3_method_4_code 7 = .ok (.if_icmp .eq 7, 3) := by decide +kernel
theorem s_Ctl_has_7 {l0 l1 : Option ex_V} {x y : Int32} (kt : x = y → ex_E Γ d M_Ctl_has 14 [l0, l1] (st) K I F b Q) (kf : ¬ x = y → ex_E Γ d M_Ctl_has 10 [l0, l1] (st) K I F b Q) : ex_E Γ d M_Ctl_has 7 [l0, l1] (.inl y :: .inl x :: st) K I F b Q := ex_icmp_eq d_Ctl_has_7 (by decide) kt kf
theorem d_Ctl_has_10 : decode prog_3_method_4_code 10 = .ok (.iconst 1, 1) := by decide +kernel
theorem s_Ctl_has_10 {l0 l1 : Option ex_V} (k : ex_E Γ d M_Ctl_has 11 [l0, l1] (.inl 1 :: st) K I F b Q) : ex_E Γ d M_Ctl_has 10 [l0, l1] (st) K I F b Q := ex_iconst d_Ctl_has_10 (by decide +kernel) k
theorem d_Ctl_has_11 : decode prog_3_method_4_code 11 = .ok (.goto 4, 3) := by decide +kernel
theorem s_Ctl_has_11 {l0 l1 : Option ex_V} (k : ex_E Γ d M_Ctl_has 15 [l0, l1] (st) K I F b Q) : ex_E Γ d M_Ctl_has 11 [l0, l1] (st) K I F b Q := ex_goto d_Ctl_has_11 (by decide) k
theorem d_Ctl_has_14 : decode prog_3_method_4_code 14 = .ok (.iconst 0, 1) := by decide +kernel
theorem s_Ctl_has_14 {l0 l1 : Option ex_V} (k : ex_E Γ d M_Ctl_has 15 [l0, l1] (.inl 0 :: st) K I F b Q) : ex_E Γ d M_Ctl_has 14 [l0, l1] (st) K I F b Q := ex_iconst d_Ctl_has_14 (by decide +kernel) k
theorem d_Ctl_has_15 : decode prog_3_method_4_code 15 = .ok (.ireturn, 1) := by decide +kernel
theorem s_Ctl_has_15 {l0 l1 : Option ex_V} {x : Int32} (hn : narrow .boolean (.int x) = .int x) (hq : Q (some (.inl x)) K I F) : ex_E Γ d M_Ctl_has 15 [l0, l1] ([.inl x]) K I F b Q := ex_zret d_Ctl_has_15 rfl hn hq
theorem d_Res_isAbsent_0 : decode prog_9_method_2_code 0 = .ok (.aload_n 0, 1) := by decide +kernel
theorem s_Res_isAbsent_0 {r : Option Nat} (k : ex_E Γ d M_Res_isAbsent 1 [some (.inr r)] (.inr r :: st) K I F b Q) : ex_E Γ d M_Res_isAbsent 0 [some (.inr r)] (st) K I F b Q := ex_aload_n d_Res_isAbsent_0 rfl k
theorem d_Res_isAbsent_1 : decode prog_9_method_2_code 1 = .ok (.getfield 7, 3) := by decide +kernel
theorem s_Res_isAbsent_1 {l0 : Option ex_V} {r : Option Nat} {a : Nat} (hr : r = some a) (ha : (K a).1 = 4) (k : ex_E Γ d M_Res_isAbsent 4 [l0] (.inl (I 292 a 0) :: st) K I F b Q) : ex_E Γ d M_Res_isAbsent 1 [l0] (.inr r :: st) K I F b Q := ex_get 0 d_Res_isAbsent_1 (ci := 3) rfl (by decide) rfl (by decide) rfl (inC_Res _) (List.mem_cons_of_mem _ w_99) rfl hr ha k
theorem d_Res_isAbsent_4 : decode prog_9_method_2_code 4 = .ok (.ifCond .ne 7, 3) := by decide +kernel
theorem s_Res_isAbsent_4 {l0 : Option ex_V} {x : Int32} (kt : ¬ x = 0 → ex_E Γ d M_Res_isAbsent 11 [l0] (st) K I F b Q) (kf : x = 0 → ex_E Γ d M_Res_isAbsent 7 [l0] (st) K I F b Q) : ex_E Γ d M_Res_isAbsent 4 [l0] (.inl x :: st) K I F b Q := ex_if_ne d_Res_isAbsent_4 (by decide) kt kf
theorem d_Res_isAbsent_7 : decode prog_9_method_2_code 7 = .ok (.iconst 1, 1) := by decide +kernel
theorem s_Res_isAbsent_7 {l0 : Option ex_V} (k : ex_E Γ d M_Res_isAbsent 8 [l0] (.inl 1 :: st) K I F b Q) : ex_E Γ d M_Res_isAbsent 7 [l0] (st) K I F b Q := ex_iconst d_Res_isAbsent_7 (by decide +kernel) k
theorem d_Res_isAbsent_8 : decode prog_9_method_2_code 8 = .ok (.goto 4, 3) := by decide +kernel
theorem s_Res_isAbsent_8 {l0 : Option ex_V} (k : ex_E Γ d M_Res_isAbsent 12 [l0] (st) K I F b Q) : ex_E Γ d M_Res_isAbsent 8 [l0] (st) K I F b Q := ex_goto d_Res_isAbsent_8 (by decide) k
theorem d_Res_isAbsent_11 : decode prog_9_method_2_code 11 = .ok (.iconst 0, 1) := by decide +kernel
theorem s_Res_isAbsent_11 {l0 : Option ex_V} (k : ex_E Γ d M_Res_isAbsent 12 [l0] (.inl 0 :: st) K I F b Q) : ex_E Γ d M_Res_isAbsent 11 [l0] (st) K I F b Q := ex_iconst d_Res_isAbsent_11 (by decide +kernel) k
theorem d_Res_isAbsent_12 : decode prog_9_method_2_code 12 = .ok (.ireturn, 1) := by decide +kernel
theorem s_Res_isAbsent_12 {l0 : Option ex_V} {x : Int32} (hn : narrow .boolean (.int x) = .int x) (hq : Q (some (.inl x)) K I F) : ex_E Γ d M_Res_isAbsent 12 [l0] ([.inl x]) K I F b Q := ex_zret d_Res_isAbsent_12 rfl hn hq
theorem d_Ent_matches_0 : decode prog_5_method_2_code 0 = .ok (.aload_n 0, 1) := by decide +kernel
theorem s_Ent_matches_0 {l1 l2 : Option ex_V} {r : Option Nat} (k : ex_E Γ d M_Ent_matches 1 [some (.inr r), l1, l2] (.inr r :: st) K I F b Q) : ex_E Γ d M_Ent_matches 0 [some (.inr r), l1, l2] (st) K I F b Q := ex_aload_n d_Ent_matches_0 rfl k
theorem d_Ent_matches_1 : decode prog_5_method_2_code 1 = .ok (.getfield 7, 3) := by decide +kernel
theorem s_Ent_matches_1 {l0 l1 l2 : Option ex_V} {r : Option Nat} {a : Nat} (hr : r = some a) (ha : (K a).1 = 5) (k : ex_E Γ d M_Ent_matches 4 [l0, l1, l2] (.inl (I 356 a 0) :: st) K I F b Q) : ex_E Γ d M_Ent_matches 1 [l0, l1, l2] (.inr r :: st) K I F b Q := ex_get 0 d_Ent_matches_1 (ci := 4) rfl (by decide) rfl (by decide) rfl (inC_Ent _) (List.mem_cons_of_mem _ w_596) rfl hr ha k
theorem d_Ent_matches_4 : decode prog_5_method_2_code 4 = .ok (.iload_n 1, 1) := by decide +kernel
theorem s_Ent_matches_4 {l0 l2 : Option ex_V} {x : Int32} (k : ex_E Γ d M_Ent_matches 5 [l0, some (.inl x), l2] (.inl x :: st) K I F b Q) : ex_E Γ d M_Ent_matches 4 [l0, some (.inl x), l2] (st) K I F b Q := ex_iload_n d_Ent_matches_4 rfl k
theorem d_Ent_matches_5 : decode prog_5_method_2_code 5 = .ok (.if_icmp .ne 25, 3) := by decide +kernel
theorem s_Ent_matches_5 {l0 l1 l2 : Option ex_V} {x y : Int32} (kt : ¬ x = y → ex_E Γ d M_Ent_matches 30 [l0, l1, l2] (st) K I F b Q) (kf : x = y → ex_E Γ d M_Ent_matches 8 [l0, l1, l2] (st) K I F b Q) : ex_E Γ d M_Ent_matches 5 [l0, l1, l2] (.inl y :: .inl x :: st) K I F b Q := ex_icmp_ne d_Ent_matches_5 (by decide) kt kf
theorem d_Ent_matches_8 : decode prog_5_method_2_code 8 = .ok (.aload_n 0, 1) := by decide +kernel
theorem s_Ent_matches_8 {l1 l2 : Option ex_V} {r : Option Nat} (k : ex_E Γ d M_Ent_matches 9 [some (.inr r), l1, l2] (.inr r :: st) K I F b Q) : ex_E Γ d M_Ent_matches 8 [some (.inr r), l1, l2] (st) K I F b Q := ex_aload_n d_Ent_matches_8 rfl k
theorem d_Ent_matches_9 : decode prog_5_method_2_code 9 = .ok (.getfield 16, 3) := by decide +kernel
theorem s_Ent_matches_9 {l0 l1 l2 : Option ex_V} {r : Option Nat} {a : Nat} (hr : r = some a) (ha : (K a).1 = 5) (k : ex_E Γ d M_Ent_matches 12 [l0, l1, l2] (.inr (F 358 a 0) :: st) K I F b Q) : ex_E Γ d M_Ent_matches 9 [l0, l1, l2] (.inr r :: st) K I F b Q := ex_get 2 d_Ent_matches_9 (ci := 4) rfl (by decide) rfl (by decide) rfl (inC_Ent _) (List.mem_cons_of_mem _ w_602) rfl hr ha k
theorem d_Ent_matches_12 : decode prog_5_method_2_code 12 = .ok (.getfield 37, 3) := by decide +kernel
theorem s_Ent_matches_12 {l0 l1 l2 : Option ex_V} {r : Option Nat} {a : Nat} (hr : r = some a) (ha : (K a).1 = 4) (k : ex_E Γ d M_Ent_matches 15 [l0, l1, l2] (.inl (I 294 a 0) :: st) K I F b Q) : ex_E Γ d M_Ent_matches 12 [l0, l1, l2] (.inr r :: st) K I F b Q := ex_get 2 d_Ent_matches_12 (ci := 3) rfl (by decide) rfl (by decide) rfl (inC_Res _) (List.mem_cons_of_mem _ w_105) rfl hr ha k
theorem d_Ent_matches_15 : decode prog_5_method_2_code 15 = .ok (.ifCond .eq 11, 3) := by decide +kernel
theorem s_Ent_matches_15 {l0 l1 l2 : Option ex_V} {x : Int32} (kt : x = 0 → ex_E Γ d M_Ent_matches 26 [l0, l1, l2] (st) K I F b Q) (kf : ¬ x = 0 → ex_E Γ d M_Ent_matches 18 [l0, l1, l2] (st) K I F b Q) : ex_E Γ d M_Ent_matches 15 [l0, l1, l2] (.inl x :: st) K I F b Q := ex_if_eq d_Ent_matches_15 (by decide) kt kf
theorem d_Ent_matches_18 : decode prog_5_method_2_code 18 = .ok (.aload_n 0, 1) := by decide +kernel
theorem s_Ent_matches_18 {l1 l2 : Option ex_V} {r : Option Nat} (k : ex_E Γ d M_Ent_matches 19 [some (.inr r), l1, l2] (.inr r :: st) K I F b Q) : ex_E Γ d M_Ent_matches 18 [some (.inr r), l1, l2] (st) K I F b Q := ex_aload_n d_Ent_matches_18 rfl k
theorem d_Ent_matches_19 : decode prog_5_method_2_code 19 = .ok (.getfield 13, 3) := by decide +kernel
theorem s_Ent_matches_19 {l0 l1 l2 : Option ex_V} {r : Option Nat} {a : Nat} (hr : r = some a) (ha : (K a).1 = 5) (k : ex_E Γ d M_Ent_matches 22 [l0, l1, l2] (.inl (I 357 a 0) :: st) K I F b Q) : ex_E Γ d M_Ent_matches 19 [l0, l1, l2] (.inr r :: st) K I F b Q := ex_get 1 d_Ent_matches_19 (ci := 4) rfl (by decide) rfl (by decide) rfl (inC_Ent _) (List.mem_cons_of_mem _ w_599) rfl hr ha k
theorem d_Ent_matches_22 : decode prog_5_method_2_code 22 = .ok (.iload_n 2, 1) := by decide +kernel
theorem s_Ent_matches_22 {l0 l1 : Option ex_V} {x : Int32} (k : ex_E Γ d M_Ent_matches 23 [l0, l1, some (.inl x)] (.inl x :: st) K I F b Q) : ex_E Γ d M_Ent_matches 22 [l0, l1, some (.inl x)] (st) K I F b Q := ex_iload_n d_Ent_matches_22 rfl k
theorem d_Ent_matches_23 : decode prog_5_method_2_code 23 = .ok (.if_icmp .ne 7, 3) := by decide +kernel
theorem s_Ent_matches_23 {l0 l1 l2 : Option ex_V} {x y : Int32} (kt : ¬ x = y → ex_E Γ d M_Ent_matches 30 [l0, l1, l2] (st) K I F b Q) (kf : x = y → ex_E Γ d M_Ent_matches 26 [l0, l1, l2] (st) K I F b Q) : ex_E Γ d M_Ent_matches 23 [l0, l1, l2] (.inl y :: .inl x :: st) K I F b Q := ex_icmp_ne d_Ent_matches_23 (by decide) kt kf
theorem d_Ent_matches_26 : decode prog_5_method_2_code 26 = .ok (.iconst 1, 1) := by decide +kernel
theorem s_Ent_matches_26 {l0 l1 l2 : Option ex_V} (k : ex_E Γ d M_Ent_matches 27 [l0, l1, l2] (.inl 1 :: st) K I F b Q) : ex_E Γ d M_Ent_matches 26 [l0, l1, l2] (st) K I F b Q := ex_iconst d_Ent_matches_26 (by decide +kernel) k
theorem d_Ent_matches_27 : decode prog_5_method_2_code 27 = .ok (.goto 4, 3) := by decide +kernel
theorem s_Ent_matches_27 {l0 l1 l2 : Option ex_V} (k : ex_E Γ d M_Ent_matches 31 [l0, l1, l2] (st) K I F b Q) : ex_E Γ d M_Ent_matches 27 [l0, l1, l2] (st) K I F b Q := ex_goto d_Ent_matches_27 (by decide) k
theorem d_Ent_matches_30 : decode prog_5_method_2_code 30 = .ok (.iconst 0, 1) := by decide +kernel
theorem s_Ent_matches_30 {l0 l1 l2 : Option ex_V} (k : ex_E Γ d M_Ent_matches 31 [l0, l1, l2] (.inl 0 :: st) K I F b Q) : ex_E Γ d M_Ent_matches 30 [l0, l1, l2] (st) K I F b Q := ex_iconst d_Ent_matches_30 (by decide +kernel) k
theorem d_Ent_matches_31 : decode prog_5_method_2_code 31 = .ok (.ireturn, 1) := by decide +kernel
theorem s_Ent_matches_31 {l0 l1 l2 : Option ex_V} {x : Int32} (hn : narrow .boolean (.int x) = .int x) (hq : Q (some (.inl x)) K I F) : ex_E Γ d M_Ent_matches 31 [l0, l1, l2] ([.inl x]) K I F b Q := ex_zret d_Ent_matches_31 rfl hn hq
theorem d_Ent_serves_0 : decode prog_5_method_4_code 0 = .ok (.aload_n 0, 1) := by decide +kernel
theorem s_Ent_serves_0 {l1 l2 l3 l4 : Option ex_V} {r : Option Nat} (k : ex_E Γ d M_Ent_serves 1 [some (.inr r), l1, l2, l3, l4] (.inr r :: st) K I F b Q) : ex_E Γ d M_Ent_serves 0 [some (.inr r), l1, l2, l3, l4] (st) K I F b Q := ex_aload_n d_Ent_serves_0 rfl k
theorem d_Ent_serves_1 : decode prog_5_method_4_code 1 = .ok (.iload_n 2, 1) := by decide +kernel
theorem s_Ent_serves_1 {l0 l1 l3 l4 : Option ex_V} {x : Int32} (k : ex_E Γ d M_Ent_serves 2 [l0, l1, some (.inl x), l3, l4] (.inl x :: st) K I F b Q) : ex_E Γ d M_Ent_serves 1 [l0, l1, some (.inl x), l3, l4] (st) K I F b Q := ex_iload_n d_Ent_serves_1 rfl k
theorem d_Ent_serves_2 : decode prog_5_method_4_code 2 = .ok (.invokevirtual 41, 3) := by decide +kernel
theorem s_Ent_serves_2 {l0 l1 l2 l3 l4 : Option ex_V} {r : Option Nat} {a : Nat} {x0 : Int32} {b1 b2 : Nat} {Q1 : Option ex_V → ex_K → ex_I → ex_F → Prop} (hr : r = some a) (ha : (K a).1 = 5) (h : ex_E Γ d M_Ent_age 0 [some (.inr (some a)), some (.inl x0)] [] K I F b1 Q1) (kk : ∀ r K' I' F', Q1 r K' I' F' → ex_E Γ (d + 1) M_Ent_serves 5 [l0, l1, l2, l3, l4] (r.toList ++ st) K' I' F' b2 Q) (hbb : b1 + b2 ≤ b) (hst : st.length ≤ 8 := by first | exact Nat.le_of_ble_eq_true rfl | simp) : ex_E Γ (d + 1) M_Ent_serves 2 [l0, l1, l2, l3, l4] (.inl x0 :: .inr r :: st) K I F b Q := by
  subst hr
  exact ex_callV (Mc := M_Ent_age) (n := 1) (av := [.inl x0]) (ci := 4) d_Ent_serves_2 (by decide) rfl rfl (by decide) rfl (by decide) (ex_good w_470) (List.mem_cons_of_mem _ w_467) (List.mem_cons_of_mem _ w_18) (List.mem_cons_of_mem _ w_468) (List.mem_cons_of_mem _ w_469) ⟨by decide +kernel, by decide +kernel, by decide +kernel⟩ rfl (Nat.le_of_ble_eq_true rfl) hst ha h hbb kk
theorem d_Ent_serves_5 : decode prog_5_method_4_code 5 = .ok (.istore_n 3, 1) := by decide +kernel
theorem s_Ent_serves_5 {l0 l1 l2 l3 l4 : Option ex_V} {x : Int32} (k : ex_E Γ d M_Ent_serves 6 [l0, l1, l2, some (.inl x), l4] (st) K I F b Q) : ex_E Γ d M_Ent_serves 5 [l0, l1, l2, l3, l4] (.inl x :: st) K I F b Q := ex_istore_n d_Ent_serves_5 (Nat.le_of_ble_eq_true rfl) k
theorem d_Ent_serves_6 : decode prog_5_method_4_code 6 = .ok (.aload_n 0, 1) := by decide +kernel
theorem s_Ent_serves_6 {l1 l2 l3 l4 : Option ex_V} {r : Option Nat} (k : ex_E Γ d M_Ent_serves 7 [some (.inr r), l1, l2, l3, l4] (.inr r :: st) K I F b Q) : ex_E Γ d M_Ent_serves 6 [some (.inr r), l1, l2, l3, l4] (st) K I F b Q := ex_aload_n d_Ent_serves_6 rfl k
theorem d_Ent_serves_7 : decode prog_5_method_4_code 7 = .ok (.getfield 33, 3) := by decide +kernel
theorem s_Ent_serves_7 {l0 l1 l2 l3 l4 : Option ex_V} {r : Option Nat} {a : Nat} (hr : r = some a) (ha : (K a).1 = 5) (k : ex_E Γ d M_Ent_serves 10 [l0, l1, l2, l3, l4] (.inr (F 360 a 0) :: st) K I F b Q) : ex_E Γ d M_Ent_serves 7 [l0, l1, l2, l3, l4] (.inr r :: st) K I F b Q := ex_get 4 d_Ent_serves_7 (ci := 4) rfl (by decide) rfl (by decide) rfl (inC_Ent _) (List.mem_cons_of_mem _ w_608) rfl hr ha k
theorem d_Ent_serves_10 : decode prog_5_method_4_code 10 = .ok (.invokevirtual 44, 3) := by decide +kernel
theorem s_Ent_serves_10 {l0 l1 l2 l3 l4 : Option ex_V} {r : Option Nat} {a : Nat} {b1 b2 : Nat} {Q1 : Option ex_V → ex_K → ex_I → ex_F → Prop} (hr : r = some a) (ha : (K a).1 = 2) (h : ex_E Γ d M_Ctl_lifetime 0 [some (.inr (some a))] [] K I F b1 Q1) (kk : ∀ r K' I' F', Q1 r K' I' F' → ex_E Γ (d + 1) M_Ent_serves 13 [l0, l1, l2, l3, l4] (r.toList ++ st) K' I' F' b2 Q) (hbb : b1 + b2 ≤ b) (hst : st.length ≤ 8 := by first | exact Nat.le_of_ble_eq_true rfl | simp) : ex_E Γ (d + 1) M_Ent_serves 10 [l0, l1, l2, l3, l4] (.inr r :: st) K I F b Q := by
  subst hr
  exact ex_callV (Mc := M_Ctl_lifetime) (n := 0) (av := []) (ci := 1) d_Ent_serves_10 (by decide) rfl rfl (by decide) rfl (by decide) (ex_good w_474) (List.mem_cons_of_mem _ w_471) (List.mem_cons_of_mem _ w_6) (List.mem_cons_of_mem _ w_472) (List.mem_cons_of_mem _ w_473) ⟨by decide +kernel, by decide +kernel, by decide +kernel⟩ rfl (Nat.le_of_ble_eq_true rfl) hst ha h hbb kk
theorem d_Ent_serves_13 : decode prog_5_method_4_code 13 = .ok (.istore 4, 2) := by decide +kernel
theorem s_Ent_serves_13 {l0 l1 l2 l3 l4 : Option ex_V} {x : Int32} (k : ex_E Γ d M_Ent_serves 15 [l0, l1, l2, l3, some (.inl x)] (st) K I F b Q) : ex_E Γ d M_Ent_serves 13 [l0, l1, l2, l3, l4] (.inl x :: st) K I F b Q := ex_istore d_Ent_serves_13 (Nat.le_of_ble_eq_true rfl) k
theorem d_Ent_serves_15 : decode prog_5_method_4_code 15 = .ok (.aload_n 0, 1) := by decide +kernel
theorem s_Ent_serves_15 {l1 l2 l3 l4 : Option ex_V} {r : Option Nat} (k : ex_E Γ d M_Ent_serves 16 [some (.inr r), l1, l2, l3, l4] (.inr r :: st) K I F b Q) : ex_E Γ d M_Ent_serves 15 [some (.inr r), l1, l2, l3, l4] (st) K I F b Q := ex_aload_n d_Ent_serves_15 rfl k
theorem d_Ent_serves_16 : decode prog_5_method_4_code 16 = .ok (.getfield 33, 3) := by decide +kernel
theorem s_Ent_serves_16 {l0 l1 l2 l3 l4 : Option ex_V} {r : Option Nat} {a : Nat} (hr : r = some a) (ha : (K a).1 = 5) (k : ex_E Γ d M_Ent_serves 19 [l0, l1, l2, l3, l4] (.inr (F 360 a 0) :: st) K I F b Q) : ex_E Γ d M_Ent_serves 16 [l0, l1, l2, l3, l4] (.inr r :: st) K I F b Q := ex_get 4 d_Ent_serves_16 (ci := 4) rfl (by decide) rfl (by decide) rfl (inC_Ent _) (List.mem_cons_of_mem _ w_608) rfl hr ha k
theorem d_Ent_serves_19 : decode prog_5_method_4_code 19 = .ok (.iconst 0, 1) := by decide +kernel
theorem s_Ent_serves_19 {l0 l1 l2 l3 l4 : Option ex_V} (k : ex_E Γ d M_Ent_serves 20 [l0, l1, l2, l3, l4] (.inl 0 :: st) K I F b Q) : ex_E Γ d M_Ent_serves 19 [l0, l1, l2, l3, l4] (st) K I F b Q := ex_iconst d_Ent_serves_19 (by decide +kernel) k
theorem d_Ent_serves_20 : decode prog_5_method_4_code 20 = .ok (.invokevirtual 50, 3) := by decide +kernel
theorem s_Ent_serves_20 {l0 l1 l2 l3 l4 : Option ex_V} {r : Option Nat} {a : Nat} {x0 : Int32} {b1 b2 : Nat} {Q1 : Option ex_V → ex_K → ex_I → ex_F → Prop} (hr : r = some a) (ha : (K a).1 = 2) (h : ex_E Γ d M_Ctl_has 0 [some (.inr (some a)), some (.inl x0)] [] K I F b1 Q1) (kk : ∀ r K' I' F', Q1 r K' I' F' → ex_E Γ (d + 1) M_Ent_serves 23 [l0, l1, l2, l3, l4] (r.toList ++ st) K' I' F' b2 Q) (hbb : b1 + b2 ≤ b) (hst : st.length ≤ 8 := by first | exact Nat.le_of_ble_eq_true rfl | simp) : ex_E Γ (d + 1) M_Ent_serves 20 [l0, l1, l2, l3, l4] (.inl x0 :: .inr r :: st) K I F b Q := by
  subst hr
  exact ex_callV (Mc := M_Ctl_has) (n := 1) (av := [.inl x0]) (ci := 1) d_Ent_serves_20 (by decide) rfl rfl (by decide) rfl (by decide) (ex_good w_364) (List.mem_cons_of_mem _ w_479) (List.mem_cons_of_mem _ w_6) (List.mem_cons_of_mem _ w_362) (List.mem_cons_of_mem _ w_363) ⟨by decide +kernel, by decide +kernel, by decide +kernel⟩ rfl (Nat.le_of_ble_eq_true rfl) hst ha h hbb kk
theorem d_Ent_serves_23 : decode prog_5_method_4_code 23 = .ok (.ifCond .ne 11, 3) := by decide +kernel
theorem s_Ent_serves_23 {l0 l1 l2 l3 l4 : Option ex_V} {x : Int32} (kt : ¬ x = 0 → ex_E Γ d M_Ent_serves 34 [l0, l1, l2, l3, l4] (st) K I F b Q) (kf : x = 0 → ex_E Γ d M_Ent_serves 26 [l0, l1, l2, l3, l4] (st) K I F b Q) : ex_E Γ d M_Ent_serves 23 [l0, l1, l2, l3, l4] (.inl x :: st) K I F b Q := ex_if_ne d_Ent_serves_23 (by decide) kt kf
theorem d_Ent_serves_26 : decode prog_5_method_4_code 26 = .ok (.aload_n 1, 1) := by decide +kernel
theorem s_Ent_serves_26 {l0 l2 l3 l4 : Option ex_V} {r : Option Nat} (k : ex_E Γ d M_Ent_serves 27 [l0, some (.inr r), l2, l3, l4] (.inr r :: st) K I F b Q) : ex_E Γ d M_Ent_serves 26 [l0, some (.inr r), l2, l3, l4] (st) K I F b Q := ex_aload_n d_Ent_serves_26 rfl k
theorem d_Ent_serves_27 : decode prog_5_method_4_code 27 = .ok (.iconst 0, 1) := by decide +kernel
theorem s_Ent_serves_27 {l0 l1 l2 l3 l4 : Option ex_V} (k : ex_E Γ d M_Ent_serves 28 [l0, l1, l2, l3, l4] (.inl 0 :: st) K I F b Q) : ex_E Γ d M_Ent_serves 27 [l0, l1, l2, l3, l4] (st) K I F b Q := ex_iconst d_Ent_serves_27 (by decide +kernel) k
theorem d_Ent_serves_28 : decode prog_5_method_4_code 28 = .ok (.invokevirtual 50, 3) := by decide +kernel
theorem s_Ent_serves_28 {l0 l1 l2 l3 l4 : Option ex_V} {r : Option Nat} {a : Nat} {x0 : Int32} {b1 b2 : Nat} {Q1 : Option ex_V → ex_K → ex_I → ex_F → Prop} (hr : r = some a) (ha : (K a).1 = 2) (h : ex_E Γ d M_Ctl_has 0 [some (.inr (some a)), some (.inl x0)] [] K I F b1 Q1) (kk : ∀ r K' I' F', Q1 r K' I' F' → ex_E Γ (d + 1) M_Ent_serves 31 [l0, l1, l2, l3, l4] (r.toList ++ st) K' I' F' b2 Q) (hbb : b1 + b2 ≤ b) (hst : st.length ≤ 8 := by first | exact Nat.le_of_ble_eq_true rfl | simp) : ex_E Γ (d + 1) M_Ent_serves 28 [l0, l1, l2, l3, l4] (.inl x0 :: .inr r :: st) K I F b Q := by
  subst hr
  exact ex_callV (Mc := M_Ctl_has) (n := 1) (av := [.inl x0]) (ci := 1) d_Ent_serves_28 (by decide) rfl rfl (by decide) rfl (by decide) (ex_good w_364) (List.mem_cons_of_mem _ w_479) (List.mem_cons_of_mem _ w_6) (List.mem_cons_of_mem _ w_362) (List.mem_cons_of_mem _ w_363) ⟨by decide +kernel, by decide +kernel, by decide +kernel⟩ rfl (Nat.le_of_ble_eq_true rfl) hst ha h hbb kk
theorem d_Ent_serves_31 : decode prog_5_method_4_code 31 = .ok (.ifCond .eq 5, 3) := by decide +kernel
theorem s_Ent_serves_31 {l0 l1 l2 l3 l4 : Option ex_V} {x : Int32} (kt : x = 0 → ex_E Γ d M_Ent_serves 36 [l0, l1, l2, l3, l4] (st) K I F b Q) (kf : ¬ x = 0 → ex_E Γ d M_Ent_serves 34 [l0, l1, l2, l3, l4] (st) K I F b Q) : ex_E Γ d M_Ent_serves 31 [l0, l1, l2, l3, l4] (.inl x :: st) K I F b Q := ex_if_eq d_Ent_serves_31 (by decide) kt kf
theorem d_Ent_serves_34 : decode prog_5_method_4_code 34 = .ok (.iconst 0, 1) := by decide +kernel
theorem s_Ent_serves_34 {l0 l1 l2 l3 l4 : Option ex_V} (k : ex_E Γ d M_Ent_serves 35 [l0, l1, l2, l3, l4] (.inl 0 :: st) K I F b Q) : ex_E Γ d M_Ent_serves 34 [l0, l1, l2, l3, l4] (st) K I F b Q := ex_iconst d_Ent_serves_34 (by decide +kernel) k
theorem d_Ent_serves_35 : decode prog_5_method_4_code 35 = .ok (.ireturn, 1) := by decide +kernel
theorem s_Ent_serves_35 {l0 l1 l2 l3 l4 : Option ex_V} {x : Int32} (hn : narrow .boolean (.int x) = .int x) (hq : Q (some (.inl x)) K I F) : ex_E Γ d M_Ent_serves 35 [l0, l1, l2, l3, l4] ([.inl x]) K I F b Q := ex_zret d_Ent_serves_35 rfl hn hq
theorem d_Ent_serves_36 : decode prog_5_method_4_code 36 = .ok (.aload_n 0, 1) := by decide +kernel
theorem s_Ent_serves_36 {l1 l2 l3 l4 : Option ex_V} {r : Option Nat} (k : ex_E Γ d M_Ent_serves 37 [some (.inr r), l1, l2, l3, l4] (.inr r :: st) K I F b Q) : ex_E Γ d M_Ent_serves 36 [some (.inr r), l1, l2, l3, l4] (st) K I F b Q := ex_aload_n d_Ent_serves_36 rfl k
theorem d_Ent_serves_37 : decode prog_5_method_4_code 37 = .ok (.getfield 33, 3) := by decide +kernel
theorem s_Ent_serves_37 {l0 l1 l2 l3 l4 : Option ex_V} {r : Option Nat} {a : Nat} (hr : r = some a) (ha : (K a).1 = 5) (k : ex_E Γ d M_Ent_serves 40 [l0, l1, l2, l3, l4] (.inr (F 360 a 0) :: st) K I F b Q) : ex_E Γ d M_Ent_serves 37 [l0, l1, l2, l3, l4] (.inr r :: st) K I F b Q := ex_get 4 d_Ent_serves_37 (ci := 4) rfl (by decide) rfl (by decide) rfl (inC_Ent _) (List.mem_cons_of_mem _ w_608) rfl hr ha k
theorem d_Ent_serves_40 : decode prog_5_method_4_code 40 = .ok (.invokevirtual 54, 3) := by decide +kernel
theorem s_Ent_serves_40 {l0 l1 l2 l3 l4 : Option ex_V} {r : Option Nat} {a : Nat} {b1 b2 : Nat} {Q1 : Option ex_V → ex_K → ex_I → ex_F → Prop} (hr : r = some a) (ha : (K a).1 = 2) (h : ex_E Γ d M_Ctl_hasLifetime 0 [some (.inr (some a))] [] K I F b1 Q1) (kk : ∀ r K' I' F', Q1 r K' I' F' → ex_E Γ (d + 1) M_Ent_serves 43 [l0, l1, l2, l3, l4] (r.toList ++ st) K' I' F' b2 Q) (hbb : b1 + b2 ≤ b) (hst : st.length ≤ 8 := by first | exact Nat.le_of_ble_eq_true rfl | simp) : ex_E Γ (d + 1) M_Ent_serves 40 [l0, l1, l2, l3, l4] (.inr r :: st) K I F b Q := by
  subst hr
  exact ex_callV (Mc := M_Ctl_hasLifetime) (n := 0) (av := []) (ci := 1) d_Ent_serves_40 (by decide) rfl rfl (by decide) rfl (by decide) (ex_good w_483) (List.mem_cons_of_mem _ w_480) (List.mem_cons_of_mem _ w_6) (List.mem_cons_of_mem _ w_481) (List.mem_cons_of_mem _ w_482) ⟨by decide +kernel, by decide +kernel, by decide +kernel⟩ rfl (Nat.le_of_ble_eq_true rfl) hst ha h hbb kk
theorem d_Ent_serves_43 : decode prog_5_method_4_code 43 = .ok (.ifCond .eq 9, 3) := by decide +kernel
theorem s_Ent_serves_43 {l0 l1 l2 l3 l4 : Option ex_V} {x : Int32} (kt : x = 0 → ex_E Γ d M_Ent_serves 52 [l0, l1, l2, l3, l4] (st) K I F b Q) (kf : ¬ x = 0 → ex_E Γ d M_Ent_serves 46 [l0, l1, l2, l3, l4] (st) K I F b Q) : ex_E Γ d M_Ent_serves 43 [l0, l1, l2, l3, l4] (.inl x :: st) K I F b Q := ex_if_eq d_Ent_serves_43 (by decide) kt kf
theorem d_Ent_serves_46 : decode prog_5_method_4_code 46 = .ok (.iload_n 3, 1) := by decide +kernel
theorem s_Ent_serves_46 {l0 l1 l2 l4 : Option ex_V} {x : Int32} (k : ex_E Γ d M_Ent_serves 47 [l0, l1, l2, some (.inl x), l4] (.inl x :: st) K I F b Q) : ex_E Γ d M_Ent_serves 46 [l0, l1, l2, some (.inl x), l4] (st) K I F b Q := ex_iload_n d_Ent_serves_46 rfl k
theorem d_Ent_serves_47 : decode prog_5_method_4_code 47 = .ok (.iload 4, 2) := by decide +kernel
theorem s_Ent_serves_47 {l0 l1 l2 l3 : Option ex_V} {x : Int32} (k : ex_E Γ d M_Ent_serves 49 [l0, l1, l2, l3, some (.inl x)] (.inl x :: st) K I F b Q) : ex_E Γ d M_Ent_serves 47 [l0, l1, l2, l3, some (.inl x)] (st) K I F b Q := ex_iload d_Ent_serves_47 rfl k
theorem d_Ent_serves_49 : decode prog_5_method_4_code 49 = .ok (.if_icmp .lt 5, 3) := by decide +kernel
theorem s_Ent_serves_49 {l0 l1 l2 l3 l4 : Option ex_V} {x y : Int32} (kt : x < y → ex_E Γ d M_Ent_serves 54 [l0, l1, l2, l3, l4] (st) K I F b Q) (kf : ¬ x < y → ex_E Γ d M_Ent_serves 52 [l0, l1, l2, l3, l4] (st) K I F b Q) : ex_E Γ d M_Ent_serves 49 [l0, l1, l2, l3, l4] (.inl y :: .inl x :: st) K I F b Q := ex_icmp_lt d_Ent_serves_49 (by decide) kt kf
theorem d_Ent_serves_52 : decode prog_5_method_4_code 52 = .ok (.iconst 0, 1) := by decide +kernel
theorem s_Ent_serves_52 {l0 l1 l2 l3 l4 : Option ex_V} (k : ex_E Γ d M_Ent_serves 53 [l0, l1, l2, l3, l4] (.inl 0 :: st) K I F b Q) : ex_E Γ d M_Ent_serves 52 [l0, l1, l2, l3, l4] (st) K I F b Q := ex_iconst d_Ent_serves_52 (by decide +kernel) k
theorem d_Ent_serves_53 : decode prog_5_method_4_code 53 = .ok (.ireturn, 1) := by decide +kernel
theorem s_Ent_serves_53 {l0 l1 l2 l3 l4 : Option ex_V} {x : Int32} (hn : narrow .boolean (.int x) = .int x) (hq : Q (some (.inl x)) K I F) : ex_E Γ d M_Ent_serves 53 [l0, l1, l2, l3, l4] ([.inl x]) K I F b Q := ex_zret d_Ent_serves_53 rfl hn hq
theorem d_Ent_serves_54 : decode prog_5_method_4_code 54 = .ok (.aload_n 1, 1) := by decide +kernel
theorem s_Ent_serves_54 {l0 l2 l3 l4 : Option ex_V} {r : Option Nat} (k : ex_E Γ d M_Ent_serves 55 [l0, some (.inr r), l2, l3, l4] (.inr r :: st) K I F b Q) : ex_E Γ d M_Ent_serves 54 [l0, some (.inr r), l2, l3, l4] (st) K I F b Q := ex_aload_n d_Ent_serves_54 rfl k
theorem d_Ent_serves_55 : decode prog_5_method_4_code 55 = .ok (.iconst 4, 1) := by decide +kernel
theorem s_Ent_serves_55 {l0 l1 l2 l3 l4 : Option ex_V} (k : ex_E Γ d M_Ent_serves 56 [l0, l1, l2, l3, l4] (.inl 4 :: st) K I F b Q) : ex_E Γ d M_Ent_serves 55 [l0, l1, l2, l3, l4] (st) K I F b Q := ex_iconst d_Ent_serves_55 (by decide +kernel) k
theorem d_Ent_serves_56 : decode prog_5_method_4_code 56 = .ok (.invokevirtual 50, 3) := by decide +kernel
theorem s_Ent_serves_56 {l0 l1 l2 l3 l4 : Option ex_V} {r : Option Nat} {a : Nat} {x0 : Int32} {b1 b2 : Nat} {Q1 : Option ex_V → ex_K → ex_I → ex_F → Prop} (hr : r = some a) (ha : (K a).1 = 2) (h : ex_E Γ d M_Ctl_has 0 [some (.inr (some a)), some (.inl x0)] [] K I F b1 Q1) (kk : ∀ r K' I' F', Q1 r K' I' F' → ex_E Γ (d + 1) M_Ent_serves 59 [l0, l1, l2, l3, l4] (r.toList ++ st) K' I' F' b2 Q) (hbb : b1 + b2 ≤ b) (hst : st.length ≤ 8 := by first | exact Nat.le_of_ble_eq_true rfl | simp) : ex_E Γ (d + 1) M_Ent_serves 56 [l0, l1, l2, l3, l4] (.inl x0 :: .inr r :: st) K I F b Q := by
  subst hr
  exact ex_callV (Mc := M_Ctl_has) (n := 1) (av := [.inl x0]) (ci := 1) d_Ent_serves_56 (by decide) rfl rfl (by decide) rfl (by decide) (ex_good w_364) (List.mem_cons_of_mem _ w_479) (List.mem_cons_of_mem _ w_6) (List.mem_cons_of_mem _ w_362) (List.mem_cons_of_mem _ w_363) ⟨by decide +kernel, by decide +kernel, by decide +kernel⟩ rfl (Nat.le_of_ble_eq_true rfl) hst ha h hbb kk
theorem d_Ent_serves_59 : decode prog_5_method_4_code 59 = .ok (.ifCond .eq 14, 3) := by decide +kernel
theorem s_Ent_serves_59 {l0 l1 l2 l3 l4 : Option ex_V} {x : Int32} (kt : x = 0 → ex_E Γ d M_Ent_serves 73 [l0, l1, l2, l3, l4] (st) K I F b Q) (kf : ¬ x = 0 → ex_E Γ d M_Ent_serves 62 [l0, l1, l2, l3, l4] (st) K I F b Q) : ex_E Γ d M_Ent_serves 59 [l0, l1, l2, l3, l4] (.inl x :: st) K I F b Q := ex_if_eq d_Ent_serves_59 (by decide) kt kf
theorem d_Ent_serves_62 : decode prog_5_method_4_code 62 = .ok (.iload_n 3, 1) := by decide +kernel
theorem s_Ent_serves_62 {l0 l1 l2 l4 : Option ex_V} {x : Int32} (k : ex_E Γ d M_Ent_serves 63 [l0, l1, l2, some (.inl x), l4] (.inl x :: st) K I F b Q) : ex_E Γ d M_Ent_serves 62 [l0, l1, l2, some (.inl x), l4] (st) K I F b Q := ex_iload_n d_Ent_serves_62 rfl k
theorem d_Ent_serves_63 : decode prog_5_method_4_code 63 = .ok (.aload_n 1, 1) := by decide +kernel
theorem s_Ent_serves_63 {l0 l2 l3 l4 : Option ex_V} {r : Option Nat} (k : ex_E Γ d M_Ent_serves 64 [l0, some (.inr r), l2, l3, l4] (.inr r :: st) K I F b Q) : ex_E Γ d M_Ent_serves 63 [l0, some (.inr r), l2, l3, l4] (st) K I F b Q := ex_aload_n d_Ent_serves_63 rfl k
theorem d_Ent_serves_64 : decode prog_5_method_4_code 64 = .ok (.iconst 4, 1) := by decide +kernel
theorem s_Ent_serves_64 {l0 l1 l2 l3 l4 : Option ex_V} (k : ex_E Γ d M_Ent_serves 65 [l0, l1, l2, l3, l4] (.inl 4 :: st) K I F b Q) : ex_E Γ d M_Ent_serves 64 [l0, l1, l2, l3, l4] (st) K I F b Q := ex_iconst d_Ent_serves_64 (by decide +kernel) k
theorem d_Ent_serves_65 : decode prog_5_method_4_code 65 = .ok (.invokevirtual 58, 3) := by decide +kernel
theorem s_Ent_serves_65 {l0 l1 l2 l3 l4 : Option ex_V} {r : Option Nat} {a : Nat} {x0 : Int32} {b1 b2 : Nat} {Q1 : Option ex_V → ex_K → ex_I → ex_F → Prop} (hr : r = some a) (ha : (K a).1 = 2) (h : ex_E Γ d M_Ctl_number 0 [some (.inr (some a)), some (.inl x0)] [] K I F b1 Q1) (kk : ∀ r K' I' F', Q1 r K' I' F' → ex_E Γ (d + 1) M_Ent_serves 68 [l0, l1, l2, l3, l4] (r.toList ++ st) K' I' F' b2 Q) (hbb : b1 + b2 ≤ b) (hst : st.length ≤ 8 := by first | exact Nat.le_of_ble_eq_true rfl | simp) : ex_E Γ (d + 1) M_Ent_serves 65 [l0, l1, l2, l3, l4] (.inl x0 :: .inr r :: st) K I F b Q := by
  subst hr
  exact ex_callV (Mc := M_Ctl_number) (n := 1) (av := [.inl x0]) (ci := 1) d_Ent_serves_65 (by decide) rfl rfl (by decide) rfl (by decide) (ex_good w_478) (List.mem_cons_of_mem _ w_485) (List.mem_cons_of_mem _ w_6) (List.mem_cons_of_mem _ w_476) (List.mem_cons_of_mem _ w_477) ⟨by decide +kernel, by decide +kernel, by decide +kernel⟩ rfl (Nat.le_of_ble_eq_true rfl) hst ha h hbb kk
theorem d_Ent_serves_68 : decode prog_5_method_4_code 68 = .ok (.if_icmp .le 5, 3) := by decide +kernel
theorem s_Ent_serves_68 {l0 l1 l2 l3 l4 : Option ex_V} {x y : Int32} (kt : x ≤ y → ex_E Γ d M_Ent_serves 73 [l0, l1, l2, l3, l4] (st) K I F b Q) (kf : ¬ x ≤ y → ex_E Γ d M_Ent_serves 71 [l0, l1, l2, l3, l4] (st) K I F b Q) : ex_E Γ d M_Ent_serves 68 [l0, l1, l2, l3, l4] (.inl y :: .inl x :: st) K I F b Q := ex_icmp_le d_Ent_serves_68 (by decide) kt kf
theorem d_Ent_serves_71 : decode prog_5_method_4_code 71 = .ok (.iconst 0, 1) := by decide +kernel
theorem s_Ent_serves_71 {l0 l1 l2 l3 l4 : Option ex_V} (k : ex_E Γ d M_Ent_serves 72 [l0, l1, l2, l3, l4] (.inl 0 :: st) K I F b Q) : ex_E Γ d M_Ent_serves 71 [l0, l1, l2, l3, l4] (st) K I F b Q := ex_iconst d_Ent_serves_71 (by decide +kernel) k
theorem d_Ent_serves_72 : decode prog_5_method_4_code 72 = .ok (.ireturn, 1) := by decide +kernel
theorem s_Ent_serves_72 {l0 l1 l2 l3 l4 : Option ex_V} {x : Int32} (hn : narrow .boolean (.int x) = .int x) (hq : Q (some (.inl x)) K I F) : ex_E Γ d M_Ent_serves 72 [l0, l1, l2, l3, l4] ([.inl x]) K I F b Q := ex_zret d_Ent_serves_72 rfl hn hq
theorem d_Ent_serves_73 : decode prog_5_method_4_code 73 = .ok (.aload_n 1, 1) := by decide +kernel
theorem s_Ent_serves_73 {l0 l2 l3 l4 : Option ex_V} {r : Option Nat} (k : ex_E Γ d M_Ent_serves 74 [l0, some (.inr r), l2, l3, l4] (.inr r :: st) K I F b Q) : ex_E Γ d M_Ent_serves 73 [l0, some (.inr r), l2, l3, l4] (st) K I F b Q := ex_aload_n d_Ent_serves_73 rfl k
theorem d_Ent_serves_74 : decode prog_5_method_4_code 74 = .ok (.bipush 6, 2) := by decide +kernel
theorem s_Ent_serves_74 {l0 l1 l2 l3 l4 : Option ex_V} (k : ex_E Γ d M_Ent_serves 76 [l0, l1, l2, l3, l4] (.inl 6 :: st) K I F b Q) : ex_E Γ d M_Ent_serves 74 [l0, l1, l2, l3, l4] (st) K I F b Q := ex_bipush d_Ent_serves_74 (by decide +kernel) k
theorem d_Ent_serves_76 : decode prog_5_method_4_code 76 = .ok (.invokevirtual 50, 3) := by decide +kernel
theorem s_Ent_serves_76 {l0 l1 l2 l3 l4 : Option ex_V} {r : Option Nat} {a : Nat} {x0 : Int32} {b1 b2 : Nat} {Q1 : Option ex_V → ex_K → ex_I → ex_F → Prop} (hr : r = some a) (ha : (K a).1 = 2) (h : ex_E Γ d M_Ctl_has 0 [some (.inr (some a)), some (.inl x0)] [] K I F b1 Q1) (kk : ∀ r K' I' F', Q1 r K' I' F' → ex_E Γ (d + 1) M_Ent_serves 79 [l0, l1, l2, l3, l4] (r.toList ++ st) K' I' F' b2 Q) (hbb : b1 + b2 ≤ b) (hst : st.length ≤ 8 := by first | exact Nat.le_of_ble_eq_true rfl | simp) : ex_E Γ (d + 1) M_Ent_serves 76 [l0, l1, l2, l3, l4] (.inl x0 :: .inr r :: st) K I F b Q := by
  subst hr
  exact ex_callV (Mc := M_Ctl_has) (n := 1) (av := [.inl x0]) (ci := 1) d_Ent_serves_76 (by decide) rfl rfl (by decide) rfl (by decide) (ex_good w_364) (List.mem_cons_of_mem _ w_479) (List.mem_cons_of_mem _ w_6) (List.mem_cons_of_mem _ w_362) (List.mem_cons_of_mem _ w_363) ⟨by decide +kernel, by decide +kernel, by decide +kernel⟩ rfl (Nat.le_of_ble_eq_true rfl) hst ha h hbb kk
theorem d_Ent_serves_79 : decode prog_5_method_4_code 79 = .ok (.ifCond .eq 16, 3) := by decide +kernel
theorem s_Ent_serves_79 {l0 l1 l2 l3 l4 : Option ex_V} {x : Int32} (kt : x = 0 → ex_E Γ d M_Ent_serves 95 [l0, l1, l2, l3, l4] (st) K I F b Q) (kf : ¬ x = 0 → ex_E Γ d M_Ent_serves 82 [l0, l1, l2, l3, l4] (st) K I F b Q) : ex_E Γ d M_Ent_serves 79 [l0, l1, l2, l3, l4] (.inl x :: st) K I F b Q := ex_if_eq d_Ent_serves_79 (by decide) kt kf
theorem d_Ent_serves_82 : decode prog_5_method_4_code 82 = .ok (.iload_n 3, 1) := by decide +kernel
theorem s_Ent_serves_82 {l0 l1 l2 l4 : Option ex_V} {x : Int32} (k : ex_E Γ d M_Ent_serves 83 [l0, l1, l2, some (.inl x), l4] (.inl x :: st) K I F b Q) : ex_E Γ d M_Ent_serves 82 [l0, l1, l2, some (.inl x), l4] (st) K I F b Q := ex_iload_n d_Ent_serves_82 rfl k
theorem d_Ent_serves_83 : decode prog_5_method_4_code 83 = .ok (.aload_n 1, 1) := by decide +kernel
theorem s_Ent_serves_83 {l0 l2 l3 l4 : Option ex_V} {r : Option Nat} (k : ex_E Γ d M_Ent_serves 84 [l0, some (.inr r), l2, l3, l4] (.inr r :: st) K I F b Q) : ex_E Γ d M_Ent_serves 83 [l0, some (.inr r), l2, l3, l4] (st) K I F b Q := ex_aload_n d_Ent_serves_83 rfl k
theorem d_Ent_serves_84 : decode prog_5_method_4_code 84 = .ok (.bipush 6, 2) := by decide +kernel
theorem s_Ent_serves_84 {l0 l1 l2 l3 l4 : Option ex_V} (k : ex_E Γ d M_Ent_serves 86 [l0, l1, l2, l3, l4] (.inl 6 :: st) K I F b Q) : ex_E Γ d M_Ent_serves 84 [l0, l1, l2, l3, l4] (st) K I F b Q := ex_bipush d_Ent_serves_84 (by decide +kernel) k
theorem d_Ent_serves_86 : decode prog_5_method_4_code 86 = .ok (.invokevirtual 58, 3) := by decide +kernel
theorem s_Ent_serves_86 {l0 l1 l2 l3 l4 : Option ex_V} {r : Option Nat} {a : Nat} {x0 : Int32} {b1 b2 : Nat} {Q1 : Option ex_V → ex_K → ex_I → ex_F → Prop} (hr : r = some a) (ha : (K a).1 = 2) (h : ex_E Γ d M_Ctl_number 0 [some (.inr (some a)), some (.inl x0)] [] K I F b1 Q1) (kk : ∀ r K' I' F', Q1 r K' I' F' → ex_E Γ (d + 1) M_Ent_serves 89 [l0, l1, l2, l3, l4] (r.toList ++ st) K' I' F' b2 Q) (hbb : b1 + b2 ≤ b) (hst : st.length ≤ 8 := by first | exact Nat.le_of_ble_eq_true rfl | simp) : ex_E Γ (d + 1) M_Ent_serves 86 [l0, l1, l2, l3, l4] (.inl x0 :: .inr r :: st) K I F b Q := by
  subst hr
  exact ex_callV (Mc := M_Ctl_number) (n := 1) (av := [.inl x0]) (ci := 1) d_Ent_serves_86 (by decide) rfl rfl (by decide) rfl (by decide) (ex_good w_478) (List.mem_cons_of_mem _ w_485) (List.mem_cons_of_mem _ w_6) (List.mem_cons_of_mem _ w_476) (List.mem_cons_of_mem _ w_477) ⟨by decide +kernel, by decide +kernel, by decide +kernel⟩ rfl (Nat.le_of_ble_eq_true rfl) hst ha h hbb kk
theorem d_Ent_serves_89 : decode prog_5_method_4_code 89 = .ok (.iadd, 1) := by decide +kernel
theorem s_Ent_serves_89 {l0 l1 l2 l3 l4 : Option ex_V} {x y : Int32} (k : ex_E Γ d M_Ent_serves 90 [l0, l1, l2, l3, l4] (.inl (x + y) :: st) K I F b Q) : ex_E Γ d M_Ent_serves 89 [l0, l1, l2, l3, l4] (.inl y :: .inl x :: st) K I F b Q := ex_iadd d_Ent_serves_89 k
theorem d_Ent_serves_90 : decode prog_5_method_4_code 90 = .ok (.iload 4, 2) := by decide +kernel
theorem s_Ent_serves_90 {l0 l1 l2 l3 : Option ex_V} {x : Int32} (k : ex_E Γ d M_Ent_serves 92 [l0, l1, l2, l3, some (.inl x)] (.inl x :: st) K I F b Q) : ex_E Γ d M_Ent_serves 90 [l0, l1, l2, l3, some (.inl x)] (st) K I F b Q := ex_iload d_Ent_serves_90 rfl k
theorem d_Ent_serves_92 : decode prog_5_method_4_code 92 = .ok (.if_icmp .gt 7, 3) := by decide +kernel
theorem s_Ent_serves_92 {l0 l1 l2 l3 l4 : Option ex_V} {x y : Int32} (kt : y < x → ex_E Γ d M_Ent_serves 99 [l0, l1, l2, l3, l4] (st) K I F b Q) (kf : ¬ y < x → ex_E Γ d M_Ent_serves 95 [l0, l1, l2, l3, l4] (st) K I F b Q) : ex_E Γ d M_Ent_serves 92 [l0, l1, l2, l3, l4] (.inl y :: .inl x :: st) K I F b Q := ex_icmp_gt d_Ent_serves_92 (by decide) kt kf
theorem d_Ent_serves_95 : decode prog_5_method_4_code 95 = .ok (.iconst 1, 1) := by decide +kernel
theorem s_Ent_serves_95 {l0 l1 l2 l3 l4 : Option ex_V} (k : ex_E Γ d M_Ent_serves 96 [l0, l1, l2, l3, l4] (.inl 1 :: st) K I F b Q) : ex_E Γ d M_Ent_serves 95 [l0, l1, l2, l3, l4] (st) K I F b Q := ex_iconst d_Ent_serves_95 (by decide +kernel) k
theorem d_Ent_serves_96 : decode prog_5_method_4_code 96 = .ok (.goto 4, 3) := by decide +kernel
theorem s_Ent_serves_96 {l0 l1 l2 l3 l4 : Option ex_V} (k : ex_E Γ d M_Ent_serves 100 [l0, l1, l2, l3, l4] (st) K I F b Q) : ex_E Γ d M_Ent_serves 96 [l0, l1, l2, l3, l4] (st) K I F b Q := ex_goto d_Ent_serves_96 (by decide) k
theorem d_Ent_serves_99 : decode prog_5_method_4_code 99 = .ok (.iconst 0, 1) := by decide +kernel
theorem s_Ent_serves_99 {l0 l1 l2 l3 l4 : Option ex_V} (k : ex_E Γ d M_Ent_serves 100 [l0, l1, l2, l3, l4] (.inl 0 :: st) K I F b Q) : ex_E Γ d M_Ent_serves 99 [l0, l1, l2, l3, l4] (st) K I F b Q := ex_iconst d_Ent_serves_99 (by decide +kernel) k
theorem d_Ent_serves_100 : decode prog_5_method_4_code 100 = .ok (.ireturn, 1) := by decide +kernel
theorem s_Ent_serves_100 {l0 l1 l2 l3 l4 : Option ex_V} {x : Int32} (hn : narrow .boolean (.int x) = .int x) (hq : Q (some (.inl x)) K I F) : ex_E Γ d M_Ent_serves 100 [l0, l1, l2, l3, l4] ([.inl x]) K I F b Q := ex_zret d_Ent_serves_100 rfl hn hq
theorem d_Ent_age_0 : decode prog_5_method_3_code 0 = .ok (.iload_n 1, 1) := by decide +kernel
theorem s_Ent_age_0 {l0 : Option ex_V} {x : Int32} (k : ex_E Γ d M_Ent_age 1 [l0, some (.inl x)] (.inl x :: st) K I F b Q) : ex_E Γ d M_Ent_age 0 [l0, some (.inl x)] (st) K I F b Q := ex_iload_n d_Ent_age_0 rfl k
theorem d_Ent_age_1 : decode prog_5_method_3_code 1 = .ok (.aload_n 0, 1) := by decide +kernel
theorem s_Ent_age_1 {l1 : Option ex_V} {r : Option Nat} (k : ex_E Γ d M_Ent_age 2 [some (.inr r), l1] (.inr r :: st) K I F b Q) : ex_E Γ d M_Ent_age 1 [some (.inr r), l1] (st) K I F b Q := ex_aload_n d_Ent_age_1 rfl k
theorem d_Ent_age_2 : decode prog_5_method_3_code 2 = .ok (.getfield 34, 3) := by decide +kernel
theorem s_Ent_age_2 {l0 l1 : Option ex_V} {r : Option Nat} {a : Nat} (hr : r = some a) (ha : (K a).1 = 5) (k : ex_E Γ d M_Ent_age 5 [l0, l1] (.inl (I 361 a 0) :: st) K I F b Q) : ex_E Γ d M_Ent_age 2 [l0, l1] (.inr r :: st) K I F b Q := ex_get 5 d_Ent_age_2 (ci := 4) rfl (by decide) rfl (by decide) rfl (inC_Ent _) (List.mem_cons_of_mem _ w_611) rfl hr ha k
theorem d_Ent_age_5 : decode prog_5_method_3_code 5 = .ok (.isub, 1) := by decide +kernel
theorem s_Ent_age_5 {l0 l1 : Option ex_V} {x y : Int32} (k : ex_E Γ d M_Ent_age 6 [l0, l1] (.inl (x - y) :: st) K I F b Q) : ex_E Γ d M_Ent_age 5 [l0, l1] (.inl y :: .inl x :: st) K I F b Q := ex_isub d_Ent_age_5 k
theorem d_Ent_age_6 : decode prog_5_method_3_code 6 = .ok (.ireturn, 1) := by decide +kernel
theorem s_Ent_age_6 {l0 l1 : Option ex_V} {x : Int32} (hq : Q (some (.inl x)) K I F) : ex_E Γ d M_Ent_age 6 [l0, l1] ([.inl x]) K I F b Q := ex_iret d_Ent_age_6 rfl hq
theorem d_Ctl_lifetime_0 : decode prog_3_method_6_code 0 = .ok (.aload_n 0, 1) := by decide +kernel
theorem s_Ctl_lifetime_0 {r : Option Nat} (k : ex_E Γ d M_Ctl_lifetime 1 [some (.inr r)] (.inr r :: st) K I F b Q) : ex_E Γ d M_Ctl_lifetime 0 [some (.inr r)] (st) K I F b Q := ex_aload_n d_Ctl_lifetime_0 rfl k
theorem d_Ctl_lifetime_1 : decode prog_3_method_6_code 1 = .ok (.iconst 5, 1) := by decide +kernel
theorem s_Ctl_lifetime_1 {l0 : Option ex_V} (k : ex_E Γ d M_Ctl_lifetime 2 [l0] (.inl 5 :: st) K I F b Q) : ex_E Γ d M_Ctl_lifetime 1 [l0] (st) K I F b Q := ex_iconst d_Ctl_lifetime_1 (by decide +kernel) k
theorem d_Ctl_lifetime_2 : decode prog_3_method_6_code 2 = .ok (.invokevirtual 35, 3) := by decide +kernel
theorem s_Ctl_lifetime_2 {l0 : Option ex_V} {r : Option Nat} {a : Nat} {x0 : Int32} {b1 b2 : Nat} {Q1 : Option ex_V → ex_K → ex_I → ex_F → Prop} (hr : r = some a) (ha : (K a).1 = 2) (h : ex_E Γ d M_Ctl_has 0 [some (.inr (some a)), some (.inl x0)] [] K I F b1 Q1) (kk : ∀ r K' I' F', Q1 r K' I' F' → ex_E Γ (d + 1) M_Ctl_lifetime 5 [l0] (r.toList ++ st) K' I' F' b2 Q) (hbb : b1 + b2 ≤ b) (hst : st.length ≤ 8 := by first | exact Nat.le_of_ble_eq_true rfl | simp) : ex_E Γ (d + 1) M_Ctl_lifetime 2 [l0] (.inl x0 :: .inr r :: st) K I F b Q := by
  subst hr
  exact ex_callV (Mc := M_Ctl_has) (n := 1) (av := [.inl x0]) (ci := 1) d_Ctl_lifetime_2 (by decide) rfl rfl (by decide) rfl (by decide) (ex_good w_364) (List.mem_cons_of_mem _ w_361) (List.mem_cons_of_mem _ w_6) (List.mem_cons_of_mem _ w_362) (List.mem_cons_of_mem _ w_363) ⟨by decide +kernel, by decide +kernel, by decide +kernel⟩ rfl (Nat.le_of_ble_eq_true rfl) hst ha h hbb kk
theorem d_Ctl_lifetime_5 : decode prog_3_method_6_code 5 = .ok (.ifCond .eq 11, 3) := by decide +kernel
theorem s_Ctl_lifetime_5 {l0 : Option ex_V} {x : Int32} (kt : x = 0 → ex_E Γ d M_Ctl_lifetime 16 [l0] (st) K I F b Q) (kf : ¬ x = 0 → ex_E Γ d M_Ctl_lifetime 8 [l0] (st) K I F b Q) : ex_E Γ d M_Ctl_lifetime 5 [l0] (.inl x :: st) K I F b Q := ex_if_eq d_Ctl_lifetime_5 (by decide) kt kf
theorem d_Ctl_lifetime_8 : decode prog_3_method_6_code 8 = .ok (.aload_n 0, 1) := by decide +kernel
theorem s_Ctl_lifetime_8 {r : Option Nat} (k : ex_E Γ d M_Ctl_lifetime 9 [some (.inr r)] (.inr r :: st) K I F b Q) : ex_E Γ d M_Ctl_lifetime 8 [some (.inr r)] (st) K I F b Q := ex_aload_n d_Ctl_lifetime_8 rfl k
theorem d_Ctl_lifetime_9 : decode prog_3_method_6_code 9 = .ok (.iconst 5, 1) := by decide +kernel
theorem s_Ctl_lifetime_9 {l0 : Option ex_V} (k : ex_E Γ d M_Ctl_lifetime 10 [l0] (.inl 5 :: st) K I F b Q) : ex_E Γ d M_Ctl_lifetime 9 [l0] (st) K I F b Q := ex_iconst d_Ctl_lifetime_9 (by decide +kernel) k
theorem d_Ctl_lifetime_10 : decode prog_3_method_6_code 10 = .ok (.invokevirtual 39, 3) := by decide +kernel
theorem s_Ctl_lifetime_10 {l0 : Option ex_V} {r : Option Nat} {a : Nat} {x0 : Int32} {b1 b2 : Nat} {Q1 : Option ex_V → ex_K → ex_I → ex_F → Prop} (hr : r = some a) (ha : (K a).1 = 2) (h : ex_E Γ d M_Ctl_number 0 [some (.inr (some a)), some (.inl x0)] [] K I F b1 Q1) (kk : ∀ r K' I' F', Q1 r K' I' F' → ex_E Γ (d + 1) M_Ctl_lifetime 13 [l0] (r.toList ++ st) K' I' F' b2 Q) (hbb : b1 + b2 ≤ b) (hst : st.length ≤ 8 := by first | exact Nat.le_of_ble_eq_true rfl | simp) : ex_E Γ (d + 1) M_Ctl_lifetime 10 [l0] (.inl x0 :: .inr r :: st) K I F b Q := by
  subst hr
  exact ex_callV (Mc := M_Ctl_number) (n := 1) (av := [.inl x0]) (ci := 1) d_Ctl_lifetime_10 (by decide) rfl rfl (by decide) rfl (by decide) (ex_good w_478) (List.mem_cons_of_mem _ w_475) (List.mem_cons_of_mem _ w_6) (List.mem_cons_of_mem _ w_476) (List.mem_cons_of_mem _ w_477) ⟨by decide +kernel, by decide +kernel, by decide +kernel⟩ rfl (Nat.le_of_ble_eq_true rfl) hst ha h hbb kk
theorem d_Ctl_lifetime_13 : decode prog_3_method_6_code 13 = .ok (.goto 8, 3) := by decide +kernel
theorem s_Ctl_lifetime_13 {l0 : Option ex_V} (k : ex_E Γ d M_Ctl_lifetime 21 [l0] (st) K I F b Q) : ex_E Γ d M_Ctl_lifetime 13 [l0] (st) K I F b Q := ex_goto d_Ctl_lifetime_13 (by decide) k
theorem d_Ctl_lifetime_16 : decode prog_3_method_6_code 16 = .ok (.aload_n 0, 1) := by decide +kernel
theorem s_Ctl_lifetime_16 {r : Option Nat} (k : ex_E Γ d M_Ctl_lifetime 17 [some (.inr r)] (.inr r :: st) K I F b Q) : ex_E Γ d M_Ctl_lifetime 16 [some (.inr r)] (st) K I F b Q := ex_aload_n d_Ctl_lifetime_16 rfl k
theorem d_Ctl_lifetime_17 : decode prog_3_method_6_code 17 = .ok (.iconst 4, 1) := by decide +kernel
theorem s_Ctl_lifetime_17 {l0 : Option ex_V} (k : ex_E Γ d M_Ctl_lifetime 18 [l0] (.inl 4 :: st) K I F b Q) : ex_E Γ d M_Ctl_lifetime 17 [l0] (st) K I F b Q := ex_iconst d_Ctl_lifetime_17 (by decide +kernel) k
theorem d_Ctl_lifetime_18 : decode prog_3_method_6_code 18 = .ok (.invokevirtual 39, 3) := by decide +kernel
theorem s_Ctl_lifetime_18 {l0 : Option ex_V} {r : Option Nat} {a : Nat} {x0 : Int32} {b1 b2 : Nat} {Q1 : Option ex_V → ex_K → ex_I → ex_F → Prop} (hr : r = some a) (ha : (K a).1 = 2) (h : ex_E Γ d M_Ctl_number 0 [some (.inr (some a)), some (.inl x0)] [] K I F b1 Q1) (kk : ∀ r K' I' F', Q1 r K' I' F' → ex_E Γ (d + 1) M_Ctl_lifetime 21 [l0] (r.toList ++ st) K' I' F' b2 Q) (hbb : b1 + b2 ≤ b) (hst : st.length ≤ 8 := by first | exact Nat.le_of_ble_eq_true rfl | simp) : ex_E Γ (d + 1) M_Ctl_lifetime 18 [l0] (.inl x0 :: .inr r :: st) K I F b Q := by
  subst hr
  exact ex_callV (Mc := M_Ctl_number) (n := 1) (av := [.inl x0]) (ci := 1) d_Ctl_lifetime_18 (by decide) rfl rfl (by decide) rfl (by decide) (ex_good w_478) (List.mem_cons_of_mem _ w_475) (List.mem_cons_of_mem _ w_6) (List.mem_cons_of_mem _ w_476) (List.mem_cons_of_mem _ w_477) ⟨by decide +kernel, by decide +kernel, by decide +kernel⟩ rfl (Nat.le_of_ble_eq_true rfl) hst ha h hbb kk
theorem d_Ctl_lifetime_21 : decode prog_3_method_6_code 21 = .ok (.ireturn, 1) := by decide +kernel
theorem s_Ctl_lifetime_21 {l0 : Option ex_V} {x : Int32} (hq : Q (some (.inl x)) K I F) : ex_E Γ d M_Ctl_lifetime 21 [l0] ([.inl x]) K I F b Q := ex_iret d_Ctl_lifetime_21 rfl hq
theorem d_Ctl_number_0 : decode prog_3_method_5_code 0 = .ok (.aload_n 0, 1) := by decide +kernel
theorem s_Ctl_number_0 {l1 : Option ex_V} {r : Option Nat} (k : ex_E Γ d M_Ctl_number 1 [some (.inr r), l1] (.inr r :: st) K I F b Q) : ex_E Γ d M_Ctl_number 0 [some (.inr r), l1] (st) K I F b Q := ex_aload_n d_Ctl_number_0 rfl k
theorem d_Ctl_number_1 : decode prog_3_method_5_code 1 = .ok (.getfield 11, 3) := by decide +kernel
theorem s_Ctl_number_1 {l0 l1 : Option ex_V} {r : Option Nat} {a : Nat} (hr : r = some a) (ha : (K a).1 = 2) (k : ex_E Γ d M_Ctl_number 4 [l0, l1] (.inr (F 164 a 0) :: st) K I F b Q) : ex_E Γ d M_Ctl_number 1 [l0, l1] (.inr r :: st) K I F b Q := ex_get 0 d_Ctl_number_1 (ci := 1) rfl (by decide) rfl (by decide) rfl (inC_Ctl _) (List.mem_cons_of_mem _ w_90) rfl hr ha k
theorem d_Ctl_number_4 : decode prog_3_method_5_code 4 = .ok (.iload_n 1, 1) := by decide +kernel
theorem s_Ctl_number_4 {l0 : Option ex_V} {x : Int32} (k : ex_E Γ d M_Ctl_number 5 [l0, some (.inl x)] (.inl x :: st) K I F b Q) : ex_E Γ d M_Ctl_number 4 [l0, some (.inl x)] (st) K I F b Q := ex_iload_n d_Ctl_number_4 rfl k
theorem d_Ctl_number_5 : decode prog_3_method_5_code 5 = .ok (.iaload, 1) := by decide +kernel
theorem s_Ctl_number_5 {l0 l1 : Option ex_V} {r : Option Nat} {a : Nat} {i : Int32} (hr : r = some a) (ha : (K a).1 = 21) (hi : vp_in i (K a).2) (k : ex_E Γ d M_Ctl_number 6 [l0, l1] (.inl (I 21 a i.toNatClampNeg) :: st) K I F b Q) : ex_E Γ d M_Ctl_number 5 [l0, l1] (.inl i :: .inr r :: st) K I F b Q := ex_iaload d_Ctl_number_5 hr ha hi k
theorem d_Ctl_number_6 : decode prog_3_method_5_code 6 = .ok (.ireturn, 1) := by decide +kernel
theorem s_Ctl_number_6 {l0 l1 : Option ex_V} {x : Int32} (hq : Q (some (.inl x)) K I F) : ex_E Γ d M_Ctl_number 6 [l0, l1] ([.inl x]) K I F b Q := ex_iret d_Ctl_number_6 rfl hq
theorem d_Ctl_hasLifetime_0 : decode prog_3_method_7_code 0 = .ok (.aload_n 0, 1) := by decide +kernel
theorem s_Ctl_hasLifetime_0 {r : Option Nat} (k : ex_E Γ d M_Ctl_hasLifetime 1 [some (.inr r)] (.inr r :: st) K I F b Q) : ex_E Γ d M_Ctl_hasLifetime 0 [some (.inr r)] (st) K I F b Q := ex_aload_n d_Ctl_hasLifetime_0 rfl k
theorem d_Ctl_hasLifetime_1 : decode prog_3_method_7_code 1 = .ok (.invokevirtual 43, 3) := by decide +kernel
theorem s_Ctl_hasLifetime_1 {l0 : Option ex_V} {r : Option Nat} {a : Nat} {b1 b2 : Nat} {Q1 : Option ex_V → ex_K → ex_I → ex_F → Prop} (hr : r = some a) (ha : (K a).1 = 2) (h : ex_E Γ d M_Ctl_lifetime 0 [some (.inr (some a))] [] K I F b1 Q1) (kk : ∀ r K' I' F', Q1 r K' I' F' → ex_E Γ (d + 1) M_Ctl_hasLifetime 4 [l0] (r.toList ++ st) K' I' F' b2 Q) (hbb : b1 + b2 ≤ b) (hst : st.length ≤ 8 := by first | exact Nat.le_of_ble_eq_true rfl | simp) : ex_E Γ (d + 1) M_Ctl_hasLifetime 1 [l0] (.inr r :: st) K I F b Q := by
  subst hr
  exact ex_callV (Mc := M_Ctl_lifetime) (n := 0) (av := []) (ci := 1) d_Ctl_hasLifetime_1 (by decide) rfl rfl (by decide) rfl (by decide) (ex_good w_474) (List.mem_cons_of_mem _ w_484) (List.mem_cons_of_mem _ w_6) (List.mem_cons_of_mem _ w_472) (List.mem_cons_of_mem _ w_473) ⟨by decide +kernel, by decide +kernel, by decide +kernel⟩ rfl (Nat.le_of_ble_eq_true rfl) hst ha h hbb kk
theorem d_Ctl_hasLifetime_4 : decode prog_3_method_7_code 4 = .ok (.iconst (-1), 1) := by decide +kernel
theorem s_Ctl_hasLifetime_4 {l0 : Option ex_V} (k : ex_E Γ d M_Ctl_hasLifetime 5 [l0] (.inl (-1) :: st) K I F b Q) : ex_E Γ d M_Ctl_hasLifetime 4 [l0] (st) K I F b Q := ex_iconst d_Ctl_hasLifetime_4 (by decide +kernel) k
theorem d_Ctl_hasLifetime_5 : decode prog_3_method_7_code 5 = .ok (.if_icmp .eq 7, 3) := by decide +kernel
theorem s_Ctl_hasLifetime_5 {l0 : Option ex_V} {x y : Int32} (kt : x = y → ex_E Γ d M_Ctl_hasLifetime 12 [l0] (st) K I F b Q) (kf : ¬ x = y → ex_E Γ d M_Ctl_hasLifetime 8 [l0] (st) K I F b Q) : ex_E Γ d M_Ctl_hasLifetime 5 [l0] (.inl y :: .inl x :: st) K I F b Q := ex_icmp_eq d_Ctl_hasLifetime_5 (by decide) kt kf
theorem d_Ctl_hasLifetime_8 : decode prog_3_method_7_code 8 = .ok (.iconst 1, 1) := by decide +kernel
theorem s_Ctl_hasLifetime_8 {l0 : Option ex_V} (k : ex_E Γ d M_Ctl_hasLifetime 9 [l0] (.inl 1 :: st) K I F b Q) : ex_E Γ d M_Ctl_hasLifetime 8 [l0] (st) K I F b Q := ex_iconst d_Ctl_hasLifetime_8 (by decide +kernel) k
theorem d_Ctl_hasLifetime_9 : decode prog_3_method_7_code 9 = .ok (.goto 4, 3) := by decide +kernel
theorem s_Ctl_hasLifetime_9 {l0 : Option ex_V} (k : ex_E Γ d M_Ctl_hasLifetime 13 [l0] (st) K I F b Q) : ex_E Γ d M_Ctl_hasLifetime 9 [l0] (st) K I F b Q := ex_goto d_Ctl_hasLifetime_9 (by decide) k
theorem d_Ctl_hasLifetime_12 : decode prog_3_method_7_code 12 = .ok (.iconst 0, 1) := by decide +kernel
theorem s_Ctl_hasLifetime_12 {l0 : Option ex_V} (k : ex_E Γ d M_Ctl_hasLifetime 13 [l0] (.inl 0 :: st) K I F b Q) : ex_E Γ d M_Ctl_hasLifetime 12 [l0] (st) K I F b Q := ex_iconst d_Ctl_hasLifetime_12 (by decide +kernel) k
theorem d_Ctl_hasLifetime_13 : decode prog_3_method_7_code 13 = .ok (.ireturn, 1) := by decide +kernel
theorem s_Ctl_hasLifetime_13 {l0 : Option ex_V} {x : Int32} (hn : narrow .boolean (.int x) = .int x) (hq : Q (some (.inl x)) K I F) : ex_E Γ d M_Ctl_hasLifetime 13 [l0] ([.inl x]) K I F b Q := ex_zret d_Ctl_hasLifetime_13 rfl hn hq
theorem d_Ctl_allowsStoring_0 : decode prog_3_method_8_code 0 = .ok (.aload_n 0, 1) := by decide +kernel
theorem s_Ctl_allowsStoring_0 {r : Option Nat} (k : ex_E Γ d M_Ctl_allowsStoring 1 [some (.inr r)] (.inr r :: st) K I F b Q) : ex_E Γ d M_Ctl_allowsStoring 0 [some (.inr r)] (st) K I F b Q := ex_aload_n d_Ctl_allowsStoring_0 rfl k
theorem d_Ctl_allowsStoring_1 : decode prog_3_method_8_code 1 = .ok (.invokevirtual 47, 3) := by decide +kernel
theorem s_Ctl_allowsStoring_1 {l0 : Option ex_V} {r : Option Nat} {a : Nat} {b1 b2 : Nat} {Q1 : Option ex_V → ex_K → ex_I → ex_F → Prop} (hr : r = some a) (ha : (K a).1 = 2) (h : ex_E Γ d M_Ctl_hasLifetime 0 [some (.inr (some a))] [] K I F b1 Q1) (kk : ∀ r K' I' F', Q1 r K' I' F' → ex_E Γ (d + 1) M_Ctl_allowsStoring 4 [l0] (r.toList ++ st) K' I' F' b2 Q) (hbb : b1 + b2 ≤ b) (hst : st.length ≤ 8 := by first | exact Nat.le_of_ble_eq_true rfl | simp) : ex_E Γ (d + 1) M_Ctl_allowsStoring 1 [l0] (.inr r :: st) K I F b Q := by
  subst hr
  exact ex_callV (Mc := M_Ctl_hasLifetime) (n := 0) (av := []) (ci := 1) d_Ctl_allowsStoring_1 (by decide) rfl rfl (by decide) rfl (by decide) (ex_good w_483) (List.mem_cons_of_mem _ w_584) (List.mem_cons_of_mem _ w_6) (List.mem_cons_of_mem _ w_481) (List.mem_cons_of_mem _ w_482) ⟨by decide +kernel, by decide +kernel, by decide +kernel⟩ rfl (Nat.le_of_ble_eq_true rfl) hst ha h hbb kk
theorem d_Ctl_allowsStoring_4 : decode prog_3_method_8_code 4 = .ok (.ifCond .eq 23, 3) := by decide +kernel
theorem s_Ctl_allowsStoring_4 {l0 : Option ex_V} {x : Int32} (kt : x = 0 → ex_E Γ d M_Ctl_allowsStoring 27 [l0] (st) K I F b Q) (kf : ¬ x = 0 → ex_E Γ d M_Ctl_allowsStoring 7 [l0] (st) K I F b Q) : ex_E Γ d M_Ctl_allowsStoring 4 [l0] (.inl x :: st) K I F b Q := ex_if_eq d_Ctl_allowsStoring_4 (by decide) kt kf
theorem d_Ctl_allowsStoring_7 : decode prog_3_method_8_code 7 = .ok (.aload_n 0, 1) := by decide +kernel
theorem s_Ctl_allowsStoring_7 {r : Option Nat} (k : ex_E Γ d M_Ctl_allowsStoring 8 [some (.inr r)] (.inr r :: st) K I F b Q) : ex_E Γ d M_Ctl_allowsStoring 7 [some (.inr r)] (st) K I F b Q := ex_aload_n d_Ctl_allowsStoring_7 rfl k
theorem d_Ctl_allowsStoring_8 : decode prog_3_method_8_code 8 = .ok (.iconst 1, 1) := by decide +kernel
theorem s_Ctl_allowsStoring_8 {l0 : Option ex_V} (k : ex_E Γ d M_Ctl_allowsStoring 9 [l0] (.inl 1 :: st) K I F b Q) : ex_E Γ d M_Ctl_allowsStoring 8 [l0] (st) K I F b Q := ex_iconst d_Ctl_allowsStoring_8 (by decide +kernel) k
theorem d_Ctl_allowsStoring_9 : decode prog_3_method_8_code 9 = .ok (.invokevirtual 35, 3) := by decide +kernel
theorem s_Ctl_allowsStoring_9 {l0 : Option ex_V} {r : Option Nat} {a : Nat} {x0 : Int32} {b1 b2 : Nat} {Q1 : Option ex_V → ex_K → ex_I → ex_F → Prop} (hr : r = some a) (ha : (K a).1 = 2) (h : ex_E Γ d M_Ctl_has 0 [some (.inr (some a)), some (.inl x0)] [] K I F b1 Q1) (kk : ∀ r K' I' F', Q1 r K' I' F' → ex_E Γ (d + 1) M_Ctl_allowsStoring 12 [l0] (r.toList ++ st) K' I' F' b2 Q) (hbb : b1 + b2 ≤ b) (hst : st.length ≤ 8 := by first | exact Nat.le_of_ble_eq_true rfl | simp) : ex_E Γ (d + 1) M_Ctl_allowsStoring 9 [l0] (.inl x0 :: .inr r :: st) K I F b Q := by
  subst hr
  exact ex_callV (Mc := M_Ctl_has) (n := 1) (av := [.inl x0]) (ci := 1) d_Ctl_allowsStoring_9 (by decide) rfl rfl (by decide) rfl (by decide) (ex_good w_364) (List.mem_cons_of_mem _ w_361) (List.mem_cons_of_mem _ w_6) (List.mem_cons_of_mem _ w_362) (List.mem_cons_of_mem _ w_363) ⟨by decide +kernel, by decide +kernel, by decide +kernel⟩ rfl (Nat.le_of_ble_eq_true rfl) hst ha h hbb kk
theorem d_Ctl_allowsStoring_12 : decode prog_3_method_8_code 12 = .ok (.ifCond .ne 15, 3) := by decide +kernel
theorem s_Ctl_allowsStoring_12 {l0 : Option ex_V} {x : Int32} (kt : ¬ x = 0 → ex_E Γ d M_Ctl_allowsStoring 27 [l0] (st) K I F b Q) (kf : x = 0 → ex_E Γ d M_Ctl_allowsStoring 15 [l0] (st) K I F b Q) : ex_E Γ d M_Ctl_allowsStoring 12 [l0] (.inl x :: st) K I F b Q := ex_if_ne d_Ctl_allowsStoring_12 (by decide) kt kf
theorem d_Ctl_allowsStoring_15 : decode prog_3_method_8_code 15 = .ok (.aload_n 0, 1) := by decide +kernel
theorem s_Ctl_allowsStoring_15 {r : Option Nat} (k : ex_E Γ d M_Ctl_allowsStoring 16 [some (.inr r)] (.inr r :: st) K I F b Q) : ex_E Γ d M_Ctl_allowsStoring 15 [some (.inr r)] (st) K I F b Q := ex_aload_n d_Ctl_allowsStoring_15 rfl k
theorem d_Ctl_allowsStoring_16 : decode prog_3_method_8_code 16 = .ok (.iconst 2, 1) := by decide +kernel
theorem s_Ctl_allowsStoring_16 {l0 : Option ex_V} (k : ex_E Γ d M_Ctl_allowsStoring 17 [l0] (.inl 2 :: st) K I F b Q) : ex_E Γ d M_Ctl_allowsStoring 16 [l0] (st) K I F b Q := ex_iconst d_Ctl_allowsStoring_16 (by decide +kernel) k
theorem d_Ctl_allowsStoring_17 : decode prog_3_method_8_code 17 = .ok (.invokevirtual 35, 3) := by decide +kernel
theorem s_Ctl_allowsStoring_17 {l0 : Option ex_V} {r : Option Nat} {a : Nat} {x0 : Int32} {b1 b2 : Nat} {Q1 : Option ex_V → ex_K → ex_I → ex_F → Prop} (hr : r = some a) (ha : (K a).1 = 2) (h : ex_E Γ d M_Ctl_has 0 [some (.inr (some a)), some (.inl x0)] [] K I F b1 Q1) (kk : ∀ r K' I' F', Q1 r K' I' F' → ex_E Γ (d + 1) M_Ctl_allowsStoring 20 [l0] (r.toList ++ st) K' I' F' b2 Q) (hbb : b1 + b2 ≤ b) (hst : st.length ≤ 8 := by first | exact Nat.le_of_ble_eq_true rfl | simp) : ex_E Γ (d + 1) M_Ctl_allowsStoring 17 [l0] (.inl x0 :: .inr r :: st) K I F b Q := by
  subst hr
  exact ex_callV (Mc := M_Ctl_has) (n := 1) (av := [.inl x0]) (ci := 1) d_Ctl_allowsStoring_17 (by decide) rfl rfl (by decide) rfl (by decide) (ex_good w_364) (List.mem_cons_of_mem _ w_361) (List.mem_cons_of_mem _ w_6) (List.mem_cons_of_mem _ w_362) (List.mem_cons_of_mem _ w_363) ⟨by decide +kernel, by decide +kernel, by decide +kernel⟩ rfl (Nat.le_of_ble_eq_true rfl) hst ha h hbb kk
theorem d_Ctl_allowsStoring_20 : decode prog_3_method_8_code 20 = .ok (.ifCond .ne 7, 3) := by decide +kernel
theorem s_Ctl_allowsStoring_20 {l0 : Option ex_V} {x : Int32} (kt : ¬ x = 0 → ex_E Γ d M_Ctl_allowsStoring 27 [l0] (st) K I F b Q) (kf : x = 0 → ex_E Γ d M_Ctl_allowsStoring 23 [l0] (st) K I F b Q) : ex_E Γ d M_Ctl_allowsStoring 20 [l0] (.inl x :: st) K I F b Q := ex_if_ne d_Ctl_allowsStoring_20 (by decide) kt kf
theorem d_Ctl_allowsStoring_23 : decode prog_3_method_8_code 23 = .ok (.iconst 1, 1) := by decide +kernel
theorem s_Ctl_allowsStoring_23 {l0 : Option ex_V} (k : ex_E Γ d M_Ctl_allowsStoring 24 [l0] (.inl 1 :: st) K I F b Q) : ex_E Γ d M_Ctl_allowsStoring 23 [l0] (st) K I F b Q := ex_iconst d_Ctl_allowsStoring_23 (by decide +kernel) k
theorem d_Ctl_allowsStoring_24 : decode prog_3_method_8_code 24 = .ok (.goto 4, 3) := by decide +kernel
theorem s_Ctl_allowsStoring_24 {l0 : Option ex_V} (k : ex_E Γ d M_Ctl_allowsStoring 28 [l0] (st) K I F b Q) : ex_E Γ d M_Ctl_allowsStoring 24 [l0] (st) K I F b Q := ex_goto d_Ctl_allowsStoring_24 (by decide) k
theorem d_Ctl_allowsStoring_27 : decode prog_3_method_8_code 27 = .ok (.iconst 0, 1) := by decide +kernel
theorem s_Ctl_allowsStoring_27 {l0 : Option ex_V} (k : ex_E Γ d M_Ctl_allowsStoring 28 [l0] (.inl 0 :: st) K I F b Q) : ex_E Γ d M_Ctl_allowsStoring 27 [l0] (st) K I F b Q := ex_iconst d_Ctl_allowsStoring_27 (by decide +kernel) k
theorem d_Ctl_allowsStoring_28 : decode prog_3_method_8_code 28 = .ok (.ireturn, 1) := by decide +kernel
theorem s_Ctl_allowsStoring_28 {l0 : Option ex_V} {x : Int32} (hn : narrow .boolean (.int x) = .int x) (hq : Q (some (.inl x)) K I F) : ex_E Γ d M_Ctl_allowsStoring 28 [l0] ([.inl x]) K I F b Q := ex_zret d_Ctl_allowsStoring_28 rfl hn hq
theorem d_Ent_init_0 : decode prog_5_method_1_code 0 = .ok (.aload_n 0, 1) := by decide +kernel
theorem s_Ent_init_0 {l1 l2 l3 l4 : Option ex_V} {r : Option Nat} (k : ex_E Γ d M_Ent_init 1 [some (.inr r), l1, l2, l3, l4] (.inr r :: st) K I F b Q) : ex_E Γ d M_Ent_init 0 [some (.inr r), l1, l2, l3, l4] (st) K I F b Q := ex_aload_n d_Ent_init_0 rfl k
theorem d_Ent_init_1 : decode prog_5_method_1_code 1 = .ok (.invokespecial 1, 3) := by decide +kernel
theorem s_Ent_init_1 {l0 l1 l2 l3 l4 : Option ex_V} {r : Option Nat} {a : Nat} (hr : r = some a) (k : ex_E Γ (d + 1) M_Ent_init 4 [l0, l1, l2, l3, l4] (st) K I F b Q) (hst : st.length ≤ 8 := by first | exact Nat.le_of_ble_eq_true rfl | simp) : ex_E Γ (d + 1) M_Ent_init 1 [l0, l1, l2, l3, l4] (.inr r :: st) K I F b Q := by
  subst hr
  exact ex_objInit d_Ent_init_1 (List.mem_cons_of_mem _ w_591) (List.mem_cons_of_mem _ w_25) (List.mem_cons_of_mem _ w_26) hst k
theorem d_Ent_init_4 : decode prog_5_method_1_code 4 = .ok (.aload_n 0, 1) := by decide +kernel
theorem s_Ent_init_4 {l1 l2 l3 l4 : Option ex_V} {r : Option Nat} (k : ex_E Γ d M_Ent_init 5 [some (.inr r), l1, l2, l3, l4] (.inr r :: st) K I F b Q) : ex_E Γ d M_Ent_init 4 [some (.inr r), l1, l2, l3, l4] (st) K I F b Q := ex_aload_n d_Ent_init_4 rfl k
theorem d_Ent_init_5 : decode prog_5_method_1_code 5 = .ok (.iload_n 1, 1) := by decide +kernel
theorem s_Ent_init_5 {l0 l2 l3 l4 : Option ex_V} {x : Int32} (k : ex_E Γ d M_Ent_init 6 [l0, some (.inl x), l2, l3, l4] (.inl x :: st) K I F b Q) : ex_E Γ d M_Ent_init 5 [l0, some (.inl x), l2, l3, l4] (st) K I F b Q := ex_iload_n d_Ent_init_5 rfl k
theorem d_Ent_init_6 : decode prog_5_method_1_code 6 = .ok (.putfield 7, 3) := by decide +kernel
theorem s_Ent_init_6 {l0 l1 l2 l3 l4 : Option ex_V} {r : Option Nat} {a : Nat} {x : Int32} (hr : r = some a) (ha : (K a).1 = 5) (k : ex_E Γ d M_Ent_init 9 [l0, l1, l2, l3, l4] (st) K (ex_ui I 356 a 0 x) F b Q) : ex_E Γ d M_Ent_init 6 [l0, l1, l2, l3, l4] (.inl x :: .inr r :: st) K I F b Q := ex_putFi 0 d_Ent_init_6 (ci := 4) rfl (by decide) rfl (by decide) rfl rfl rfl (inC_Ent _) (List.mem_cons_of_mem _ w_596) rfl rfl tyok_Ent nm_Ent rfl rfl hr ha k
theorem d_Ent_init_9 : decode prog_5_method_1_code 9 = .ok (.aload_n 0, 1) := by decide +kernel
theorem s_Ent_init_9 {l1 l2 l3 l4 : Option ex_V} {r : Option Nat} (k : ex_E Γ d M_Ent_init 10 [some (.inr r), l1, l2, l3, l4] (.inr r :: st) K I F b Q) : ex_E Γ d M_Ent_init 9 [some (.inr r), l1, l2, l3, l4] (st) K I F b Q := ex_aload_n d_Ent_init_9 rfl k
theorem d_Ent_init_10 : decode prog_5_method_1_code 10 = .ok (.iload_n 2, 1) := by decide +kernel
theorem s_Ent_init_10 {l0 l1 l3 l4 : Option ex_V} {x : Int32} (k : ex_E Γ d M_Ent_init 11 [l0, l1, some (.inl x), l3, l4] (.inl x :: st) K I F b Q) : ex_E Γ d M_Ent_init 10 [l0, l1, some (.inl x), l3, l4] (st) K I F b Q := ex_iload_n d_Ent_init_10 rfl k
theorem d_Ent_init_11 : decode prog_5_method_1_code 11 = .ok (.putfield 13, 3) := by decide +kernel
theorem s_Ent_init_11 {l0 l1 l2 l3 l4 : Option ex_V} {r : Option Nat} {a : Nat} {x : Int32} (hr : r = some a) (ha : (K a).1 = 5) (k : ex_E Γ d M_Ent_init 14 [l0, l1, l2, l3, l4] (st) K (ex_ui I 357 a 0 x) F b Q) : ex_E Γ d M_Ent_init 11 [l0, l1, l2, l3, l4] (.inl x :: .inr r :: st) K I F b Q := ex_putFi 1 d_Ent_init_11 (ci := 4) rfl (by decide) rfl (by decide) rfl rfl rfl (inC_Ent _) (List.mem_cons_of_mem _ w_599) rfl rfl tyok_Ent nm_Ent rfl rfl hr ha k
theorem d_Ent_init_14 : decode prog_5_method_1_code 14 = .ok (.aload_n 0, 1) := by decide +kernel
theorem s_Ent_init_14 {l1 l2 l3 l4 : Option ex_V} {r : Option Nat} (k : ex_E Γ d M_Ent_init 15 [some (.inr r), l1, l2, l3, l4] (.inr r :: st) K I F b Q) : ex_E Γ d M_Ent_init 14 [some (.inr r), l1, l2, l3, l4] (st) K I F b Q := ex_aload_n d_Ent_init_14 rfl k
theorem d_Ent_init_15 : decode prog_5_method_1_code 15 = .ok (.aload_n 3, 1) := by decide +kernel
theorem s_Ent_init_15 {l0 l1 l2 l4 : Option ex_V} {r : Option Nat} (k : ex_E Γ d M_Ent_init 16 [l0, l1, l2, some (.inr r), l4] (.inr r :: st) K I F b Q) : ex_E Γ d M_Ent_init 15 [l0, l1, l2, some (.inr r), l4] (st) K I F b Q := ex_aload_n d_Ent_init_15 rfl k
theorem d_Ent_init_16 : decode prog_5_method_1_code 16 = .ok (.putfield 16, 3) := by decide +kernel
theorem s_Ent_init_16 {l0 l1 l2 l3 l4 : Option ex_V} {r : Option Nat} {a : Nat} {x : Option Nat} (hr : r = some a) (ha : (K a).1 = 5) (k : ex_E Γ d M_Ent_init 19 [l0, l1, l2, l3, l4] (st) K I (ex_uf F 358 a 0 x) b Q) : ex_E Γ d M_Ent_init 16 [l0, l1, l2, l3, l4] (.inr x :: .inr r :: st) K I F b Q := ex_putFr 2 d_Ent_init_16 (ci := 4) rfl (by decide) rfl (by decide) rfl rfl rfl (inC_Ent _) (List.mem_cons_of_mem _ w_602) rfl rfl tyok_Ent nm_Ent (ex_o1 _ _) (ex_o2 _ _) hr ha k
theorem d_Ent_init_19 : decode prog_5_method_1_code 19 = .ok (.aload_n 0, 1) := by decide +kernel
theorem s_Ent_init_19 {l1 l2 l3 l4 : Option ex_V} {r : Option Nat} (k : ex_E Γ d M_Ent_init 20 [some (.inr r), l1, l2, l3, l4] (.inr r :: st) K I F b Q) : ex_E Γ d M_Ent_init 19 [some (.inr r), l1, l2, l3, l4] (st) K I F b Q := ex_aload_n d_Ent_init_19 rfl k
theorem d_Ent_init_20 : decode prog_5_method_1_code 20 = .ok (.aload_n 3, 1) := by decide +kernel
theorem s_Ent_init_20 {l0 l1 l2 l4 : Option ex_V} {r : Option Nat} (k : ex_E Γ d M_Ent_init 21 [l0, l1, l2, some (.inr r), l4] (.inr r :: st) K I F b Q) : ex_E Γ d M_Ent_init 20 [l0, l1, l2, some (.inr r), l4] (st) K I F b Q := ex_aload_n d_Ent_init_20 rfl k
theorem d_Ent_init_21 : decode prog_5_method_1_code 21 = .ok (.iload_n 2, 1) := by decide +kernel
theorem s_Ent_init_21 {l0 l1 l3 l4 : Option ex_V} {x : Int32} (k : ex_E Γ d M_Ent_init 22 [l0, l1, some (.inl x), l3, l4] (.inl x :: st) K I F b Q) : ex_E Γ d M_Ent_init 21 [l0, l1, some (.inl x), l3, l4] (st) K I F b Q := ex_iload_n d_Ent_init_21 rfl k
theorem d_Ent_init_22 : decode prog_5_method_1_code 22 = .ok (.invokevirtual 20, 3) := by decide +kernel
theorem s_Ent_init_22 {l0 l1 l2 l3 l4 : Option ex_V} {r : Option Nat} {a : Nat} {x0 : Int32} {b1 b2 : Nat} {Q1 : Option ex_V → ex_K → ex_I → ex_F → Prop} (hr : r = some a) (ha : (K a).1 = 4) (h : ex_E Γ d M_Res_tagFor 0 [some (.inr (some a)), some (.inl x0)] [] K I F b1 Q1) (kk : ∀ r K' I' F', Q1 r K' I' F' → ex_E Γ (d + 1) M_Ent_init 25 [l0, l1, l2, l3, l4] (r.toList ++ st) K' I' F' b2 Q) (hbb : b1 + b2 ≤ b) (hst : st.length ≤ 8 := by first | exact Nat.le_of_ble_eq_true rfl | simp) : ex_E Γ (d + 1) M_Ent_init 22 [l0, l1, l2, l3, l4] (.inl x0 :: .inr r :: st) K I F b Q := by
  subst hr
  exact ex_callV (Mc := M_Res_tagFor) (n := 1) (av := [.inl x0]) (ci := 3) d_Ent_init_22 (by decide) rfl rfl (by decide) rfl (by decide) (ex_good w_595) (List.mem_cons_of_mem _ w_592) (List.mem_cons_of_mem _ w_5) (List.mem_cons_of_mem _ w_593) (List.mem_cons_of_mem _ w_594) ⟨by decide +kernel, by decide +kernel, by decide +kernel⟩ rfl (Nat.le_of_ble_eq_true rfl) hst ha h hbb kk
theorem d_Ent_init_25 : decode prog_5_method_1_code 25 = .ok (.putfield 26, 3) := by decide +kernel
theorem s_Ent_init_25 {l0 l1 l2 l3 l4 : Option ex_V} {r : Option Nat} {a : Nat} {x : Int32} (hr : r = some a) (ha : (K a).1 = 5) (k : ex_E Γ d M_Ent_init 28 [l0, l1, l2, l3, l4] (st) K (ex_ui I 359 a 0 x) F b Q) : ex_E Γ d M_Ent_init 25 [l0, l1, l2, l3, l4] (.inl x :: .inr r :: st) K I F b Q := ex_putFi 3 d_Ent_init_25 (ci := 4) rfl (by decide) rfl (by decide) rfl rfl rfl (inC_Ent _) (List.mem_cons_of_mem _ w_605) rfl rfl tyok_Ent nm_Ent rfl rfl hr ha k
theorem d_Ent_init_28 : decode prog_5_method_1_code 28 = .ok (.aload_n 0, 1) := by decide +kernel
theorem s_Ent_init_28 {l1 l2 l3 l4 : Option ex_V} {r : Option Nat} (k : ex_E Γ d M_Ent_init 29 [some (.inr r), l1, l2, l3, l4] (.inr r :: st) K I F b Q) : ex_E Γ d M_Ent_init 28 [some (.inr r), l1, l2, l3, l4] (st) K I F b Q := ex_aload_n d_Ent_init_28 rfl k
theorem d_Ent_init_29 : decode prog_5_method_1_code 29 = .ok (.aload_n 3, 1) := by decide +kernel
theorem s_Ent_init_29 {l0 l1 l2 l4 : Option ex_V} {r : Option Nat} (k : ex_E Γ d M_Ent_init 30 [l0, l1, l2, some (.inr r), l4] (.inr r :: st) K I F b Q) : ex_E Γ d M_Ent_init 29 [l0, l1, l2, some (.inr r), l4] (st) K I F b Q := ex_aload_n d_Ent_init_29 rfl k
theorem d_Ent_init_30 : decode prog_5_method_1_code 30 = .ok (.getfield 29, 3) := by decide +kernel
theorem s_Ent_init_30 {l0 l1 l2 l3 l4 : Option ex_V} {r : Option Nat} {a : Nat} (hr : r = some a) (ha : (K a).1 = 4) (k : ex_E Γ d M_Ent_init 33 [l0, l1, l2, l3, l4] (.inr (F 295 a 0) :: st) K I F b Q) : ex_E Γ d M_Ent_init 30 [l0, l1, l2, l3, l4] (.inr r :: st) K I F b Q := ex_get 3 d_Ent_init_30 (ci := 3) rfl (by decide) rfl (by decide) rfl (inC_Res _) (List.mem_cons_of_mem _ w_109) rfl hr ha k
theorem d_Ent_init_33 : decode prog_5_method_1_code 33 = .ok (.putfield 33, 3) := by decide +kernel
theorem s_Ent_init_33 {l0 l1 l2 l3 l4 : Option ex_V} {r : Option Nat} {a : Nat} {x : Option Nat} (hr : r = some a) (ha : (K a).1 = 5) (k : ex_E Γ d M_Ent_init 36 [l0, l1, l2, l3, l4] (st) K I (ex_uf F 360 a 0 x) b Q) : ex_E Γ d M_Ent_init 33 [l0, l1, l2, l3, l4] (.inr x :: .inr r :: st) K I F b Q := ex_putr 4 d_Ent_init_33 (ci := 4) rfl (by decide) rfl (by decide) rfl rfl rfl (inC_Ent _) (List.mem_cons_of_mem _ w_608) tyok_Ent nm_Ent (ex_o1 _ _) (ex_o2 _ _) hr ha k
theorem d_Ent_init_36 : decode prog_5_method_1_code 36 = .ok (.aload_n 0, 1) := by decide +kernel
theorem s_Ent_init_36 {l1 l2 l3 l4 : Option ex_V} {r : Option Nat} (k : ex_E Γ d M_Ent_init 37 [some (.inr r), l1, l2, l3, l4] (.inr r :: st) K I F b Q) : ex_E Γ d M_Ent_init 36 [some (.inr r), l1, l2, l3, l4] (st) K I F b Q := ex_aload_n d_Ent_init_36 rfl k
theorem d_Ent_init_37 : decode prog_5_method_1_code 37 = .ok (.iload 4, 2) := by decide +kernel
theorem s_Ent_init_37 {l0 l1 l2 l3 : Option ex_V} {x : Int32} (k : ex_E Γ d M_Ent_init 39 [l0, l1, l2, l3, some (.inl x)] (.inl x :: st) K I F b Q) : ex_E Γ d M_Ent_init 37 [l0, l1, l2, l3, some (.inl x)] (st) K I F b Q := ex_iload d_Ent_init_37 rfl k
theorem d_Ent_init_39 : decode prog_5_method_1_code 39 = .ok (.putfield 34, 3) := by decide +kernel
theorem s_Ent_init_39 {l0 l1 l2 l3 l4 : Option ex_V} {r : Option Nat} {a : Nat} {x : Int32} (hr : r = some a) (ha : (K a).1 = 5) (k : ex_E Γ d M_Ent_init 42 [l0, l1, l2, l3, l4] (st) K (ex_ui I 361 a 0 x) F b Q) : ex_E Γ d M_Ent_init 39 [l0, l1, l2, l3, l4] (.inl x :: .inr r :: st) K I F b Q := ex_puti 5 d_Ent_init_39 (ci := 4) rfl (by decide) rfl (by decide) rfl rfl rfl (inC_Ent _) (List.mem_cons_of_mem _ w_611) tyok_Ent nm_Ent rfl rfl hr ha k
theorem d_Ent_init_42 : decode prog_5_method_1_code 42 = .ok (.return_, 1) := by decide +kernel
theorem s_Ent_init_42 {l0 l1 l2 l3 l4 : Option ex_V} (hq : Q none K I F) : ex_E Γ d M_Ent_init 42 [l0, l1, l2, l3, l4] ([]) K I F b Q := ex_vret d_Ent_init_42 rfl hq
theorem d_Res_tagFor_0 : decode prog_9_method_3_code 0 = .ok (.iconst 4, 1) := by decide +kernel
theorem s_Res_tagFor_0 {l0 l1 : Option ex_V} (k : ex_E Γ d M_Res_tagFor 1 [l0, l1] (.inl 4 :: st) K I F b Q) : ex_E Γ d M_Res_tagFor 0 [l0, l1] (st) K I F b Q := ex_iconst d_Res_tagFor_0 (by decide +kernel) k
theorem d_Res_tagFor_1 : decode prog_9_method_3_code 1 = .ok (.aload_n 0, 1) := by decide +kernel
theorem s_Res_tagFor_1 {l1 : Option ex_V} {r : Option Nat} (k : ex_E Γ d M_Res_tagFor 2 [some (.inr r), l1] (.inr r :: st) K I F b Q) : ex_E Γ d M_Res_tagFor 1 [some (.inr r), l1] (st) K I F b Q := ex_aload_n d_Res_tagFor_1 rfl k
theorem d_Res_tagFor_2 : decode prog_9_method_3_code 2 = .ok (.getfield 7, 3) := by decide +kernel
theorem s_Res_tagFor_2 {l0 l1 : Option ex_V} {r : Option Nat} {a : Nat} (hr : r = some a) (ha : (K a).1 = 4) (k : ex_E Γ d M_Res_tagFor 5 [l0, l1] (.inl (I 292 a 0) :: st) K I F b Q) : ex_E Γ d M_Res_tagFor 2 [l0, l1] (.inr r :: st) K I F b Q := ex_get 0 d_Res_tagFor_2 (ci := 3) rfl (by decide) rfl (by decide) rfl (inC_Res _) (List.mem_cons_of_mem _ w_99) rfl hr ha k
theorem d_Res_tagFor_5 : decode prog_9_method_3_code 5 = .ok (.imul, 1) := by decide +kernel
theorem s_Res_tagFor_5 {l0 l1 : Option ex_V} {x y : Int32} (k : ex_E Γ d M_Res_tagFor 6 [l0, l1] (.inl (x * y) :: st) K I F b Q) : ex_E Γ d M_Res_tagFor 5 [l0, l1] (.inl y :: .inl x :: st) K I F b Q := ex_imul d_Res_tagFor_5 k
theorem d_Res_tagFor_6 : decode prog_9_method_3_code 6 = .ok (.aload_n 0, 1) := by decide +kernel
theorem s_Res_tagFor_6 {l1 : Option ex_V} {r : Option Nat} (k : ex_E Γ d M_Res_tagFor 7 [some (.inr r), l1] (.inr r :: st) K I F b Q) : ex_E Γ d M_Res_tagFor 6 [some (.inr r), l1] (st) K I F b Q := ex_aload_n d_Res_tagFor_6 rfl k
theorem d_Res_tagFor_7 : decode prog_9_method_3_code 7 = .ok (.getfield 16, 3) := by decide +kernel
theorem s_Res_tagFor_7 {l0 l1 : Option ex_V} {r : Option Nat} {a : Nat} (hr : r = some a) (ha : (K a).1 = 4) (k : ex_E Γ d M_Res_tagFor 10 [l0, l1] (.inl (I 294 a 0) :: st) K I F b Q) : ex_E Γ d M_Res_tagFor 7 [l0, l1] (.inr r :: st) K I F b Q := ex_get 2 d_Res_tagFor_7 (ci := 3) rfl (by decide) rfl (by decide) rfl (inC_Res _) (List.mem_cons_of_mem _ w_104) rfl hr ha k
theorem d_Res_tagFor_10 : decode prog_9_method_3_code 10 = .ok (.ifCond .eq 7, 3) := by decide +kernel
theorem s_Res_tagFor_10 {l0 l1 : Option ex_V} {x : Int32} (kt : x = 0 → ex_E Γ d M_Res_tagFor 17 [l0, l1] (st) K I F b Q) (kf : ¬ x = 0 → ex_E Γ d M_Res_tagFor 13 [l0, l1] (st) K I F b Q) : ex_E Γ d M_Res_tagFor 10 [l0, l1] (.inl x :: st) K I F b Q := ex_if_eq d_Res_tagFor_10 (by decide) kt kf
theorem d_Res_tagFor_13 : decode prog_9_method_3_code 13 = .ok (.iload_n 1, 1) := by decide +kernel
theorem s_Res_tagFor_13 {l0 : Option ex_V} {x : Int32} (k : ex_E Γ d M_Res_tagFor 14 [l0, some (.inl x)] (.inl x :: st) K I F b Q) : ex_E Γ d M_Res_tagFor 13 [l0, some (.inl x)] (st) K I F b Q := ex_iload_n d_Res_tagFor_13 rfl k
theorem d_Res_tagFor_14 : decode prog_9_method_3_code 14 = .ok (.goto 4, 3) := by decide +kernel
theorem s_Res_tagFor_14 {l0 l1 : Option ex_V} (k : ex_E Γ d M_Res_tagFor 18 [l0, l1] (st) K I F b Q) : ex_E Γ d M_Res_tagFor 14 [l0, l1] (st) K I F b Q := ex_goto d_Res_tagFor_14 (by decide) k
theorem d_Res_tagFor_17 : decode prog_9_method_3_code 17 = .ok (.iconst 0, 1) := by decide +kernel
theorem s_Res_tagFor_17 {l0 l1 : Option ex_V} (k : ex_E Γ d M_Res_tagFor 18 [l0, l1] (.inl 0 :: st) K I F b Q) : ex_E Γ d M_Res_tagFor 17 [l0, l1] (st) K I F b Q := ex_iconst d_Res_tagFor_17 (by decide +kernel) k
theorem d_Res_tagFor_18 : decode prog_9_method_3_code 18 = .ok (.iadd, 1) := by decide +kernel
theorem s_Res_tagFor_18 {l0 l1 : Option ex_V} {x y : Int32} (k : ex_E Γ d M_Res_tagFor 19 [l0, l1] (.inl (x + y) :: st) K I F b Q) : ex_E Γ d M_Res_tagFor 18 [l0, l1] (.inl y :: .inl x :: st) K I F b Q := ex_iadd d_Res_tagFor_18 k
theorem d_Res_tagFor_19 : decode prog_9_method_3_code 19 = .ok (.ireturn, 1) := by decide +kernel
theorem s_Res_tagFor_19 {l0 l1 : Option ex_V} {x : Int32} (hq : Q (some (.inl x)) K I F) : ex_E Γ d M_Res_tagFor 19 [l0, l1] ([.inl x]) K I F b Q := ex_iret d_Res_tagFor_19 rfl hq
end
