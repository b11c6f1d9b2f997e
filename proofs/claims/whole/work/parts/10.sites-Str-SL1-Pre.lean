section
variable {Γ : ex_G} {d : Nat} {st : List ex_V} {K : ex_K} {I : ex_I} {F : ex_F} {b : Nat} {Q : Option ex_V → ex_K → ex_I → ex_F → Prop}
theorem d_Str_length_0 : decode prog_15_method_54_code 0 = .ok (.aload_n 0, 1) := by decide +kernel
theorem s_Str_length_0 {r : Option Nat} (k : ex_E Γ d M_Str_length 1 [some (.inr r)] (.inr r :: st) K I F b Q) : ex_E Γ d M_Str_length 0 [some (.inr r)] (st) K I F b Q := ex_aload_n d_Str_length_0 rfl k
theorem d_Str_length_1 : decode prog_15_method_54_code 1 = .ok (.getfield 9, 3) := by decide +kernel
theorem s_Str_length_1 {l0 : Option ex_V} {i : Nat} (hi : i < 7) (k : ex_E Γ d M_Str_length 4 [l0] (.inr (some (Γ.2.2.2.2.1 i)) :: st) K I F b Q) : ex_E Γ d M_Str_length 1 [l0] (.inr (some (Γ.2.2.2.1 i)) :: st) K I F b Q := ex_sval d_Str_length_1 hi (List.mem_cons_of_mem _ w_1048) k
theorem d_Str_length_4 : decode prog_15_method_54_code 4 = .ok (.arraylength, 1) := by decide +kernel
theorem s_Str_length_4 {l0 : Option ex_V} {i : Nat} (hi : i < 7) (k : ex_E Γ d M_Str_length 5 [l0] (.inl (nI (sl_len.getD i 0)) :: st) K I F b Q) : ex_E Γ d M_Str_length 4 [l0] (.inr (some (Γ.2.2.2.2.1 i)) :: st) K I F b Q := ex_sblen d_Str_length_4 hi k
theorem d_Str_length_5 : decode prog_15_method_54_code 5 = .ok (.aload_n 0, 1) := by decide +kernel
theorem s_Str_length_5 {r : Option Nat} (k : ex_E Γ d M_Str_length 6 [some (.inr r)] (.inr r :: st) K I F b Q) : ex_E Γ d M_Str_length 5 [some (.inr r)] (st) K I F b Q := ex_aload_n d_Str_length_5 rfl k
theorem d_Str_length_6 : decode prog_15_method_54_code 6 = .ok (.invokevirtual 335, 3) := by decide +kernel
theorem s_Str_length_6 {l0 : Option ex_V} {i : Nat} {b1 b2 : Nat} {Q1 : Option ex_V → ex_K → ex_I → ex_F → Prop} (hi : i < 7) (h : ex_E Γ d M_Str_coder 0 [some (.inr (some (Γ.2.2.2.1 i)))] [] K I F b1 Q1) (kk : ∀ r K' I' F', Q1 r K' I' F' → ex_E Γ (d + 1) M_Str_length 9 [l0] (r.toList ++ st) K' I' F' b2 Q) (hbb : b1 + b2 ≤ b) (hst : st.length ≤ 8 := by first | exact Nat.le_of_ble_eq_true rfl | simp) : ex_E Γ (d + 1) M_Str_length 6 [l0] (.inr (some (Γ.2.2.2.1 i)) :: st) K I F b Q := by
  exact ex_callVS (Mc := M_Str_coder) (n := 0) (av := []) d_Str_length_6 (by decide) rfl rfl (by decide) hi (ex_good w_316) (List.mem_cons_of_mem _ w_313) (List.mem_cons_of_mem _ w_12) (List.mem_cons_of_mem _ w_314) (List.mem_cons_of_mem _ w_315) ⟨by decide +kernel, by decide +kernel, by decide +kernel⟩ rfl (Nat.le_of_ble_eq_true rfl) hst h hbb kk
theorem d_Str_length_9 : decode prog_15_method_54_code 9 = .ok (.ishr, 1) := by decide +kernel
theorem s_Str_length_9 {l0 : Option ex_V} {x y : Int32} (k : ex_E Γ d M_Str_length 10 [l0] (.inl (x >>> (y &&& 31)) :: st) K I F b Q) : ex_E Γ d M_Str_length 9 [l0] (.inl y :: .inl x :: st) K I F b Q := ex_ishr d_Str_length_9 k
theorem d_Str_length_10 : decode prog_15_method_54_code 10 = .ok (.ireturn, 1) := by decide +kernel
theorem s_Str_length_10 {l0 : Option ex_V} {x : Int32} (hq : Q (some (.inl x)) K I F) : ex_E Γ d M_Str_length 10 [l0] ([.inl x]) K I F b Q := ex_iret d_Str_length_10 rfl hq
theorem d_Str_coder_0 : decode prog_15_method_152_code 0 = .ok (.getstatic 38, 3) := by decide +kernel
theorem s_Str_coder_0 {l0 : Option ex_V} (k : ex_E Γ d M_Str_coder 3 [l0] (.inl 1 :: st) K I F b Q) : ex_E Γ d M_Str_coder 0 [l0] (st) K I F b Q := ex_stat d_Str_coder_0 (List.mem_cons_of_mem _ w_317) k
theorem d_Str_coder_3 : decode prog_15_method_152_code 3 = .ok (.ifCond .eq 10, 3) := by decide +kernel
theorem s_Str_coder_3 {l0 : Option ex_V} {x : Int32} (kt : x = 0 → ex_E Γ d M_Str_coder 13 [l0] (st) K I F b Q) (kf : ¬ x = 0 → ex_E Γ d M_Str_coder 6 [l0] (st) K I F b Q) : ex_E Γ d M_Str_coder 3 [l0] (.inl x :: st) K I F b Q := ex_if_eq d_Str_coder_3 (by decide) kt kf
theorem d_Str_coder_6 : decode prog_15_method_152_code 6 = .ok (.aload_n 0, 1) := by decide +kernel
theorem s_Str_coder_6 {r : Option Nat} (k : ex_E Γ d M_Str_coder 7 [some (.inr r)] (.inr r :: st) K I F b Q) : ex_E Γ d M_Str_coder 6 [some (.inr r)] (st) K I F b Q := ex_aload_n d_Str_coder_6 rfl k
theorem d_Str_coder_7 : decode prog_15_method_152_code 7 = .ok (.getfield 15, 3) := by decide +kernel
theorem s_Str_coder_7 {l0 : Option ex_V} {i : Nat} (hi : i < 7) (k : ex_E Γ d M_Str_coder 10 [l0] (.inl 0 :: st) K I F b Q) : ex_E Γ d M_Str_coder 7 [l0] (.inr (some (Γ.2.2.2.1 i)) :: st) K I F b Q := ex_scod d_Str_coder_7 hi (List.mem_cons_of_mem _ w_1049) k
theorem d_Str_coder_10 : decode prog_15_method_152_code 10 = .ok (.goto 4, 3) := by decide +kernel
theorem s_Str_coder_10 {l0 : Option ex_V} (k : ex_E Γ d M_Str_coder 14 [l0] (st) K I F b Q) : ex_E Γ d M_Str_coder 10 [l0] (st) K I F b Q := ex_goto d_Str_coder_10 (by decide) k
theorem d_Str_coder_13 : decode prog_15_method_152_code 13 = .ok (.iconst 1, 1) := by decide +kernel
theorem s_Str_coder_13 {l0 : Option ex_V} (k : ex_E Γ d M_Str_coder 14 [l0] (.inl 1 :: st) K I F b Q) : ex_E Γ d M_Str_coder 13 [l0] (st) K I F b Q := ex_iconst d_Str_coder_13 (by decide +kernel) k
theorem d_Str_coder_14 : decode prog_15_method_152_code 14 = .ok (.ireturn, 1) := by decide +kernel
theorem s_Str_coder_14 {l0 : Option ex_V} {x : Int32} (hn : narrow .byte (.int x) = .int x) (hq : Q (some (.inl x)) K I F) : ex_E Γ d M_Str_coder 14 [l0] ([.inl x]) K I F b Q := ex_zret d_Str_coder_14 rfl hn hq
theorem d_Str_charAt_0 : decode prog_15_method_56_code 0 = .ok (.aload_n 0, 1) := by decide +kernel
theorem s_Str_charAt_0 {l1 : Option ex_V} {r : Option Nat} (k : ex_E Γ d M_Str_charAt 1 [some (.inr r), l1] (.inr r :: st) K I F b Q) : ex_E Γ d M_Str_charAt 0 [some (.inr r), l1] (st) K I F b Q := ex_aload_n d_Str_charAt_0 rfl k
theorem d_Str_charAt_1 : decode prog_15_method_56_code 1 = .ok (.invokevirtual 492, 3) := by decide +kernel
theorem s_Str_charAt_1 {l0 l1 : Option ex_V} {i : Nat} {b1 b2 : Nat} {Q1 : Option ex_V → ex_K → ex_I → ex_F → Prop} (hi : i < 7) (h : ex_E Γ d M_Str_isLatin1 0 [some (.inr (some (Γ.2.2.2.1 i)))] [] K I F b1 Q1) (kk : ∀ r K' I' F', Q1 r K' I' F' → ex_E Γ (d + 1) M_Str_charAt 4 [l0, l1] (r.toList ++ st) K' I' F' b2 Q) (hbb : b1 + b2 ≤ b) (hst : st.length ≤ 8 := by first | exact Nat.le_of_ble_eq_true rfl | simp) : ex_E Γ (d + 1) M_Str_charAt 1 [l0, l1] (.inr (some (Γ.2.2.2.1 i)) :: st) K I F b Q := by
  exact ex_callVS (Mc := M_Str_isLatin1) (n := 0) (av := []) d_Str_charAt_1 (by decide) rfl rfl (by decide) hi (ex_good w_326) (List.mem_cons_of_mem _ w_323) (List.mem_cons_of_mem _ w_12) (List.mem_cons_of_mem _ w_324) (List.mem_cons_of_mem _ w_325) ⟨by decide +kernel, by decide +kernel, by decide +kernel⟩ rfl (Nat.le_of_ble_eq_true rfl) hst h hbb kk
theorem d_Str_charAt_4 : decode prog_15_method_56_code 4 = .ok (.ifCond .eq 12, 3) := by decide +kernel
theorem s_Str_charAt_4 {l0 l1 : Option ex_V} {x : Int32} (kt : x = 0 → ex_E Γ d M_Str_charAt 16 [l0, l1] (st) K I F b Q) (kf : ¬ x = 0 → ex_E Γ d M_Str_charAt 7 [l0, l1] (st) K I F b Q) : ex_E Γ d M_Str_charAt 4 [l0, l1] (.inl x :: st) K I F b Q := ex_if_eq d_Str_charAt_4 (by decide) kt kf
theorem d_Str_charAt_7 : decode prog_15_method_56_code 7 = .ok (.aload_n 0, 1) := by decide +kernel
theorem s_Str_charAt_7 {l1 : Option ex_V} {r : Option Nat} (k : ex_E Γ d M_Str_charAt 8 [some (.inr r), l1] (.inr r :: st) K I F b Q) : ex_E Γ d M_Str_charAt 7 [some (.inr r), l1] (st) K I F b Q := ex_aload_n d_Str_charAt_7 rfl k
theorem d_Str_charAt_8 : decode prog_15_method_56_code 8 = .ok (.getfield 9, 3) := by decide +kernel
theorem s_Str_charAt_8 {l0 l1 : Option ex_V} {i : Nat} (hi : i < 7) (k : ex_E Γ d M_Str_charAt 11 [l0, l1] (.inr (some (Γ.2.2.2.2.1 i)) :: st) K I F b Q) : ex_E Γ d M_Str_charAt 8 [l0, l1] (.inr (some (Γ.2.2.2.1 i)) :: st) K I F b Q := ex_sval d_Str_charAt_8 hi (List.mem_cons_of_mem _ w_1048) k
theorem d_Str_charAt_11 : decode prog_15_method_56_code 11 = .ok (.iload_n 1, 1) := by decide +kernel
theorem s_Str_charAt_11 {l0 : Option ex_V} {x : Int32} (k : ex_E Γ d M_Str_charAt 12 [l0, some (.inl x)] (.inl x :: st) K I F b Q) : ex_E Γ d M_Str_charAt 11 [l0, some (.inl x)] (st) K I F b Q := ex_iload_n d_Str_charAt_11 rfl k
theorem d_Str_charAt_12 : decode prog_15_method_56_code 12 = .ok (.invokestatic 495, 3) := by decide +kernel
theorem s_Str_charAt_12 {l0 l1 : Option ex_V} {x0 : Option Nat} {x1 : Int32} {b1 b2 : Nat} {Q1 : Option ex_V → ex_K → ex_I → ex_F → Prop} (h : ex_E Γ d M_SL1_charAt 0 [some (.inr x0), some (.inl x1)] [] K I F b1 Q1) (kk : ∀ r K' I' F', Q1 r K' I' F' → ex_E Γ (d + 1) M_Str_charAt 15 [l0, l1] (r.toList ++ st) K' I' F' b2 Q) (hbb : b1 + b2 ≤ b) (hst : st.length ≤ 8 := by first | exact Nat.le_of_ble_eq_true rfl | simp) : ex_E Γ (d + 1) M_Str_charAt 12 [l0, l1] (.inl x1 :: .inr x0 :: st) K I F b Q := by
  exact ex_callS (Mc := M_SL1_charAt) (n := 2) (av := [.inr x0, .inl x1]) d_Str_charAt_12 (by decide) rfl rfl (by decide) (ex_good w_329) (List.mem_cons_of_mem _ w_327) (List.mem_cons_of_mem _ w_13) (List.mem_cons_of_mem _ w_328) ⟨by decide +kernel, by decide +kernel, by decide +kernel⟩ rfl (Nat.le_of_ble_eq_true rfl) hst h hbb kk
theorem d_Str_charAt_15 : decode prog_15_method_56_code 15 = .ok (.ireturn, 1) := by decide +kernel
theorem s_Str_charAt_15 {l0 l1 : Option ex_V} {x : Int32} (hn : narrow .char (.int x) = .int x) (hq : Q (some (.inl x)) K I F) : ex_E Γ d M_Str_charAt 15 [l0, l1] ([.inl x]) K I F b Q := ex_zret d_Str_charAt_15 rfl hn hq
theorem d_Str_charAt_16 : decode prog_15_method_56_code 16 = .ok (.aload_n 0, 1) := by decide +kernel
theorem s_Str_charAt_16 {l1 : Option ex_V} {r : Option Nat} (k : ex_E Γ d M_Str_charAt 17 [some (.inr r), l1] (.inr r :: st) K I F b Q) : ex_E Γ d M_Str_charAt 16 [some (.inr r), l1] (st) K I F b Q := ex_aload_n d_Str_charAt_16 rfl k
theorem d_Str_charAt_17 : decode prog_15_method_56_code 17 = .ok (.getfield 9, 3) := by decide +kernel
theorem s_Str_charAt_17 {l0 l1 : Option ex_V} {i : Nat} (hi : i < 7) (k : ex_E Γ d M_Str_charAt 20 [l0, l1] (.inr (some (Γ.2.2.2.2.1 i)) :: st) K I F b Q) : ex_E Γ d M_Str_charAt 17 [l0, l1] (.inr (some (Γ.2.2.2.1 i)) :: st) K I F b Q := ex_sval d_Str_charAt_17 hi (List.mem_cons_of_mem _ w_1048) k
theorem d_Str_charAt_20 : decode prog_15_method_56_code 20 = .ok (.iload_n 1, 1) := by decide +kernel
theorem s_Str_charAt_20 {l0 : Option ex_V} {x : Int32} (k : ex_E Γ d M_Str_charAt 21 [l0, some (.inl x)] (.inl x :: st) K I F b Q) : ex_E Γ d M_Str_charAt 20 [l0, some (.inl x)] (st) K I F b Q := ex_iload_n d_Str_charAt_20 rfl k
theorem d_Str_charAt_21 : decode prog_15_method_56_code 21 = .ok (.invokestatic 498, 3) := by decide +kernel
theorem d_Str_charAt_24 : decode prog_15_method_56_code 24 = .ok (.ireturn, 1) := by decide +kernel
theorem s_Str_charAt_24 {l0 l1 : Option ex_V} {x : Int32} (hn : narrow .char (.int x) = .int x) (hq : Q (some (.inl x)) K I F) : ex_E Γ d M_Str_charAt 24 [l0, l1] ([.inl x]) K I F b Q := ex_zret d_Str_charAt_24 rfl hn hq
theorem d_Str_isLatin1_0 : decode prog_15_method_154_code 0 = .ok (.getstatic 38, 3) := by decide +kernel
theorem s_Str_isLatin1_0 {l0 : Option ex_V} (k : ex_E Γ d M_Str_isLatin1 3 [l0] (.inl 1 :: st) K I F b Q) : ex_E Γ d M_Str_isLatin1 0 [l0] (st) K I F b Q := ex_stat d_Str_isLatin1_0 (List.mem_cons_of_mem _ w_317) k
theorem d_Str_isLatin1_3 : decode prog_15_method_154_code 3 = .ok (.ifCond .eq 14, 3) := by decide +kernel
theorem s_Str_isLatin1_3 {l0 : Option ex_V} {x : Int32} (kt : x = 0 → ex_E Γ d M_Str_isLatin1 17 [l0] (st) K I F b Q) (kf : ¬ x = 0 → ex_E Γ d M_Str_isLatin1 6 [l0] (st) K I F b Q) : ex_E Γ d M_Str_isLatin1 3 [l0] (.inl x :: st) K I F b Q := ex_if_eq d_Str_isLatin1_3 (by decide) kt kf
theorem d_Str_isLatin1_6 : decode prog_15_method_154_code 6 = .ok (.aload_n 0, 1) := by decide +kernel
theorem s_Str_isLatin1_6 {r : Option Nat} (k : ex_E Γ d M_Str_isLatin1 7 [some (.inr r)] (.inr r :: st) K I F b Q) : ex_E Γ d M_Str_isLatin1 6 [some (.inr r)] (st) K I F b Q := ex_aload_n d_Str_isLatin1_6 rfl k
theorem d_Str_isLatin1_7 : decode prog_15_method_154_code 7 = .ok (.getfield 15, 3) := by decide +kernel
theorem s_Str_isLatin1_7 {l0 : Option ex_V} {i : Nat} (hi : i < 7) (k : ex_E Γ d M_Str_isLatin1 10 [l0] (.inl 0 :: st) K I F b Q) : ex_E Γ d M_Str_isLatin1 7 [l0] (.inr (some (Γ.2.2.2.1 i)) :: st) K I F b Q := ex_scod d_Str_isLatin1_7 hi (List.mem_cons_of_mem _ w_1049) k
theorem d_Str_isLatin1_10 : decode prog_15_method_154_code 10 = .ok (.ifCond .ne 7, 3) := by decide +kernel
theorem s_Str_isLatin1_10 {l0 : Option ex_V} {x : Int32} (kt : ¬ x = 0 → ex_E Γ d M_Str_isLatin1 17 [l0] (st) K I F b Q) (kf : x = 0 → ex_E Γ d M_Str_isLatin1 13 [l0] (st) K I F b Q) : ex_E Γ d M_Str_isLatin1 10 [l0] (.inl x :: st) K I F b Q := ex_if_ne d_Str_isLatin1_10 (by decide) kt kf
theorem d_Str_isLatin1_13 : decode prog_15_method_154_code 13 = .ok (.iconst 1, 1) := by decide +kernel
theorem s_Str_isLatin1_13 {l0 : Option ex_V} (k : ex_E Γ d M_Str_isLatin1 14 [l0] (.inl 1 :: st) K I F b Q) : ex_E Γ d M_Str_isLatin1 13 [l0] (st) K I F b Q := ex_iconst d_Str_isLatin1_13 (by decide +kernel) k
theorem d_Str_isLatin1_14 : decode prog_15_method_154_code 14 = .ok (.goto 4, 3) := by decide +kernel
theorem s_Str_isLatin1_14 {l0 : Option ex_V} (k : ex_E Γ d M_Str_isLatin1 18 [l0] (st) K I F b Q) : ex_E Γ d M_Str_isLatin1 14 [l0] (st) K I F b Q := ex_goto d_Str_isLatin1_14 (by decide) k
theorem d_Str_isLatin1_17 : decode prog_15_method_154_code 17 = .ok (.iconst 0, 1) := by decide +kernel
theorem s_Str_isLatin1_17 {l0 : Option ex_V} (k : ex_E Γ d M_Str_isLatin1 18 [l0] (.inl 0 :: st) K I F b Q) : ex_E Γ d M_Str_isLatin1 17 [l0] (st) K I F b Q := ex_iconst d_Str_isLatin1_17 (by decide +kernel) k
theorem d_Str_isLatin1_18 : decode prog_15_method_154_code 18 = .ok (.ireturn, 1) := by decide +kernel
theorem s_Str_isLatin1_18 {l0 : Option ex_V} {x : Int32} (hn : narrow .boolean (.int x) = .int x) (hq : Q (some (.inl x)) K I F) : ex_E Γ d M_Str_isLatin1 18 [l0] ([.inl x]) K I F b Q := ex_zret d_Str_isLatin1_18 rfl hn hq
theorem d_SL1_charAt_0 : decode prog_16_method_2_code 0 = .ok (.iload_n 1, 1) := by decide +kernel
theorem s_SL1_charAt_0 {l0 : Option ex_V} {x : Int32} (k : ex_E Γ d M_SL1_charAt 1 [l0, some (.inl x)] (.inl x :: st) K I F b Q) : ex_E Γ d M_SL1_charAt 0 [l0, some (.inl x)] (st) K I F b Q := ex_iload_n d_SL1_charAt_0 rfl k
theorem d_SL1_charAt_1 : decode prog_16_method_2_code 1 = .ok (.aload_n 0, 1) := by decide +kernel
theorem s_SL1_charAt_1 {l1 : Option ex_V} {r : Option Nat} (k : ex_E Γ d M_SL1_charAt 2 [some (.inr r), l1] (.inr r :: st) K I F b Q) : ex_E Γ d M_SL1_charAt 1 [some (.inr r), l1] (st) K I F b Q := ex_aload_n d_SL1_charAt_1 rfl k
theorem d_SL1_charAt_2 : decode prog_16_method_2_code 2 = .ok (.arraylength, 1) := by decide +kernel
theorem s_SL1_charAt_2 {l0 l1 : Option ex_V} {i : Nat} (hi : i < 7) (k : ex_E Γ d M_SL1_charAt 3 [l0, l1] (.inl (nI (sl_len.getD i 0)) :: st) K I F b Q) : ex_E Γ d M_SL1_charAt 2 [l0, l1] (.inr (some (Γ.2.2.2.2.1 i)) :: st) K I F b Q := ex_sblen d_SL1_charAt_2 hi k
theorem d_SL1_charAt_3 : decode prog_16_method_2_code 3 = .ok (.invokestatic 9, 3) := by decide +kernel
theorem s_SL1_charAt_3 {l0 l1 : Option ex_V} {x0 : Int32} {x1 : Int32} {b1 b2 : Nat} {Q1 : Option ex_V → ex_K → ex_I → ex_F → Prop} (h : ex_E Γ d M_Str_checkIndex 0 [some (.inl x0), some (.inl x1)] [] K I F b1 Q1) (kk : ∀ r K' I' F', Q1 r K' I' F' → ex_E Γ (d + 1) M_SL1_charAt 6 [l0, l1] (r.toList ++ st) K' I' F' b2 Q) (hbb : b1 + b2 ≤ b) (hst : st.length ≤ 8 := by first | exact Nat.le_of_ble_eq_true rfl | simp) : ex_E Γ (d + 1) M_SL1_charAt 3 [l0, l1] (.inl x1 :: .inl x0 :: st) K I F b Q := by
  exact ex_callS (Mc := M_Str_checkIndex) (n := 2) (av := [.inl x0, .inl x1]) d_SL1_charAt_3 (by decide) rfl rfl (by decide) (ex_good w_332) (List.mem_cons_of_mem _ w_330) (List.mem_cons_of_mem _ w_12) (List.mem_cons_of_mem _ w_331) ⟨by decide +kernel, by decide +kernel, by decide +kernel⟩ rfl (Nat.le_of_ble_eq_true rfl) hst h hbb kk
theorem d_SL1_charAt_6 : decode prog_16_method_2_code 6 = .ok (.aload_n 0, 1) := by decide +kernel
theorem s_SL1_charAt_6 {l1 : Option ex_V} {r : Option Nat} (k : ex_E Γ d M_SL1_charAt 7 [some (.inr r), l1] (.inr r :: st) K I F b Q) : ex_E Γ d M_SL1_charAt 6 [some (.inr r), l1] (st) K I F b Q := ex_aload_n d_SL1_charAt_6 rfl k
theorem d_SL1_charAt_7 : decode prog_16_method_2_code 7 = .ok (.iload_n 1, 1) := by decide +kernel
theorem s_SL1_charAt_7 {l0 : Option ex_V} {x : Int32} (k : ex_E Γ d M_SL1_charAt 8 [l0, some (.inl x)] (.inl x :: st) K I F b Q) : ex_E Γ d M_SL1_charAt 7 [l0, some (.inl x)] (st) K I F b Q := ex_iload_n d_SL1_charAt_7 rfl k
theorem d_SL1_charAt_8 : decode prog_16_method_2_code 8 = .ok (.baload, 1) := by decide +kernel
theorem s_SL1_charAt_8 {l0 l1 : Option ex_V} {i : Nat} {j : Int32} (hi : i < 7) (hj : vp_in j (sl_len.getD i 0)) (k : ex_E Γ d M_SL1_charAt 9 [l0, l1] (.inl ((sl_byt.getD i []).getD j.toNatClampNeg 0) :: st) K I F b Q) : ex_E Γ d M_SL1_charAt 8 [l0, l1] (.inl j :: .inr (some (Γ.2.2.2.2.1 i)) :: st) K I F b Q := ex_sbald d_SL1_charAt_8 hi hj k
theorem d_SL1_charAt_9 : decode prog_16_method_2_code 9 = .ok (.sipush 255, 3) := by decide +kernel
theorem s_SL1_charAt_9 {l0 l1 : Option ex_V} (k : ex_E Γ d M_SL1_charAt 12 [l0, l1] (.inl 255 :: st) K I F b Q) : ex_E Γ d M_SL1_charAt 9 [l0, l1] (st) K I F b Q := ex_sipush d_SL1_charAt_9 (by decide +kernel) k
theorem d_SL1_charAt_12 : decode prog_16_method_2_code 12 = .ok (.iand, 1) := by decide +kernel
theorem s_SL1_charAt_12 {l0 l1 : Option ex_V} {x y : Int32} (k : ex_E Γ d M_SL1_charAt 13 [l0, l1] (.inl (x &&& y) :: st) K I F b Q) : ex_E Γ d M_SL1_charAt 12 [l0, l1] (.inl y :: .inl x :: st) K I F b Q := ex_iand d_SL1_charAt_12 k
theorem d_SL1_charAt_13 : decode prog_16_method_2_code 13 = .ok (.i2c, 1) := by decide +kernel
theorem s_SL1_charAt_13 {l0 l1 : Option ex_V} {x : Int32} (k : ex_E Γ d M_SL1_charAt 14 [l0, l1] (.inl ((x.toUInt32 % 65536).toInt32) :: st) K I F b Q) : ex_E Γ d M_SL1_charAt 13 [l0, l1] (.inl x :: st) K I F b Q := ex_i2c d_SL1_charAt_13 rfl k
theorem d_SL1_charAt_14 : decode prog_16_method_2_code 14 = .ok (.ireturn, 1) := by decide +kernel
theorem s_SL1_charAt_14 {l0 l1 : Option ex_V} {x : Int32} (hn : narrow .char (.int x) = .int x) (hq : Q (some (.inl x)) K I F) : ex_E Γ d M_SL1_charAt 14 [l0, l1] ([.inl x]) K I F b Q := ex_zret d_SL1_charAt_14 rfl hn hq
theorem d_Str_checkIndex_0 : decode prog_15_method_155_code 0 = .ok (.iload_n 0, 1) := by decide +kernel
theorem s_Str_checkIndex_0 {l1 : Option ex_V} {x : Int32} (k : ex_E Γ d M_Str_checkIndex 1 [some (.inl x), l1] (.inl x :: st) K I F b Q) : ex_E Γ d M_Str_checkIndex 0 [some (.inl x), l1] (st) K I F b Q := ex_iload_n d_Str_checkIndex_0 rfl k
theorem d_Str_checkIndex_1 : decode prog_15_method_155_code 1 = .ok (.iload_n 1, 1) := by decide +kernel
theorem s_Str_checkIndex_1 {l0 : Option ex_V} {x : Int32} (k : ex_E Γ d M_Str_checkIndex 2 [l0, some (.inl x)] (.inl x :: st) K I F b Q) : ex_E Γ d M_Str_checkIndex 1 [l0, some (.inl x)] (st) K I F b Q := ex_iload_n d_Str_checkIndex_1 rfl k
theorem d_Str_checkIndex_2 : decode prog_15_method_155_code 2 = .ok (.getstatic 1053, 3) := by decide +kernel
theorem s_Str_checkIndex_2 {l0 l1 : Option ex_V} (k : ∀ r, ex_E Γ d M_Str_checkIndex 5 [l0, l1] (.inr r :: st) K I F b Q) : ex_E Γ d M_Str_checkIndex 2 [l0, l1] (st) K I F b Q := ex_statq d_Str_checkIndex_2 (List.mem_cons_of_mem _ w_333) k
theorem d_Str_checkIndex_5 : decode prog_15_method_155_code 5 = .ok (.invokestatic 1059, 3) := by decide +kernel
theorem s_Str_checkIndex_5 {l0 l1 : Option ex_V} {x0 : Int32} {x1 : Int32} {x2 : Option Nat} {b1 b2 : Nat} {Q1 : Option ex_V → ex_K → ex_I → ex_F → Prop} (h : ex_E Γ d M_Pre_checkIndex 0 [some (.inl x0), some (.inl x1), some (.inr x2)] [] K I F b1 Q1) (kk : ∀ r K' I' F', Q1 r K' I' F' → ex_E Γ (d + 1) M_Str_checkIndex 8 [l0, l1] (r.toList ++ st) K' I' F' b2 Q) (hbb : b1 + b2 ≤ b) (hst : st.length ≤ 8 := by first | exact Nat.le_of_ble_eq_true rfl | simp) : ex_E Γ (d + 1) M_Str_checkIndex 5 [l0, l1] (.inr x2 :: .inl x1 :: .inl x0 :: st) K I F b Q := by
  exact ex_callS (Mc := M_Pre_checkIndex) (n := 3) (av := [.inl x0, .inl x1, .inr x2]) d_Str_checkIndex_5 (by decide) rfl rfl (by decide) (ex_good w_337) (List.mem_cons_of_mem _ w_335) (List.mem_cons_of_mem _ w_14) (List.mem_cons_of_mem _ w_336) ⟨by decide +kernel, by decide +kernel, by decide +kernel⟩ rfl (Nat.le_of_ble_eq_true rfl) hst h hbb kk
theorem d_Str_checkIndex_8 : decode prog_15_method_155_code 8 = .ok (.pop, 1) := by decide +kernel
theorem s_Str_checkIndex_8 {l0 l1 : Option ex_V} {u : ex_V} (k : ex_E Γ d M_Str_checkIndex 9 [l0, l1] (st) K I F b Q) : ex_E Γ d M_Str_checkIndex 8 [l0, l1] (u :: st) K I F b Q := ex_pop d_Str_checkIndex_8 k
theorem d_Str_checkIndex_9 : decode prog_15_method_155_code 9 = .ok (.return_, 1) := by decide +kernel
theorem s_Str_checkIndex_9 {l0 l1 : Option ex_V} (hq : Q none K I F) : ex_E Γ d M_Str_checkIndex 9 [l0, l1] ([]) K I F b Q := ex_vret d_Str_checkIndex_9 rfl hq
theorem d_Pre_checkIndex_0 : decode prog_19_method_11_code 0 = .ok (.iload_n 0, 1) := by decide +kernel
theorem s_Pre_checkIndex_0 {l1 l2 : Option ex_V} {x : Int32} (k : ex_E Γ d M_Pre_checkIndex 1 [some (.inl x), l1, l2] (.inl x :: st) K I F b Q) : ex_E Γ d M_Pre_checkIndex 0 [some (.inl x), l1, l2] (st) K I F b Q := ex_iload_n d_Pre_checkIndex_0 rfl k
theorem d_Pre_checkIndex_1 : decode prog_19_method_11_code 1 = .ok (.ifCond .lt 8, 3) := by decide +kernel
theorem s_Pre_checkIndex_1 {l0 l1 l2 : Option ex_V} {x : Int32} (kt : x < 0 → ex_E Γ d M_Pre_checkIndex 9 [l0, l1, l2] (st) K I F b Q) (kf : ¬ x < 0 → ex_E Γ d M_Pre_checkIndex 4 [l0, l1, l2] (st) K I F b Q) : ex_E Γ d M_Pre_checkIndex 1 [l0, l1, l2] (.inl x :: st) K I F b Q := ex_if_lt d_Pre_checkIndex_1 (by decide) kt kf
theorem d_Pre_checkIndex_4 : decode prog_19_method_11_code 4 = .ok (.iload_n 0, 1) := by decide +kernel
theorem s_Pre_checkIndex_4 {l1 l2 : Option ex_V} {x : Int32} (k : ex_E Γ d M_Pre_checkIndex 5 [some (.inl x), l1, l2] (.inl x :: st) K I F b Q) : ex_E Γ d M_Pre_checkIndex 4 [some (.inl x), l1, l2] (st) K I F b Q := ex_iload_n d_Pre_checkIndex_4 rfl k
theorem d_Pre_checkIndex_5 : decode prog_19_method_11_code 5 = .ok (.iload_n 1, 1) := by decide +kernel
theorem s_Pre_checkIndex_5 {l0 l2 : Option ex_V} {x : Int32} (k : ex_E Γ d M_Pre_checkIndex 6 [l0, some (.inl x), l2] (.inl x :: st) K I F b Q) : ex_E Γ d M_Pre_checkIndex 5 [l0, some (.inl x), l2] (st) K I F b Q := ex_iload_n d_Pre_checkIndex_5 rfl k
theorem d_Pre_checkIndex_6 : decode prog_19_method_11_code 6 = .ok (.if_icmp .lt 10, 3) := by decide +kernel
theorem s_Pre_checkIndex_6 {l0 l1 l2 : Option ex_V} {x y : Int32} (kt : x < y → ex_E Γ d M_Pre_checkIndex 16 [l0, l1, l2] (st) K I F b Q) (kf : ¬ x < y → ex_E Γ d M_Pre_checkIndex 9 [l0, l1, l2] (st) K I F b Q) : ex_E Γ d M_Pre_checkIndex 6 [l0, l1, l2] (.inl y :: .inl x :: st) K I F b Q := ex_icmp_lt d_Pre_checkIndex_6 (by decide) kt kf
theorem d_Pre_checkIndex_9 : decode prog_19_method_11_code 9 = .ok (.aload_n 2, 1) := by decide +kernel
theorem s_Pre_checkIndex_9 {l0 l1 : Option ex_V} {r : Option Nat} (k : ex_E Γ d M_Pre_checkIndex 10 [l0, l1, some (.inr r)] (.inr r :: st) K I F b Q) : ex_E Γ d M_Pre_checkIndex 9 [l0, l1, some (.inr r)] (st) K I F b Q := ex_aload_n d_Pre_checkIndex_9 rfl k
theorem d_Pre_checkIndex_10 : decode prog_19_method_11_code 10 = .ok (.iload_n 0, 1) := by decide +kernel
theorem s_Pre_checkIndex_10 {l1 l2 : Option ex_V} {x : Int32} (k : ex_E Γ d M_Pre_checkIndex 11 [some (.inl x), l1, l2] (.inl x :: st) K I F b Q) : ex_E Γ d M_Pre_checkIndex 10 [some (.inl x), l1, l2] (st) K I F b Q := ex_iload_n d_Pre_checkIndex_10 rfl k
theorem d_Pre_checkIndex_11 : decode prog_19_method_11_code 11 = .ok (.iload_n 1, 1) := by decide +kernel
theorem s_Pre_checkIndex_11 {l0 l2 : Option ex_V} {x : Int32} (k : ex_E Γ d M_Pre_checkIndex 12 [l0, some (.inl x), l2] (.inl x :: st) K I F b Q) : ex_E Γ d M_Pre_checkIndex 11 [l0, some (.inl x), l2] (st) K I F b Q := ex_iload_n d_Pre_checkIndex_11 rfl k
theorem d_Pre_checkIndex_12 : decode prog_19_method_11_code 12 = .ok (.invokestatic 95, 3) := by decide +kernel
theorem d_Pre_checkIndex_15 : decode prog_19_method_11_code 15 = .ok (.athrow, 1) := by decide +kernel
theorem d_Pre_checkIndex_16 : decode prog_19_method_11_code 16 = .ok (.iload_n 0, 1) := by decide +kernel
theorem s_Pre_checkIndex_16 {l1 l2 : Option ex_V} {x : Int32} (k : ex_E Γ d M_Pre_checkIndex 17 [some (.inl x), l1, l2] (.inl x :: st) K I F b Q) : ex_E Γ d M_Pre_checkIndex 16 [some (.inl x), l1, l2] (st) K I F b Q := ex_iload_n d_Pre_checkIndex_16 rfl k
theorem d_Pre_checkIndex_17 : decode prog_19_method_11_code 17 = .ok (.ireturn, 1) := by decide +kernel
theorem s_Pre_checkIndex_17 {l0 l1 l2 : Option ex_V} {x : Int32} (hq : Q (some (.inl x)) K I F) : ex_E Γ d M_Pre_checkIndex 17 [l0, l1, l2] ([.inl x]) K I F b Q := ex_iret d_Pre_checkIndex_17 rfl hq
end
