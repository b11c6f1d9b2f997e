section EXS
variable {Γ : ex_G} {d : Nat} {M Mc : ex_M} {pc : Nat} {lv : List (Option ex_V)} {st : List ex_V} {K : ex_K} {I : ex_I} {F : ex_F} {b b1 b2 : Nat} {Q Q1 : Option ex_V → ex_K → ex_I → ex_F → Prop}
theorem ex_ishr {x y : Int32} (hdg : decode M.2.2.1 pc = .ok (.ishr, 1)) (k : ex_E Γ d M (pc + 1) lv (.inl (x >>> (y &&& 31)) :: st) K I F b Q) : ex_E Γ d M pc lv (.inl y :: .inl x :: st) K I F b Q :=
  ex_step k (fun p e R s m args below meth c H locs cells slots Qm ls hx hb hL w => lv_ishr hx hb hdg w)
theorem ex_sval {i index : Nat} (hdg : decode M.2.2.1 pc = .ok (.getfield index, 3)) (hi : i < 7) (hlk : Cond.fieldLink M.1 index "java/lang/String" "value" "[B" ∈ M.2.2.2.2.2) (kk : ex_E Γ d M (pc + 3) lv (.inr (some (Γ.2.2.2.2.1 i)) :: st) K I F b Q) : ex_E Γ d M pc lv (.inr (some (Γ.2.2.2.1 i)) :: st) K I F b Q := by
  intro p e R s m args below meth c A H locs cells slots mc ms ls hC hL hP hA hS h1 h2 h3 h4
  have hC0 := hC
  obtain ⟨c1, c2, c3, c4, c5, c6, c7, c8, c9, c10, c11, c12, c13⟩ := hC
  obtain ⟨x1, x2, x3, x4, x5, x6, x7⟩ := c13.2.2.2
  exact vk_getf c1 c2 (x4.1 i hi).2.2.1 hS c4 (c5 _ hlk) (fun x hx => hx) hdg (kk p e R s m args below meth c A H locs cells slots mc ms ls hC0 hL hP hA hS h1 h2 h3 h4)
theorem ex_scod {i index : Nat} (hdg : decode M.2.2.1 pc = .ok (.getfield index, 3)) (hi : i < 7) (hlk : Cond.fieldLink M.1 index "java/lang/String" "coder" "B" ∈ M.2.2.2.2.2) (kk : ex_E Γ d M (pc + 3) lv (.inl 0 :: st) K I F b Q) : ex_E Γ d M pc lv (.inr (some (Γ.2.2.2.1 i)) :: st) K I F b Q := by
  intro p e R s m args below meth c A H locs cells slots mc ms ls hC hL hP hA hS h1 h2 h3 h4
  have hC0 := hC
  obtain ⟨c1, c2, c3, c4, c5, c6, c7, c8, c9, c10, c11, c12, c13⟩ := hC
  obtain ⟨x1, x2, x3, x4, x5, x6, x7⟩ := c13.2.2.2
  exact vk_getf c1 c2 (x4.1 i hi).2.1 hS c4 (c5 _ hlk) (fun x hx => hx) hdg (kk p e R s m args below meth c A H locs cells slots mc ms ls hC0 hL hP hA hS h1 h2 h3 h4)
theorem ex_stat {index : Nat} (hdg : decode M.2.2.1 pc = .ok (.getstatic index, 3)) (hlk : Cond.fieldLink M.1 index "java/lang/String" "COMPACT_STRINGS" "Z" ∈ M.2.2.2.2.2) (kk : ex_E Γ d M (pc + 3) lv (.inl 1 :: st) K I F b Q) : ex_E Γ d M pc lv st K I F b Q := by
  intro p e R s m args below meth c A H locs cells slots mc ms ls hC hL hP hA hS h1 h2 h3 h4
  have hC0 := hC
  obtain ⟨c1, c2, c3, c4, c5, c6, c7, c8, c9, c10, c11, c12, c13⟩ := hC
  obtain ⟨x1, x2, x3, x4, x5, x6, x7⟩ := c13.2.2.2
  exact va_gets c1 c2 x6 hS c4 (c5 _ hlk) (fun x hx => hx) hdg (kk p e R s m args below meth c A H locs cells slots mc ms ls hC0 hL hP hA hS h1 h2 h3 h4)
theorem ex_statq {index : Nat} (hdg : decode M.2.2.1 pc = .ok (.getstatic index, 3)) (hlk : Cond.fieldLink M.1 index "jdk/internal/util/Preconditions" "SIOOBE_FORMATTER" "Ljava/util/function/BiFunction;" ∈ M.2.2.2.2.2) (kk : ∀ r, ex_E Γ d M (pc + 3) lv (.inr r :: st) K I F b Q) : ex_E Γ d M pc lv st K I F b Q := by
  intro p e R s m args below meth c A H locs cells slots mc ms ls hC hL hP hA hS h1 h2 h3 h4
  have hC0 := hC
  obtain ⟨c1, c2, c3, c4, c5, c6, c7, c8, c9, c10, c11, c12, c13⟩ := hC
  obtain ⟨x1, x2, x3, x4, x5, x6, x7⟩ := c13.2.2.2
  rcases x7 with z | ⟨t, z⟩
  · exact va_gets c1 c2 z hS c4 (c5 _ hlk) (fun x hx => hx) hdg (kk none p e R s m args below meth c A H locs cells slots mc ms ls hC0 hL hP hA hS h1 h2 h3 h4)
  · exact va_gets c1 c2 z hS c4 (c5 _ hlk) (fun x hx => hx) hdg (kk (some t) p e R s m args below meth c A H locs cells slots mc ms ls hC0 hL hP hA hS h1 h2 h3 h4)
theorem ex_sblen {i : Nat} (hdg : decode M.2.2.1 pc = .ok (.arraylength, 1)) (hi : i < 7) (kk : ex_E Γ d M (pc + 1) lv (.inl (nI (sl_len.getD i 0)) :: st) K I F b Q) : ex_E Γ d M pc lv (.inr (some (Γ.2.2.2.2.1 i)) :: st) K I F b Q := by
  intro p e R s m args below meth c A H locs cells slots mc ms ls hC hL hP hA hS h1 h2 h3 h4
  have hC0 := hC
  obtain ⟨c1, c2, c3, c4, c5, c6, c7, c8, c9, c10, c11, c12, c13⟩ := hC
  obtain ⟨x1, x2, x3, x4, x5, x6, x7⟩ := c13.2.2.2
  obtain ⟨cell, g1, g2, g3, g4, g5, g6, g7⟩ := (x4.1 i hi).2.2.2.kept hS.2.1
  exact W.alen (n := nI (sl_len.getD i 0)) c1 c2 g1 g2 g5 rfl rfl hdg (kk p e R s m args below meth c A H locs cells slots mc ms ls hC0 hL hP hA hS h1 h2 h3 h4)
theorem ex_sbald {i : Nat} {j : Int32} (hdg : decode M.2.2.1 pc = .ok (.baload, 1)) (hi : i < 7) (hj : vp_in j (sl_len.getD i 0)) (kk : ex_E Γ d M (pc + 1) lv (.inl ((sl_byt.getD i []).getD j.toNatClampNeg 0) :: st) K I F b Q) : ex_E Γ d M pc lv (.inl j :: .inr (some (Γ.2.2.2.2.1 i)) :: st) K I F b Q := by
  intro p e R s m args below meth c A H locs cells slots mc ms ls hC hL hP hA hS h1 h2 h3 h4
  have hC0 := hC
  obtain ⟨c1, c2, c3, c4, c5, c6, c7, c8, c9, c10, c11, c12, c13⟩ := hC
  obtain ⟨x1, x2, x3, x4, x5, x6, x7⟩ := c13.2.2.2
  obtain ⟨cell, g1, g2, g3, g4, g5, g6, g7⟩ := (x4.1 i hi).2.2.2.kept hS.2.1
  have hlt : j.toNatClampNeg < sl_len.getD i 0 := Nat.not_le.mp fun q => hj (Or.inr q)
  exact W.bald (v := .int ((sl_byt.getD i []).getD j.toNatClampNeg 0)) c1 c2 g1 g2 g3 (fun z => by
    rcases z with z | z
    · exact hj (Or.inl z)
    · omega) (g6 _ hlt) rfl rfl hdg (kk p e R s m args below meth c A H locs cells slots mc ms ls hC0 hL hP hA hS h1 h2 h3 h4)
theorem ex_ldcS {i index : Nat} (hdg : decode M.2.2.1 pc = .ok (.ldc index, 2)) (ho : M.1 = "FrontCache$Control") (hi : i < 7) (hx : sl_ix.getD i 0 = index) (kk : ex_E Γ d M (pc + 2) lv (.inr (some (Γ.2.2.2.1 i)) :: st) K I F b Q) : ex_E Γ d M pc lv st K I F b Q := by
  intro p e R s m args below meth c A H locs cells slots mc ms ls hC hL hP hA hS h1 h2 h3 h4
  have hC0 := hC
  obtain ⟨c1, c2, c3, c4, c5, c6, c7, c8, c9, c10, c11, c12, c13⟩ := hC
  obtain ⟨x1, x2, x3, x4, x5, x6, x7⟩ := c13.2.2.2
  subst hx
  rw [ho] at c4
  exact va_ldcS c1 c2 c4 (x5 i hi) hdg (kk p e R s m args below meth c A H locs cells slots mc ms ls hC0 hL hP hA hS h1 h2 h3 h4)
theorem ex_sld {i : Int32} (hdg : decode M.2.2.1 pc = .ok (.iaload, 1)) (hi : vp_in i Γ.2.2.2.2.2.2.1) (kk : ex_E Γ d M (pc + 1) lv (.inl (Γ.2.2.2.2.2.2.2 i.toNatClampNeg) :: st) K I F b Q) : ex_E Γ d M pc lv (.inl i :: .inr (some Γ.2.2.2.2.2.1) :: st) K I F b Q := by
  intro p e R s m args below meth c A H locs cells slots mc ms ls hC hL hP hA hS h1 h2 h3 h4
  have hC0 := hC
  obtain ⟨c1, c2, c3, c4, c5, c6, c7, c8, c9, c10, c11, c12, c13⟩ := hC
  obtain ⟨x1, x2, x3, x4, x5, x6, x7⟩ := c13.2.2.2
  exact va_sld c1 c2 x1 x2 x3 hS hi hdg (kk p e R s m args below meth c A H locs cells slots mc ms ls hC0 hL hP hA hS h1 h2 h3 h4)
theorem ex_slen (hdg : decode M.2.2.1 pc = .ok (.arraylength, 1)) (kk : ex_E Γ d M (pc + 1) lv (.inl (Int32.ofNat Γ.2.2.2.2.2.2.1) :: st) K I F b Q) : ex_E Γ d M pc lv (.inr (some Γ.2.2.2.2.2.1) :: st) K I F b Q := by
  intro p e R s m args below meth c A H locs cells slots mc ms ls hC hL hP hA hS h1 h2 h3 h4
  have hC0 := hC
  obtain ⟨c1, c2, c3, c4, c5, c6, c7, c8, c9, c10, c11, c12, c13⟩ := hC
  obtain ⟨x1, x2, x3, x4, x5, x6, x7⟩ := c13.2.2.2
  exact va_slen c1 c2 x1 x2 x3 hS hdg (kk p e R s m args below meth c A H locs cells slots mc ms ls hC0 hL hP hA hS h1 h2 h3 h4)
theorem ex_callVS {ws' : List Cond} {i n index : Nat} {av : List ex_V} (hdg : decode M.2.2.1 pc = .ok (.invokevirtual index, 3)) (hy : plainName Mc.2.1.cls = true) (ho : Mc.2.1.cls = Mc.1) (hw : Mc.2.2.2.2.2 = Cond.code Mc.2.1 Mc.2.2.1 Mc.2.2.2.1 Mc.2.2.2.2.1 :: ws') (hml : Mc.2.2.2.1 ≤ 19) (hi : i < 7) (hG : GoodIn M.2.2.2.2.2 Mc.2.2.2.2.2) (hlk : Cond.methodLink M.1 index Mc.2.1 ∈ M.2.2.2.2.2) (hini : Cond.initialized Mc.2.1.cls ∈ M.2.2.2.2.2) (him : Cond.instanceMethod Mc.2.1 ∈ M.2.2.2.2.2) (hse : Cond.selects "java/lang/String" Mc.2.1 Mc.2.1 ∈ M.2.2.2.2.2) (hd : Mc.2.1.cls ≠ "java/lang/invoke/MethodHandle" ∧ Mc.2.1.cls ≠ "java/lang/invoke/VarHandle" ∧ (parseMethodDescriptor Mc.2.1.desc).map (fun d => d.parameters.length) = some n) (hn : av.length = n) (hn2 : av.length + 1 ≤ Mc.2.2.2.1) (hst : st.length ≤ 8) (h : ex_E Γ d Mc 0 (ex_en Mc.2.2.2.1 (.inr (some (Γ.2.2.2.1 i)) :: av)) [] K I F b1 Q1) (hbb : b1 + b2 ≤ b) (kk : ∀ r K' I' F', Q1 r K' I' F' → ex_E Γ (d + 1) M (pc + 3) lv (r.toList ++ st) K' I' F' b2 Q) : ex_E Γ (d + 1) M pc lv (av.reverse ++ .inr (some (Γ.2.2.2.1 i)) :: st) K I F b Q := by
  intro p e R s m args below meth c A H locs cells slots mc ms ls hC hL hP hA hS h1 h2 h3 h4
  have hC0 := hC
  obtain ⟨c1, c2, c3, c4, c5, c6, c7, c8, c9, c10, c11, c12, c13⟩ := hC
  have x4 := c13.2.2.2.2.2.2.1
  have hM := ex_met hy ho hw (by simpa using hn2) h H.size
  refine ex_after (va_runV (C := "java/lang/String") (b := Γ.2.2.2.1 i) (As := av.map ex_v) (rest := st.map ex_v) ⟨c1, c2, c3, c4, c5⟩ hM ⟨callB_of n c5 hG hw rfl rfl (c5 _ hini) (c5 _ hlk) hd ⟨by show d + 1 ≤ R.frames; exact c9, by show 8 + (Mc.2.2.2.1 + 11) + 38 * d ≤ R.locals; omega⟩, c5 _ him, c5 _ hse⟩ ⟨ex_blind, vk_recv x4 hi hS, ex_start hC0 hP hA hS⟩ rfl (by simpa using hn) hL.1 (by show ((av.reverse ++ .inr (some (Γ.2.2.2.1 i)) :: st).map ex_v) = (av.map ex_v).reverse ++ .ref (Γ.2.2.2.1 i) :: st.map ex_v; simp [ex_v, va_rf]) (by have := ex_cats st; show 2 * (F0 m pc ls _).monitorRoom + _ ≤ 8; exact lv_room (by rw [this]; exact hst)) hdg ⟨by omega, by omega⟩) hC0 hL hA hS (by omega) (by omega) h3 h4 kk
end EXS
