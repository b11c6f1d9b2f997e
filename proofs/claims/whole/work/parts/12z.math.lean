section EXF
variable {Γ : ex_G} {d : Nat} {M Mc : ex_M} {pc : Nat} {lv : List (Option ex_V)} {st : List ex_V} {K : ex_K} {I : ex_I} {F : ex_F} {b b1 b2 : Nat} {Q Q1 : Option ex_V → ex_K → ex_I → ex_F → Prop}
theorem ex_metF {ws' : List Cond} {av : List ex_V} (hy : plainFor Mc.2.1 = true) (ho : Mc.2.1.cls = Mc.1) (hw : Mc.2.2.2.2.2 = Cond.code Mc.2.1 Mc.2.2.1 Mc.2.2.2.1 Mc.2.2.2.2.1 :: ws') (hn : av.length ≤ Mc.2.2.2.1) (h : ex_E Γ d Mc 0 (ex_en Mc.2.2.2.1 av) [] K I F b Q) (sz : Nat) :
    Met Γ.1 Mc.2.1 Mc.2.2.2.2.2 (ex_rm d b) (ex_Pc Γ av K I F sz) (ex_Q Γ Q (ex_A K sz)) b (400 * b) (ex_A K sz) := by
  refine va_MetF (cc := Mc.2.2.1) (maxL := Mc.2.2.2.1) (ret := Mc.2.2.2.2.1) hy hw ?_
  intro p e s m args below meth c s₁ B hml hv
  obtain ⟨rfl, hsz, hP, hK, hX⟩ := hv
  subst hsz
  obtain ⟨ls, e1, hL⟩ := ex_L_entry m Mc.2.2.2.1 av hn
  rw [e1]
  have hown : s.vm.findClass Mc.2.1.cls = some m.cls := findClass_of_methodNamed B.named
  rw [ho] at hown
  exact h p e _ s m _ below meth c (ex_A K s.heap.size) s.heap [] 0 0 b (400 * b) ls ⟨B.exec, B.bytes, hml, hown, atoms_spec B.pre, B.returns, B.notSynchronized, (name_of_methodNamed B.named B.method).1, Nat.le_refl _, Nat.le_refl _, hK, fun q h => Or.inr h, hX⟩ hL hP (fun a h => Or.inl h) va_S.rf (by omega) (by omega) (Nat.le_refl _) (Nat.le_refl _)
theorem ex_callSF {ws' : List Cond} {n index : Nat} {av : List ex_V} (hdg : decode M.2.2.1 pc = .ok (.invokestatic index, 3)) (hy : plainFor Mc.2.1 = true) (ho : Mc.2.1.cls = Mc.1) (hw : Mc.2.2.2.2.2 = Cond.code Mc.2.1 Mc.2.2.1 Mc.2.2.2.1 Mc.2.2.2.2.1 :: ws') (hml : Mc.2.2.2.1 ≤ 19) (hG : GoodIn M.2.2.2.2.2 Mc.2.2.2.2.2) (hlk : Cond.methodLink M.1 index Mc.2.1 ∈ M.2.2.2.2.2) (hini : Cond.initialized Mc.2.1.cls ∈ M.2.2.2.2.2) (hs : Cond.static Mc.2.1 ∈ M.2.2.2.2.2) (hd : Mc.2.1.cls ≠ "java/lang/invoke/MethodHandle" ∧ Mc.2.1.cls ≠ "java/lang/invoke/VarHandle" ∧ (parseMethodDescriptor Mc.2.1.desc).map (fun d => d.parameters.length) = some n) (hn : av.length = n) (hn2 : av.length ≤ Mc.2.2.2.1) (hst : st.length ≤ 8) (h : ex_E Γ d Mc 0 (ex_en Mc.2.2.2.1 (av)) [] K I F b1 Q1) (hbb : b1 + b2 ≤ b) (kk : ∀ r K' I' F', Q1 r K' I' F' → ex_E Γ (d + 1) M (pc + 3) lv (r.toList ++ st) K' I' F' b2 Q) : ex_E Γ (d + 1) M pc lv (av.reverse ++ st) K I F b Q := by
  intro p e R s m args below meth c A H locs cells slots mc ms ls hC hL hP hA hS h1 h2 h3 h4
  have hC0 := hC
  obtain ⟨c1, c2, c3, c4, c5, c6, c7, c8, c9, c10, c11, c12, c13⟩ := hC
  have hM := ex_metF hy ho hw (by simpa using hn2) h H.size
  refine ex_after (va_runS (As := av.map ex_v) (rest := st.map ex_v) ⟨c1, c2, c3, c4, c5⟩ hM ⟨callB_of n c5 hG hw rfl rfl (c5 _ hini) (c5 _ hlk) hd ⟨by show d + 1 ≤ R.frames; exact c9, by show 8 + (Mc.2.2.2.1 + 11) + 38 * d ≤ R.locals; omega⟩, c5 _ hs⟩ ⟨ex_blind, ex_start hC0 hP hA hS⟩ rfl (by simpa using hn) hL.1 (by show ((av.reverse ++ st).map ex_v) = (av.map ex_v).reverse ++ st.map ex_v; simp) (by have := ex_cats st; show 2 * (F0 m pc ls _).monitorRoom + _ ≤ 8; exact lv_room (by rw [this]; exact hst)) hdg ⟨by omega, by omega⟩) hC0 hL hA hS (by omega) (by omega) h3 h4 kk
end EXF
