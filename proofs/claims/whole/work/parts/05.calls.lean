def ex_rm (d b : Nat) : Room := { frames := d, cells := b, slots := 400 * b, locals := 38 * d }
def ex_en (n : Nat) (av : List ex_V) : List (Option ex_V) := av.map some ++ List.replicate (n - av.length) none
def ex_Pc (Γ : ex_G) (av : List ex_V) (K : ex_K) (I : ex_I) (F : ex_F) (sz : Nat) : Array Value → State → Prop := fun v U => v = (av.map ex_v).toArray ∧ U.heap.size = sz ∧ ex_P Γ K I F U.heap ∧ va_K Γ.2.1 vwCl (ex_tys Γ) U ∧ ex_X Γ (ex_A K sz) U
theorem ex_L_entry (m : MethodId) (n : Nat) (av : List ex_V) (hn : av.length ≤ n) : ∃ ls, entryFrame m (av.map ex_v).toArray n = F0 m 0 ls [] ∧ ex_L ls n (ex_en n av) := by
  have hcat : ∀ v ∈ av.map ex_v, v.category = 1 := by
    intro v hv
    obtain ⟨w, -, rfl⟩ := List.mem_map.mp hv
    exact ex_cat w
  refine ⟨_, entry_eq m (av.map ex_v) hcat n, ?_, ⟨fun i v hi hv => ?_, fun i hi => ?_⟩, fun q hq => ?_⟩
  · simp; omega
  · exfalso
    rw [List.getElem?_toArray] at hi
    have hm := List.mem_of_getElem? hi
    rcases List.mem_append.mp hm with h | h
    · obtain ⟨w, hw, he⟩ := List.mem_map.mp h
      cases he
      have := hcat v hw
      omega
    · cases (List.mem_replicate.mp h).2
  · exfalso
    rw [List.getElem?_toArray] at hi
    have hm := List.mem_of_getElem? hi
    rcases List.mem_append.mp hm with h | h
    · obtain ⟨w, hw, he⟩ := List.mem_map.mp h
      cases he
    · cases (List.mem_replicate.mp h).2
  · obtain ⟨v, h1, h2⟩ := ex_al_mem.mp hq
    unfold ex_en at h1
    rw [List.getElem?_toArray, h2]
    by_cases hl : q.1 < av.length
    · rw [List.getElem?_append_left (by simpa using hl), List.getElem?_map] at h1
      rw [List.getElem?_append_left (by simpa using hl), List.getElem?_map, List.getElem?_map]
      cases ha : av[q.1]? with
      | none => rw [ha] at h1; cases h1
      | some w =>
        rw [ha] at h1
        have : w = v := by simpa using h1
        rw [this]
        rfl
    · rw [List.getElem?_append_right (by simpa using hl)] at h1
      have := List.mem_of_getElem? h1
      cases (List.mem_replicate.mp this).2
section EXC
variable {Γ : ex_G} {d : Nat} {M Mc : ex_M} {pc : Nat} {lv : List (Option ex_V)} {st : List ex_V} {K : ex_K} {I : ex_I} {F : ex_F} {b b1 b2 : Nat} {Q Q1 : Option ex_V → ex_K → ex_I → ex_F → Prop}
theorem ex_met {ws' : List Cond} {av : List ex_V} (hy : plainName Mc.2.1.cls = true) (ho : Mc.2.1.cls = Mc.1) (hw : Mc.2.2.2.2.2 = Cond.code Mc.2.1 Mc.2.2.1 Mc.2.2.2.1 Mc.2.2.2.2.1 :: ws') (hn : av.length ≤ Mc.2.2.2.1) (h : ex_E Γ d Mc 0 (ex_en Mc.2.2.2.1 av) [] K I F b Q) (sz : Nat) :
    Met Γ.1 Mc.2.1 Mc.2.2.2.2.2 (ex_rm d b) (ex_Pc Γ av K I F sz) (ex_Q Γ Q (ex_A K sz)) b (400 * b) (ex_A K sz) := by
  refine Met.ofW (cc := Mc.2.2.1) (maxL := Mc.2.2.2.1) (ret := Mc.2.2.2.2.1) hy hw ?_
  intro p e s m args below meth c s₁ B hml hv
  obtain ⟨rfl, hsz, hP, hK, hX⟩ := hv
  subst hsz
  obtain ⟨ls, e1, hL⟩ := ex_L_entry m Mc.2.2.2.1 av hn
  rw [e1]
  have hown : s.vm.findClass Mc.2.1.cls = some m.cls := findClass_of_methodNamed B.named
  rw [ho] at hown
  exact h p e _ s m _ below meth c (ex_A K s.heap.size) s.heap [] 0 0 b (400 * b) ls ⟨B.exec, B.bytes, hml, hown, atoms_spec B.pre, B.returns, B.notSynchronized, (name_of_methodNamed B.named B.method).1, Nat.le_refl _, Nat.le_refl _, hK, fun q h => Or.inr h, hX⟩ hL hP (fun a h => Or.inl h) va_S.rf (by omega) (by omega) (Nat.le_refl _) (Nat.le_refl _)
theorem ex_blind {av : List ex_V} {sz : Nat} : FrameBlind (ex_Pc Γ av K I F sz) := by
  intro a U g mk q
  obtain ⟨q0, q1, qP, qK, qX⟩ := q
  exact ⟨q0, q1, qP, va_K.moved (u := U) (U := U.calling g mk a) (Vm.Alike.refl U.vm) qK, ex_X_same (u := U) (U := U.calling g mk a) rfl rfl qX⟩
theorem ex_start {p : Program} {R : Room} {s : State} {m : MethodId} {args : Array Value} {meth : Method} {c : Code} {A : Nat → Prop} {H : Heap} {locs : List Loc} {av : List ex_V} (hC : ex_C Γ d M p R s m args meth c A) (hP : ex_P Γ K I F H) (hA : ∀ a, (K a).1 ≠ 0 → A a) (hS : va_S A s.heap H locs) : ∀ U : State, U.heap = H → s.WarmedH U.vm → ex_Pc Γ av K I F H.size (av.map ex_v).toArray U := by
  intro U hU hW
  obtain ⟨c1, c2, c3, c4, c5, c6, c7, c8, c9, c10, c11, c12, c13⟩ := hC
  refine ⟨rfl, by rw [hU], by rw [hU]; exact hP, va_K.moved hW.alike c11, ex_X_move hW hU hS (fun q hq => ?_) c13⟩
  rcases hq with h | h
  · exact hA q h
  · exact c12 q (Nat.le_trans hS.1 h)
theorem ex_after {p : Program} {e : Env} {R : Room} {s : State} {m : MethodId} {args : Array Value} {below : List Frame} {meth : Method} {c : Code} {A : Nat → Prop} {H : Heap} {locs : List Loc} {cells slots mc ms : Nat} {ls : Array Slot} {st0 : List Value} {a : Array Value}
    (hr : va_Run p Γ.1 e R s m args below meth c H locs cells slots b1 (400 * b1) (F0 m pc ls st0) (st.map ex_v) (ex_Q Γ Q1 (ex_A K H.size) a) (ex_A K H.size))
    (hC : ex_C Γ d M p R s m args meth c A) (hL : ex_L ls M.2.2.2.1 lv) (hA : ∀ a, (K a).1 ≠ 0 → A a) (hS : va_S A s.heap H locs) (h1 : cells + (b1 + b2) ≤ mc) (h2 : slots + 400 * (b1 + b2) ≤ ms) (h3 : mc ≤ R.cells) (h4 : ms ≤ R.slots)
    (kk : ∀ r K' I' F', Q1 r K' I' F' → ex_E Γ d M (pc + 3) lv (r.toList ++ st) K' I' F' b2 Q) : W p Γ.1 e R s m args below meth c H locs cells slots (MQ below (ex_Q Γ Q A) args s mc ms A) (F0 m pc ls st0) := by
  have hC0 := hC
  obtain ⟨c1, c2, c3, c4, c5, c6, c7, c8, c9, c10, c11, c12, c13⟩ := hC
  have hAA : ∀ q, ex_A K H.size q → A q := by
    intro q hq
    rcases hq with h | h
    · exact hA q h
    · exact c12 q (Nat.le_trans hS.1 h)
  intro T hT X
  obtain ⟨v, st₀, t, T', L, h0, X', hL', e1, e2, ⟨⟨r, K', I', F', hv, hq, hP', hA'⟩, hz, hk⟩, stp⟩ := hr T hT X
  have hv2 : v = r.map ex_v := Outcome.returned.inj hv
  subst hv2
  rw [h0] at hz hk
  obtain ⟨t2, a1, b1'⟩ := kk r K' I' F' hq p e R s m args below meth c A T'.heap (locs ++ L) (cells + b1) (slots + 400 * b1) mc ms ls hC0 hL (by rw [e1]; exact hP') (fun a h => hAA a (hA' a h))
    ⟨Nat.le_trans hS.1 (by rw [e1]; exact hz), fun q g1 g2 => by rw [e1, hk q (Nat.lt_of_lt_of_le g1 hS.1) (fun z => g2 (hAA q z))]; exact hS.2.1 q g1 g2, fun q hq => by
      rcases List.mem_append.mp hq with h | h
      · exact hS.2.2 q h
      · exact hAA _ (hL' q h)⟩ (by omega) (by omega) h3 h4 T' rfl X'
  have es : (r.map ex_v).toList ++ st.map ex_v = (r.toList ++ st).map ex_v := by cases r <;> rfl
  refine ⟨t2, stp t2 ?_, b1'⟩
  show Steps p.tables e below (T'.setTop (F0 m (pc + 3) ls ((r.map ex_v).toList ++ st.map ex_v))) t2
  rw [es]
  exact a1
theorem ex_recv {p : Program} {R : Room} {s : State} {m : MethodId} {args : Array Value} {meth : Method} {c : Code} {A : Nat → Prop} {H : Heap} {C : String} {T : u_T} {N ci a : Nat} (hC : ex_C Γ d M p R s m args meth c A) (hP : ex_P Γ K I F H) (hc : vwCl[ci]? = some (C, T, N)) (hci : ci < 20) (ha : (K a).1 = ci + 1) : ∃ cell : Cell, H[a]? = some cell ∧ cell.vm.isStatics = false ∧ s.vm.findClass C = some cell.cls := by
  obtain ⟨c1, c2, c3, c4, c5, c6, c7, c8, c9, c10, c11, c12, c13⟩ := hC
  have hat := hP a (by omega)
  rw [ex_ent_o ha hci] at hat
  exact va_recv (q := (C, T, N)) c11 (ex_one hat) hc (q0 := 0) rfl
theorem ex_callV {ws' : List Cond} {C : String} {T : u_T} {N ci n index a : Nat} {av : List ex_V} (hdg : decode M.2.2.1 pc = .ok (.invokevirtual index, 3)) (hy : plainName Mc.2.1.cls = true) (ho : Mc.2.1.cls = Mc.1) (hw : Mc.2.2.2.2.2 = Cond.code Mc.2.1 Mc.2.2.1 Mc.2.2.2.1 Mc.2.2.2.2.1 :: ws') (hml : Mc.2.2.2.1 ≤ 19) (hc : vwCl[ci]? = some (C, T, N)) (hci : ci < 20) (hG : GoodIn M.2.2.2.2.2 Mc.2.2.2.2.2) (hlk : Cond.methodLink M.1 index Mc.2.1 ∈ M.2.2.2.2.2) (hini : Cond.initialized Mc.2.1.cls ∈ M.2.2.2.2.2) (him : Cond.instanceMethod Mc.2.1 ∈ M.2.2.2.2.2) (hse : Cond.selects C Mc.2.1 Mc.2.1 ∈ M.2.2.2.2.2) (hd : Mc.2.1.cls ≠ "java/lang/invoke/MethodHandle" ∧ Mc.2.1.cls ≠ "java/lang/invoke/VarHandle" ∧ (parseMethodDescriptor Mc.2.1.desc).map (fun d => d.parameters.length) = some n) (hn : av.length = n) (hn2 : av.length + 1 ≤ Mc.2.2.2.1) (hst : st.length ≤ 8) (ha : (K a).1 = ci + 1) (h : ex_E Γ d Mc 0 (ex_en Mc.2.2.2.1 (.inr (some a) :: av)) [] K I F b1 Q1) (hbb : b1 + b2 ≤ b) (kk : ∀ r K' I' F', Q1 r K' I' F' → ex_E Γ (d + 1) M (pc + 3) lv (r.toList ++ st) K' I' F' b2 Q) : ex_E Γ (d + 1) M pc lv (av.reverse ++ .inr (some a) :: st) K I F b Q := by
  intro p e R s m args below meth c A H locs cells slots mc ms ls hC hL hP hA hS h1 h2 h3 h4
  have hC0 := hC
  obtain ⟨c1, c2, c3, c4, c5, c6, c7, c8, c9, c10, c11, c12, c13⟩ := hC
  have hM := ex_met hy ho hw (by simpa using hn2) h H.size
  refine ex_after (va_runV (C := C) (b := a) (As := av.map ex_v) (rest := st.map ex_v) ⟨c1, c2, c3, c4, c5⟩ hM ⟨callB_of n c5 hG hw rfl rfl (c5 _ hini) (c5 _ hlk) hd ⟨by show d + 1 ≤ R.frames; exact c9, by show 8 + (Mc.2.2.2.1 + 11) + 38 * d ≤ R.locals; omega⟩, c5 _ him, c5 _ hse⟩ ⟨ex_blind, ex_recv hC0 hP hc hci ha, ex_start hC0 hP hA hS⟩ rfl (by simpa using hn) hL.1 (by show ((av.reverse ++ .inr (some a) :: st).map ex_v) = (av.map ex_v).reverse ++ .ref a :: st.map ex_v; simp [ex_v, va_rf]) (by have := ex_cats st; show 2 * (F0 m pc ls _).monitorRoom + _ ≤ 8; exact lv_room (by rw [this]; exact hst)) hdg ⟨by omega, by omega⟩) hC0 hL hA hS (by omega) (by omega) h3 h4 kk
theorem ex_callVN {ws' : List Cond} {C host : String} {T : u_T} {N ci n index a : Nat} {av : List ex_V} (hdg : decode M.2.2.1 pc = .ok (.invokevirtual index, 3)) (hy : plainName Mc.2.1.cls = true) (ho : Mc.2.1.cls = Mc.1) (hw : Mc.2.2.2.2.2 = Cond.code Mc.2.1 Mc.2.2.1 Mc.2.2.2.1 Mc.2.2.2.2.1 :: ws') (hml : Mc.2.2.2.1 ≤ 19) (hc : vwCl[ci]? = some (C, T, N)) (hci : ci < 20) (hG : GoodIn M.2.2.2.2.2 Mc.2.2.2.2.2) (hlk : (M.1, index, Mc.2.1, host) ∈ ex_NM) (hini : Cond.initialized Mc.2.1.cls ∈ M.2.2.2.2.2) (him : Cond.instanceMethod Mc.2.1 ∈ M.2.2.2.2.2) (hse : Cond.selects C Mc.2.1 Mc.2.1 ∈ M.2.2.2.2.2) (hd : Mc.2.1.cls ≠ "java/lang/invoke/MethodHandle" ∧ Mc.2.1.cls ≠ "java/lang/invoke/VarHandle" ∧ (parseMethodDescriptor Mc.2.1.desc).map (fun d => d.parameters.length) = some n) (hn : av.length = n) (hn2 : av.length + 1 ≤ Mc.2.2.2.1) (hst : st.length ≤ 8) (ha : (K a).1 = ci + 1) (h : ex_E Γ d Mc 0 (ex_en Mc.2.2.2.1 (.inr (some a) :: av)) [] K I F b1 Q1) (hbb : b1 + b2 ≤ b) (kk : ∀ r K' I' F', Q1 r K' I' F' → ex_E Γ (d + 1) M (pc + 3) lv (r.toList ++ st) K' I' F' b2 Q) : ex_E Γ (d + 1) M pc lv (av.reverse ++ .inr (some a) :: st) K I F b Q := by
  intro p e R s m args below meth c A H locs cells slots mc ms ls hC hL hP hA hS h1 h2 h3 h4
  have hC0 := hC
  obtain ⟨c1, c2, c3, c4, c5, c6, c7, c8, c9, c10, c11, c12, c13⟩ := hC
  have hM := ex_met hy ho hw (by simpa using hn2) h H.size
  refine ex_after (va_runVN (C := C) (b := a) (As := av.map ex_v) (rest := st.map ex_v) ⟨c1, c2, c3, c4, c5⟩ hM ⟨va_cnB n c5 hG hw rfl rfl (c13.2.1 _ hlk) (c5 _ hini) hd ⟨by show d + 1 ≤ R.frames; exact c9, by show 8 + (Mc.2.2.2.1 + 11) + 38 * d ≤ R.locals; omega⟩, c5 _ him, c5 _ hse⟩ ⟨ex_blind, ex_recv hC0 hP hc hci ha, ex_start hC0 hP hA hS⟩ rfl (by simpa using hn) hL.1 (by show ((av.reverse ++ .inr (some a) :: st).map ex_v) = (av.map ex_v).reverse ++ .ref a :: st.map ex_v; simp [ex_v, va_rf]) (by have := ex_cats st; show 2 * (F0 m pc ls _).monitorRoom + _ ≤ 8; exact lv_room (by rw [this]; exact hst)) hdg ⟨by omega, by omega⟩) hC0 hL hA hS (by omega) (by omega) h3 h4 kk
theorem ex_callI {ws' : List Cond} {n index a : Nat} {av : List ex_V} (hdg : decode M.2.2.1 pc = .ok (.invokespecial index, 3)) (hy : plainName Mc.2.1.cls = true) (ho : Mc.2.1.cls = Mc.1) (hw : Mc.2.2.2.2.2 = Cond.code Mc.2.1 Mc.2.2.1 Mc.2.2.2.1 Mc.2.2.2.2.1 :: ws') (hml : Mc.2.2.2.1 ≤ 19) (hret : Mc.2.2.2.2.1 = none) (hnm : Mc.2.1.name = "<init>") (hG : GoodIn M.2.2.2.2.2 Mc.2.2.2.2.2) (hlk : Cond.methodLink M.1 index Mc.2.1 ∈ M.2.2.2.2.2) (hini : Cond.initialized Mc.2.1.cls ∈ M.2.2.2.2.2) (him : Cond.instanceMethod Mc.2.1 ∈ M.2.2.2.2.2) (hd : Mc.2.1.cls ≠ "java/lang/invoke/MethodHandle" ∧ Mc.2.1.cls ≠ "java/lang/invoke/VarHandle" ∧ (parseMethodDescriptor Mc.2.1.desc).map (fun d => d.parameters.length) = some n) (hn : av.length = n) (hn2 : av.length + 1 ≤ Mc.2.2.2.1) (hst : st.length ≤ 8) (h : ex_E Γ d Mc 0 (ex_en Mc.2.2.2.1 (.inr (some a) :: av)) [] K I F b1 Q1) (hbb : b1 + b2 ≤ b) (kk : ∀ r K' I' F', Q1 r K' I' F' → ex_E Γ (d + 1) M (pc + 3) lv (r.toList ++ st) K' I' F' b2 Q) : ex_E Γ (d + 1) M pc lv (av.reverse ++ .inr (some a) :: st) K I F b Q := by
  intro p e R s m args below meth c A H locs cells slots mc ms ls hC hL hP hA hS h1 h2 h3 h4
  have hC0 := hC
  obtain ⟨c1, c2, c3, c4, c5, c6, c7, c8, c9, c10, c11, c12, c13⟩ := hC
  have hM := ex_met hy ho hw (by simpa using hn2) h H.size
  rw [hret] at hw
  refine ex_after (va_runI (b := a) (As := av.map ex_v) (rest := st.map ex_v) ⟨c1, c2, c3, c4, c5⟩ hM (cwI n c5 hG hw rfl rfl (c5 _ hini) (c5 _ hlk) (c5 _ him) hnm hd ⟨by show d + 1 ≤ R.frames; exact c9, by show 8 + (Mc.2.2.2.1 + 11) + 38 * d ≤ R.locals; omega⟩) ⟨ex_blind, ex_start hC0 hP hA hS⟩ rfl (by simpa using hn) hL.1 (by show ((av.reverse ++ .inr (some a) :: st).map ex_v) = (av.map ex_v).reverse ++ .ref a :: st.map ex_v; simp [ex_v, va_rf]) (by have := ex_cats st; show 2 * (F0 m pc ls _).monitorRoom + _ ≤ 8; exact lv_room (by rw [this]; exact hst)) hdg ⟨by omega, by omega⟩) hC0 hL hA hS (by omega) (by omega) h3 h4 kk
theorem ex_callIN {ws' : List Cond} {host : String} {n index a : Nat} {av : List ex_V} (hdg : decode M.2.2.1 pc = .ok (.invokespecial index, 3)) (hy : plainName Mc.2.1.cls = true) (ho : Mc.2.1.cls = Mc.1) (hw : Mc.2.2.2.2.2 = Cond.code Mc.2.1 Mc.2.2.1 Mc.2.2.2.1 Mc.2.2.2.2.1 :: ws') (hml : Mc.2.2.2.1 ≤ 19) (hret : Mc.2.2.2.2.1 = none) (hnm : Mc.2.1.name = "<init>") (hG : GoodIn M.2.2.2.2.2 Mc.2.2.2.2.2) (hlk : (M.1, index, Mc.2.1, host) ∈ ex_NM) (hini : Cond.initialized Mc.2.1.cls ∈ M.2.2.2.2.2) (him : Cond.instanceMethod Mc.2.1 ∈ M.2.2.2.2.2) (hd : Mc.2.1.cls ≠ "java/lang/invoke/MethodHandle" ∧ Mc.2.1.cls ≠ "java/lang/invoke/VarHandle" ∧ (parseMethodDescriptor Mc.2.1.desc).map (fun d => d.parameters.length) = some n) (hn : av.length = n) (hn2 : av.length + 1 ≤ Mc.2.2.2.1) (hst : st.length ≤ 8) (h : ex_E Γ d Mc 0 (ex_en Mc.2.2.2.1 (.inr (some a) :: av)) [] K I F b1 Q1) (hbb : b1 + b2 ≤ b) (kk : ∀ r K' I' F', Q1 r K' I' F' → ex_E Γ (d + 1) M (pc + 3) lv (r.toList ++ st) K' I' F' b2 Q) : ex_E Γ (d + 1) M pc lv (av.reverse ++ .inr (some a) :: st) K I F b Q := by
  intro p e R s m args below meth c A H locs cells slots mc ms ls hC hL hP hA hS h1 h2 h3 h4
  have hC0 := hC
  obtain ⟨c1, c2, c3, c4, c5, c6, c7, c8, c9, c10, c11, c12, c13⟩ := hC
  have hM := ex_met hy ho hw (by simpa using hn2) h H.size
  rw [hret] at hw
  refine ex_after (va_runIN (b := a) (As := av.map ex_v) (rest := st.map ex_v) ⟨c1, c2, c3, c4, c5⟩ hM ⟨va_cnB n c5 hG hw rfl rfl (c13.2.1 _ hlk) (c5 _ hini) hd ⟨by show d + 1 ≤ R.frames; exact c9, by show 8 + (Mc.2.2.2.1 + 11) + 38 * d ≤ R.locals; omega⟩, hnm, c5 _ him⟩ ⟨ex_blind, ex_start hC0 hP hA hS⟩ rfl (by simpa using hn) hL.1 (by show ((av.reverse ++ .inr (some a) :: st).map ex_v) = (av.map ex_v).reverse ++ .ref a :: st.map ex_v; simp [ex_v, va_rf]) (by have := ex_cats st; show 2 * (F0 m pc ls _).monitorRoom + _ ≤ 8; exact lv_room (by rw [this]; exact hst)) hdg ⟨by omega, by omega⟩) hC0 hL hA hS (by omega) (by omega) h3 h4 kk
theorem ex_callS {ws' : List Cond} {n index : Nat} {av : List ex_V} (hdg : decode M.2.2.1 pc = .ok (.invokestatic index, 3)) (hy : plainName Mc.2.1.cls = true) (ho : Mc.2.1.cls = Mc.1) (hw : Mc.2.2.2.2.2 = Cond.code Mc.2.1 Mc.2.2.1 Mc.2.2.2.1 Mc.2.2.2.2.1 :: ws') (hml : Mc.2.2.2.1 ≤ 19) (hG : GoodIn M.2.2.2.2.2 Mc.2.2.2.2.2) (hlk : Cond.methodLink M.1 index Mc.2.1 ∈ M.2.2.2.2.2) (hini : Cond.initialized Mc.2.1.cls ∈ M.2.2.2.2.2) (hs : Cond.static Mc.2.1 ∈ M.2.2.2.2.2) (hd : Mc.2.1.cls ≠ "java/lang/invoke/MethodHandle" ∧ Mc.2.1.cls ≠ "java/lang/invoke/VarHandle" ∧ (parseMethodDescriptor Mc.2.1.desc).map (fun d => d.parameters.length) = some n) (hn : av.length = n) (hn2 : av.length ≤ Mc.2.2.2.1) (hst : st.length ≤ 8) (h : ex_E Γ d Mc 0 (ex_en Mc.2.2.2.1 (av)) [] K I F b1 Q1) (hbb : b1 + b2 ≤ b) (kk : ∀ r K' I' F', Q1 r K' I' F' → ex_E Γ (d + 1) M (pc + 3) lv (r.toList ++ st) K' I' F' b2 Q) : ex_E Γ (d + 1) M pc lv (av.reverse ++ st) K I F b Q := by
  intro p e R s m args below meth c A H locs cells slots mc ms ls hC hL hP hA hS h1 h2 h3 h4
  have hC0 := hC
  obtain ⟨c1, c2, c3, c4, c5, c6, c7, c8, c9, c10, c11, c12, c13⟩ := hC
  have hM := ex_met hy ho hw (by simpa using hn2) h H.size
  refine ex_after (va_runS (As := av.map ex_v) (rest := st.map ex_v) ⟨c1, c2, c3, c4, c5⟩ hM ⟨callB_of n c5 hG hw rfl rfl (c5 _ hini) (c5 _ hlk) hd ⟨by show d + 1 ≤ R.frames; exact c9, by show 8 + (Mc.2.2.2.1 + 11) + 38 * d ≤ R.locals; omega⟩, c5 _ hs⟩ ⟨ex_blind, ex_start hC0 hP hA hS⟩ rfl (by simpa using hn) hL.1 (by show ((av.reverse ++ st).map ex_v) = (av.map ex_v).reverse ++ st.map ex_v; simp) (by have := ex_cats st; show 2 * (F0 m pc ls _).monitorRoom + _ ≤ 8; exact lv_room (by rw [this]; exact hst)) hdg ⟨by omega, by omega⟩) hC0 hL hA hS (by omega) (by omega) h3 h4 kk
theorem ex_callSN {ws' : List Cond} {host : String} {n index : Nat} {av : List ex_V} (hdg : decode M.2.2.1 pc = .ok (.invokestatic index, 3)) (hy : plainName Mc.2.1.cls = true) (ho : Mc.2.1.cls = Mc.1) (hw : Mc.2.2.2.2.2 = Cond.code Mc.2.1 Mc.2.2.1 Mc.2.2.2.1 Mc.2.2.2.2.1 :: ws') (hml : Mc.2.2.2.1 ≤ 19) (hG : GoodIn M.2.2.2.2.2 Mc.2.2.2.2.2) (hlk : (M.1, index, Mc.2.1, host) ∈ ex_NM) (hini : Cond.initialized Mc.2.1.cls ∈ M.2.2.2.2.2) (hs : Cond.static Mc.2.1 ∈ M.2.2.2.2.2) (hd : Mc.2.1.cls ≠ "java/lang/invoke/MethodHandle" ∧ Mc.2.1.cls ≠ "java/lang/invoke/VarHandle" ∧ (parseMethodDescriptor Mc.2.1.desc).map (fun d => d.parameters.length) = some n) (hn : av.length = n) (hn2 : av.length ≤ Mc.2.2.2.1) (hst : st.length ≤ 8) (h : ex_E Γ d Mc 0 (ex_en Mc.2.2.2.1 (av)) [] K I F b1 Q1) (hbb : b1 + b2 ≤ b) (kk : ∀ r K' I' F', Q1 r K' I' F' → ex_E Γ (d + 1) M (pc + 3) lv (r.toList ++ st) K' I' F' b2 Q) : ex_E Γ (d + 1) M pc lv (av.reverse ++ st) K I F b Q := by
  intro p e R s m args below meth c A H locs cells slots mc ms ls hC hL hP hA hS h1 h2 h3 h4
  have hC0 := hC
  obtain ⟨c1, c2, c3, c4, c5, c6, c7, c8, c9, c10, c11, c12, c13⟩ := hC
  have hM := ex_met hy ho hw (by simpa using hn2) h H.size
  refine ex_after (va_runSN (As := av.map ex_v) (rest := st.map ex_v) ⟨c1, c2, c3, c4, c5⟩ hM ⟨va_cnB n c5 hG hw rfl rfl (c13.2.1 _ hlk) (c5 _ hini) hd ⟨by show d + 1 ≤ R.frames; exact c9, by show 8 + (Mc.2.2.2.1 + 11) + 38 * d ≤ R.locals; omega⟩, c5 _ hs, trivial⟩ ⟨ex_blind, ex_start hC0 hP hA hS⟩ rfl (by simpa using hn) hL.1 (by show ((av.reverse ++ st).map ex_v) = (av.map ex_v).reverse ++ st.map ex_v; simp) (by have := ex_cats st; show 2 * (F0 m pc ls _).monitorRoom + _ ≤ 8; exact lv_room (by rw [this]; exact hst)) hdg ⟨by omega, by omega⟩) hC0 hL hA hS (by omega) (by omega) h3 h4 kk
theorem ex_objInit {index a : Nat} (hdg : decode M.2.2.1 pc = .ok (.invokespecial index, 3)) (hlk : Cond.methodLink M.1 index Lib.objectInit ∈ M.2.2.2.2.2) (him : Cond.instanceMethod Lib.objectInit ∈ M.2.2.2.2.2) (hco : Cond.code Lib.objectInit ⟨#[0xb1]⟩ 1 none ∈ M.2.2.2.2.2) (hst : st.length ≤ 8) (kk : ex_E Γ (d + 1) M (pc + 3) lv st K I F b Q) : ex_E Γ (d + 1) M pc lv (.inr (some a) :: st) K I F b Q := by
  intro p e R s m args below meth c A H locs cells slots mc ms ls hC hL hP hA hS h1 h2 h3 h4
  have hC0 := hC
  obtain ⟨c1, c2, c3, c4, c5, c6, c7, c8, c9, c10, c11, c12, c13⟩ := hC
  have hm : 2 * (F0 m pc ls ((.inr (some a) :: st).map ex_v)).monitorRoom + ((st.map ex_v).map fun v => v.category).sum ≤ 8 := lv_room (by rw [ex_cats]; exact hst)
  exact W.objInit c1 c2 c4 (c5 _ hlk) (c5 _ him) (c5 _ hco) rfl (by rw [c3]; exact hL.1) rfl hdg (by omega) (by omega) (kk p e R s m args below meth c A H locs cells slots mc ms ls hC0 hL hP hA hS h1 h2 h3 h4)
end EXC
