theorem ex_one {D : va_G} {cl : List vw_C} {q : Nat × va_E} {H : Heap} (h : va_at D cl q H) : va_P D cl [q] H := by
  intro k x hk
  have hz : k < 1 := (List.getElem?_eq_some_iff.mp hk).1
  rw [show k = 0 by omega] at hk
  cases hk
  exact h
theorem ex_fs {N k : Nat} (hk : k < N) (f : Nat → Value) : ((List.range N).map f)[k]? = some (f k) := by
  rw [List.getElem?_map, List.getElem?_range hk]
  rfl
theorem ex_fs_set {N k : Nat} {f g : Nat → Value} {x : Value} (hk : k < N) (h : ∀ j, j ≠ k → g j = f j) (hx : g k = x) : (List.range N).map g = ((List.range N).map f).set k x := by
  refine List.ext_getElem? (fun j => ?_)
  rw [List.getElem?_set]
  by_cases e : k = j
  · subst e
    rw [if_pos rfl, ex_fs hk, if_pos (by simpa using hk), hx]
  · rw [if_neg e]
    by_cases hj : j < N
    · rw [ex_fs hj, ex_fs hj, h j (fun z => e z.symm)]
    · rw [List.getElem?_eq_none (by simpa using hj), List.getElem?_eq_none (by simpa using hj)]
section EXW
variable {p : Program} {l : Launch} {e : Env} {R : Room} {s : State} {m : MethodId} {args : Array Value} {below : List Frame} {meth : Method} {c : Code} {H : Heap} {locs : List Loc} {cells slots : Nat} {Q : State → Prop} {cc : ByteArray} {pc : Nat} {ls : Array Slot} {rest : List Value} {D : va_G} {cl : List vw_C} {a : Nat} {tys : List (ClassId × FieldType)}
theorem ex_put0 (hexec : p.tables.exec = Jvm.exec) (hb : c.code = cc) {own ref C : String} {T : u_T} {N ci index : Nat} {Ts : List Cond} (hts : ∀ w ∈ Ts, w.before args s = true) (hin : ∀ w ∈ u_ws C T N, w ∈ Ts) (ty0 : Nat → FieldType) (hty : ∀ k, k < N → parseFieldDescriptor (T k).2.2.1 = some (ty0 k)) (hnm : ∀ a, a < N → ∀ b, b < N → a ≠ b → (T a).2.1 ≠ (T b).2.1) (hown : s.vm.findClass own = some m.cls) (hK : va_K D cl tys s) {fs : List Value} (hat : va_at D cl (a, .inr (ci, fs)) H) (hc : cl[ci]? = some (C, T, N)) (k : Nat) (hk : k < N) (hlink : (Cond.fieldLink own index ref (T k).2.1 (T k).2.2.1).before args s = true) (hsame : ∀ x, s.fieldFound? (T k).1 (T k).2.1 (T k).2.2.1 = some x → s.fieldFound? ref (T k).2.1 (T k).2.2.1 = some x) (hfin : (T k).2.2.2 = false) {ty : FieldType} {v : Value} (hd : parseFieldDescriptor (T k).2.2.1 = some ty) (hn : narrow ty v = v) (hfit : fits ty v = true) (hl : k < fs.length) (hdg : decode cc pc = .ok (.putfield index, 3)) (kk : ∀ (H1 : Heap) (sl : Nat), va_at D cl (a, .inr (ci, fs.set k v)) H1 → H1.size = H.size → (∀ q : Nat, q ≠ a → H1[q]? = H[q]?) → W p l e R s m args below meth c H1 (locs ++ [⟨a, sl⟩]) cells slots Q (F0 m (pc + 3) ls rest)) : W p l e R s m args below meth c H locs cells slots Q (F0 m pc ls (v :: .ref a :: rest)) := by
  have hap := va_apart (own := own) hts hin ty0 hty hnm hK hc
  obtain ⟨r, h1, cell, q1, q2, q3, q4⟩ := hat
  have hr : r = (C, T, N) := Option.some.inj (h1.symm.trans hc)
  subst hr
  obtain ⟨hS, hfc, kC, hkC, hkind⟩ := hK.1 ci _ hc
  obtain ⟨cf, kf, fi, f, hi, hsl⟩ := hS k hk
  have hlay := hts _ (hin _ (u_in_lay hk))
  unfold u_lay at hlay
  rw [if_neg (by rw [hfin]; decide)] at hlay
  have hst := (u_facts hfc hkC (u_lays hts hin hk) hi).1
  have h6 := u_store hfc hkC hkind hlay hi hd hn hfit
  refine W.putK hexec hb (f := f) ⟨hown, hlink, ⟨_, _, _, hsame _ hi⟩, hst⟩ (by rw [q2]; exact h6) q1 q3 (by rw [hsl]; exact k2_hasslot (q4 k hk)) rfl rfl hdg fun H' e1 e2 e3 => ?_
  rw [hsl] at e1 ⊢
  exact kk H' _ ⟨_, hc, t_OB.to (V := updV (vp_V fs) k v) ⟨_, e1, q2, q3, t_set q4 hap hk v⟩ (fun j _ => vp_updV_set hl v j)⟩ e2 e3
theorem ex_put0N (hexec : p.tables.exec = Jvm.exec) (hb : c.code = cc) {own ref C host : String} {T : u_T} {N ci index : Nat} {Ts : List Cond} (hts : ∀ w ∈ Ts, w.before args s = true) (hin : ∀ w ∈ u_ws C T N, w ∈ Ts) (ty0 : Nat → FieldType) (hty : ∀ k, k < N → parseFieldDescriptor (T k).2.2.1 = some (ty0 k)) (hnm : ∀ a, a < N → ∀ b, b < N → a ≠ b → (T a).2.1 ≠ (T b).2.1) (hown : s.vm.findClass own = some m.cls) (hK : va_K D cl tys s) {fs : List Value} (hat : va_at D cl (a, .inr (ci, fs)) H) (hc : cl[ci]? = some (C, T, N)) (k : Nat) (hk : k < N) (hlink : (Cond.fieldLinkNest own index ref (T k).2.1 (T k).2.2.1 host).before args s = true) (hsame : ∀ x, s.fieldFound? (T k).1 (T k).2.1 (T k).2.2.1 = some x → s.fieldFound? ref (T k).2.1 (T k).2.2.1 = some x) (hfin : (T k).2.2.2 = false) {ty : FieldType} {v : Value} (hd : parseFieldDescriptor (T k).2.2.1 = some ty) (hn : narrow ty v = v) (hfit : fits ty v = true) (hl : k < fs.length) (hdg : decode cc pc = .ok (.putfield index, 3)) (kk : ∀ (H1 : Heap) (sl : Nat), va_at D cl (a, .inr (ci, fs.set k v)) H1 → H1.size = H.size → (∀ q : Nat, q ≠ a → H1[q]? = H[q]?) → W p l e R s m args below meth c H1 (locs ++ [⟨a, sl⟩]) cells slots Q (F0 m (pc + 3) ls rest)) : W p l e R s m args below meth c H locs cells slots Q (F0 m pc ls (v :: .ref a :: rest)) := by
  have hap := va_apart (own := own) hts hin ty0 hty hnm hK hc
  obtain ⟨r, h1, cell, q1, q2, q3, q4⟩ := hat
  have hr : r = (C, T, N) := Option.some.inj (h1.symm.trans hc)
  subst hr
  obtain ⟨hS, hfc, kC, hkC, hkind⟩ := hK.1 ci _ hc
  obtain ⟨cf, kf, fi, f, hi, hsl⟩ := hS k hk
  have hlay := hts _ (hin _ (u_in_lay hk))
  unfold u_lay at hlay
  rw [if_neg (by rw [hfin]; decide)] at hlay
  have hst := (u_facts hfc hkC (u_lays hts hin hk) hi).1
  have h6 := u_store hfc hkC hkind hlay hi hd hn hfit
  refine va_WputK hexec hb (f := f) hown hlink (hsame _ hi) hst (by rw [q2]; exact h6) q1 q3 (by rw [hsl]; exact k2_hasslot (q4 k hk)) rfl rfl hdg fun H' e1 e2 e3 => ?_
  rw [hsl] at e1 ⊢
  exact kk H' _ ⟨_, hc, t_OB.to (V := updV (vp_V fs) k v) ⟨_, e1, q2, q3, t_set q4 hap hk v⟩ (fun j _ => vp_updV_set hl v j)⟩ e2 e3
theorem ex_put0F (hexec : p.tables.exec = Jvm.exec) (hb : c.code = cc) {own ref C : String} {T : u_T} {N ci index : Nat} {Ts : List Cond} (hts : ∀ w ∈ Ts, w.before args s = true) (hin : ∀ w ∈ u_ws C T N, w ∈ Ts) (ty0 : Nat → FieldType) (hty : ∀ k, k < N → parseFieldDescriptor (T k).2.2.1 = some (ty0 k)) (hnm : ∀ a, a < N → ∀ b, b < N → a ≠ b → (T a).2.1 ≠ (T b).2.1) (hown : s.vm.findClass own = some m.cls) (hK : va_K D cl tys s) {fs : List Value} (hat : va_at D cl (a, .inr (ci, fs)) H) (hc : cl[ci]? = some (C, T, N)) (k : Nat) (hk : k < N) (hlink : (Cond.fieldLink own index ref (T k).2.1 (T k).2.2.1).before args s = true) (hsame : ∀ x, s.fieldFound? (T k).1 (T k).2.1 (T k).2.2.1 = some x → s.fieldFound? ref (T k).2.1 (T k).2.2.1 = some x) (hfin : (T k).2.2.2 = true) (hin2 : meth.name = "<init>") (hdecl : (T k).1 = own) {ty : FieldType} {v : Value} (hd : parseFieldDescriptor (T k).2.2.1 = some ty) (hn : narrow ty v = v) (hfit : fits ty v = true) (hl : k < fs.length) (hdg : decode cc pc = .ok (.putfield index, 3)) (kk : ∀ (H1 : Heap) (sl : Nat), va_at D cl (a, .inr (ci, fs.set k v)) H1 → H1.size = H.size → (∀ q : Nat, q ≠ a → H1[q]? = H[q]?) → W p l e R s m args below meth c H1 (locs ++ [⟨a, sl⟩]) cells slots Q (F0 m (pc + 3) ls rest)) : W p l e R s m args below meth c H locs cells slots Q (F0 m pc ls (v :: .ref a :: rest)) := by
  have hap := va_apart (own := own) hts hin ty0 hty hnm hK hc
  obtain ⟨r, h1, cell, q1, q2, q3, q4⟩ := hat
  have hr : r = (C, T, N) := Option.some.inj (h1.symm.trans hc)
  subst hr
  obtain ⟨hS, hfc, kC, hkC, hkind⟩ := hK.1 ci _ hc
  obtain ⟨cf, kf, fi, f, hi, hsl⟩ := hS k hk
  have hlay := hts _ (hin _ (u_in_lay hk))
  unfold u_lay at hlay
  rw [if_pos hfin] at hlay
  have hst := (u_facts hfc hkC (u_lays hts hin hk) hi).1
  have hcf : m.cls = cf := by
    obtain ⟨_, _, c', _, _, _, -, -, hf', -, -, -, hown2, -⟩ := Cond.laysFinal_spec hlay
    have e1 : c' = cf := by have := hi.symm.trans hf'; simp at this; exact this.1.symm
    rw [hdecl] at hown2
    rw [← e1]; exact Option.some.inj (hown.symm.trans hown2)
  have h6 := u_fits hfc hkC hkind (Or.inr hlay) hi hd hn hfit
  refine W.putFinK hexec hb hown hlink (hsame _ hi) hst hcf hin2 (by rw [q2]; exact h6) q1 q3 (by rw [hsl]; exact k2_hasslot (q4 k hk)) rfl rfl hdg fun H' e1 e2 e3 => ?_
  rw [hsl] at e1 ⊢
  exact kk H' _ ⟨_, hc, t_OB.to (V := updV (vp_V fs) k v) ⟨_, e1, q2, q3, t_set q4 hap hk v⟩ (fun j _ => vp_updV_set hl v j)⟩ e2 e3
end EXW
section EXH
variable {Γ : ex_G} {d : Nat} {M : ex_M} {pc : Nat} {lv : List (Option ex_V)} {st : List ex_V} {K : ex_K} {I : ex_I} {F : ex_F} {b : Nat} {Q Q' : Option ex_V → ex_K → ex_I → ex_F → Prop}
theorem ex_get {C nm ds : String} {T : u_T} {N ci index : Nat} {fin : Bool} (k : Nat) {a : Nat} {r : Option Nat} {v : ex_V} (hdg : decode M.2.2.1 pc = .ok (.getfield index, 3)) (hc : vwCl[ci]? = some (C, T, N)) (hci : ci < 20) (hN : ex_nf ci = N) (hk : k < N) (hT : T k = (C, nm, ds, fin)) (hin : ∀ w ∈ u_ws C T N, w ∈ M.2.2.2.2.2) (hlink : Cond.fieldLink M.1 index C nm ds ∈ M.2.2.2.2.2) (hv : (if ex_it ci k = true then Sum.inl (I (ex_fi ci k) a 0) else Sum.inr (F (ex_fi ci k) a 0)) = v) (hr : r = some a) (ha : (K a).1 = ci + 1) (kk : ex_E Γ d M (pc + 3) lv (v :: st) K I F b Q) : ex_E Γ d M pc lv (.inr r :: st) K I F b Q := by
  intro p e R s m args below meth c A H locs cells slots mc ms ls hC hL hP hA hS h1 h2 h3 h4
  have hC0 := hC
  obtain ⟨c1, c2, c3, c4, c5, c6, c7, c8, c9, c10, c11, c12, c13⟩ := hC
  subst hr
  have hat := hP a (by omega)
  rw [ex_ent_o ha hci] at hat
  refine va_get (C := C) (T := T) (N := N) (ref := C) (v := ex_v v) c1 c2 c5 hin c4 c11 (ex_one hat) 0 rfl hc k hk (by rw [hT]; exact c5 _ hlink) (fun x hx => by rw [hT] at hx ⊢; exact hx) ?_ hdg (kk p e R s m args below meth c A H locs cells slots mc ms ls hC0 hL hP hA hS h1 h2 h3 h4)
  rw [hN, ex_fs hk, ← hv]
  by_cases z : ex_it ci k = true
  · rw [if_pos z, if_pos z]
    rfl
  · rw [if_neg z, if_neg z]
    rfl
theorem ex_getN {C nm ds host : String} {T : u_T} {N ci index : Nat} {fin : Bool} (k : Nat) {a : Nat} {r : Option Nat} {v : ex_V} (hdg : decode M.2.2.1 pc = .ok (.getfield index, 3)) (hc : vwCl[ci]? = some (C, T, N)) (hci : ci < 20) (hN : ex_nf ci = N) (hk : k < N) (hT : T k = (C, nm, ds, fin)) (hin : ∀ w ∈ u_ws C T N, w ∈ M.2.2.2.2.2) (hlink : (M.1, index, C, nm, ds, host) ∈ ex_NF) (hv : (if ex_it ci k = true then Sum.inl (I (ex_fi ci k) a 0) else Sum.inr (F (ex_fi ci k) a 0)) = v) (hr : r = some a) (ha : (K a).1 = ci + 1) (kk : ex_E Γ d M (pc + 3) lv (v :: st) K I F b Q) : ex_E Γ d M pc lv (.inr r :: st) K I F b Q := by
  intro p e R s m args below meth c A H locs cells slots mc ms ls hC hL hP hA hS h1 h2 h3 h4
  have hC0 := hC
  obtain ⟨c1, c2, c3, c4, c5, c6, c7, c8, c9, c10, c11, c12, c13⟩ := hC
  subst hr
  have hat := hP a (by omega)
  rw [ex_ent_o ha hci] at hat
  refine va_getN (C := C) (T := T) (N := N) (ref := C) (v := ex_v v) c1 c2 c5 hin c4 c11 (ex_one hat) 0 rfl hc k hk (by rw [hT]; exact va_Nw.use rfl (c13.1 _ hlink)) (fun x hx => by rw [hT] at hx ⊢; exact hx) ?_ hdg (kk p e R s m args below meth c A H locs cells slots mc ms ls hC0 hL hP hA hS h1 h2 h3 h4)
  rw [hN, ex_fs hk, ← hv]
  by_cases z : ex_it ci k = true
  · rw [if_pos z, if_pos z]
    rfl
  · rw [if_neg z, if_neg z]
    rfl
theorem ex_puti {C nm ds : String} {T : u_T} {N ci index f : Nat} {ty0 : Nat → FieldType} (k : Nat) {a : Nat} {r : Option Nat} {x : Int32} (hdg : decode M.2.2.1 pc = .ok (.putfield index, 3)) (hc : vwCl[ci]? = some (C, T, N)) (hci : ci < 20) (hN : ex_nf ci = N) (hk : k < N) (hT : T k = (C, nm, ds, false)) (hit : ex_it ci k = true) (hf : ex_fi ci k = f) (hin : ∀ w ∈ u_ws C T N, w ∈ M.2.2.2.2.2) (hlink : Cond.fieldLink M.1 index C nm ds ∈ M.2.2.2.2.2) (hty : ∀ k, k < N → parseFieldDescriptor (T k).2.2.1 = some (ty0 k)) (hnm : ∀ a, a < N → ∀ b, b < N → a ≠ b → (T a).2.1 ≠ (T b).2.1) (hn : narrow (ty0 k) (ex_v (.inl x)) = ex_v (.inl x)) (hfit : fits (ty0 k) (ex_v (.inl x)) = true) (hr : r = some a) (ha : (K a).1 = ci + 1) (kk : ex_E Γ d M (pc + 3) lv st K (ex_ui I f a 0 x) F b Q) : ex_E Γ d M pc lv (.inl x :: .inr r :: st) K I F b Q := by
  intro p e R s m args below meth c A H locs cells slots mc ms ls hC hL hP hA hS h1 h2 h3 h4
  have hC0 := hC
  obtain ⟨c1, c2, c3, c4, c5, c6, c7, c8, c9, c10, c11, c12, c13⟩ := hC
  subst hr
  subst hf
  have hat := hP a (by omega)
  rw [ex_ent_o ha hci] at hat
  refine ex_put0 (C := C) (T := T) (N := N) (ref := C) (v := ex_v (.inl x)) c1 c2 c5 hin ty0 hty hnm c4 c11 hat hc k hk (by rw [hT]; exact c5 _ hlink) (fun x hx => by rw [hT] at hx ⊢; exact hx) (by rw [hT]) (hty k hk) hn hfit (by rw [hN]; simpa using hk) hdg (fun H1 sl hat1 hz oq => ?_)
  refine kk p e R s m args below meth c A H1 _ cells slots mc ms ls hC0 hL (ex_P_put hP (fun q hq => ex_ui_ne I _ 0 x hq) (fun _ _ _ => rfl) ?_ oq) hA (hS.put hz oq (hA a (by omega))) h1 h2 h3 h4
  rw [ex_ent_o ha hci]
  have e : (List.range (ex_nf ci)).map (fun j => if ex_it ci j = true then Value.int ((ex_ui I (ex_fi ci k) a 0 x) (ex_fi ci j) a 0) else va_rf ((F) (ex_fi ci j) a 0)) = ((List.range (ex_nf ci)).map (fun j => if ex_it ci j = true then Value.int (I (ex_fi ci j) a 0) else va_rf (F (ex_fi ci j) a 0))).set k (ex_v (.inl x)) := by
    refine ex_fs_set (by rw [hN]; exact hk) (fun j hj => ?_) ?_
    · have hne : ex_fi ci j ≠ ex_fi ci k := by unfold ex_fi; omega
      simp only [ex_ui_f I _ _ _ hne]
    · simp only [ex_ui_eq, hit, if_true, ex_v, Bool.false_eq_true, if_false]
  rw [e]
  exact hat1
theorem ex_putr {C nm ds : String} {T : u_T} {N ci index f : Nat} {ty0 : Nat → FieldType} (k : Nat) {a : Nat} {r : Option Nat} {x : Option Nat} (hdg : decode M.2.2.1 pc = .ok (.putfield index, 3)) (hc : vwCl[ci]? = some (C, T, N)) (hci : ci < 20) (hN : ex_nf ci = N) (hk : k < N) (hT : T k = (C, nm, ds, false)) (hit : ex_it ci k = false) (hf : ex_fi ci k = f) (hin : ∀ w ∈ u_ws C T N, w ∈ M.2.2.2.2.2) (hlink : Cond.fieldLink M.1 index C nm ds ∈ M.2.2.2.2.2) (hty : ∀ k, k < N → parseFieldDescriptor (T k).2.2.1 = some (ty0 k)) (hnm : ∀ a, a < N → ∀ b, b < N → a ≠ b → (T a).2.1 ≠ (T b).2.1) (hn : narrow (ty0 k) (ex_v (.inr x)) = ex_v (.inr x)) (hfit : fits (ty0 k) (ex_v (.inr x)) = true) (hr : r = some a) (ha : (K a).1 = ci + 1) (kk : ex_E Γ d M (pc + 3) lv st K I (ex_uf F f a 0 x) b Q) : ex_E Γ d M pc lv (.inr x :: .inr r :: st) K I F b Q := by
  intro p e R s m args below meth c A H locs cells slots mc ms ls hC hL hP hA hS h1 h2 h3 h4
  have hC0 := hC
  obtain ⟨c1, c2, c3, c4, c5, c6, c7, c8, c9, c10, c11, c12, c13⟩ := hC
  subst hr
  subst hf
  have hat := hP a (by omega)
  rw [ex_ent_o ha hci] at hat
  refine ex_put0 (C := C) (T := T) (N := N) (ref := C) (v := ex_v (.inr x)) c1 c2 c5 hin ty0 hty hnm c4 c11 hat hc k hk (by rw [hT]; exact c5 _ hlink) (fun x hx => by rw [hT] at hx ⊢; exact hx) (by rw [hT]) (hty k hk) hn hfit (by rw [hN]; simpa using hk) hdg (fun H1 sl hat1 hz oq => ?_)
  refine kk p e R s m args below meth c A H1 _ cells slots mc ms ls hC0 hL (ex_P_put hP (fun _ _ _ => rfl) (fun q hq => ex_uf_ne F _ 0 x hq) ?_ oq) hA (hS.put hz oq (hA a (by omega))) h1 h2 h3 h4
  rw [ex_ent_o ha hci]
  have e : (List.range (ex_nf ci)).map (fun j => if ex_it ci j = true then Value.int ((I) (ex_fi ci j) a 0) else va_rf ((ex_uf F (ex_fi ci k) a 0 x) (ex_fi ci j) a 0)) = ((List.range (ex_nf ci)).map (fun j => if ex_it ci j = true then Value.int (I (ex_fi ci j) a 0) else va_rf (F (ex_fi ci j) a 0))).set k (ex_v (.inr x)) := by
    refine ex_fs_set (by rw [hN]; exact hk) (fun j hj => ?_) ?_
    · have hne : ex_fi ci j ≠ ex_fi ci k := by unfold ex_fi; omega
      simp only [ex_uf_f F _ _ _ hne]
    · simp only [ex_uf_eq, hit, if_true, ex_v, Bool.false_eq_true, if_false]
  rw [e]
  exact hat1
theorem ex_putNi {C nm ds host : String} {T : u_T} {N ci index f : Nat} {ty0 : Nat → FieldType} (k : Nat) {a : Nat} {r : Option Nat} {x : Int32} (hdg : decode M.2.2.1 pc = .ok (.putfield index, 3)) (hc : vwCl[ci]? = some (C, T, N)) (hci : ci < 20) (hN : ex_nf ci = N) (hk : k < N) (hT : T k = (C, nm, ds, false)) (hit : ex_it ci k = true) (hf : ex_fi ci k = f) (hin : ∀ w ∈ u_ws C T N, w ∈ M.2.2.2.2.2) (hlink : (M.1, index, C, nm, ds, host) ∈ ex_NF) (hty : ∀ k, k < N → parseFieldDescriptor (T k).2.2.1 = some (ty0 k)) (hnm : ∀ a, a < N → ∀ b, b < N → a ≠ b → (T a).2.1 ≠ (T b).2.1) (hn : narrow (ty0 k) (ex_v (.inl x)) = ex_v (.inl x)) (hfit : fits (ty0 k) (ex_v (.inl x)) = true) (hr : r = some a) (ha : (K a).1 = ci + 1) (kk : ex_E Γ d M (pc + 3) lv st K (ex_ui I f a 0 x) F b Q) : ex_E Γ d M pc lv (.inl x :: .inr r :: st) K I F b Q := by
  intro p e R s m args below meth c A H locs cells slots mc ms ls hC hL hP hA hS h1 h2 h3 h4
  have hC0 := hC
  obtain ⟨c1, c2, c3, c4, c5, c6, c7, c8, c9, c10, c11, c12, c13⟩ := hC
  subst hr
  subst hf
  have hat := hP a (by omega)
  rw [ex_ent_o ha hci] at hat
  refine ex_put0N (C := C) (T := T) (N := N) (ref := C) (v := ex_v (.inl x)) c1 c2 c5 hin ty0 hty hnm c4 c11 hat hc k hk (by rw [hT]; exact va_Nw.use rfl (c13.1 _ hlink)) (fun x hx => by rw [hT] at hx ⊢; exact hx) (by rw [hT]) (hty k hk) hn hfit (by rw [hN]; simpa using hk) hdg (fun H1 sl hat1 hz oq => ?_)
  refine kk p e R s m args below meth c A H1 _ cells slots mc ms ls hC0 hL (ex_P_put hP (fun q hq => ex_ui_ne I _ 0 x hq) (fun _ _ _ => rfl) ?_ oq) hA (hS.put hz oq (hA a (by omega))) h1 h2 h3 h4
  rw [ex_ent_o ha hci]
  have e : (List.range (ex_nf ci)).map (fun j => if ex_it ci j = true then Value.int ((ex_ui I (ex_fi ci k) a 0 x) (ex_fi ci j) a 0) else va_rf ((F) (ex_fi ci j) a 0)) = ((List.range (ex_nf ci)).map (fun j => if ex_it ci j = true then Value.int (I (ex_fi ci j) a 0) else va_rf (F (ex_fi ci j) a 0))).set k (ex_v (.inl x)) := by
    refine ex_fs_set (by rw [hN]; exact hk) (fun j hj => ?_) ?_
    · have hne : ex_fi ci j ≠ ex_fi ci k := by unfold ex_fi; omega
      simp only [ex_ui_f I _ _ _ hne]
    · simp only [ex_ui_eq, hit, if_true, ex_v, Bool.false_eq_true, if_false]
  rw [e]
  exact hat1
theorem ex_putNr {C nm ds host : String} {T : u_T} {N ci index f : Nat} {ty0 : Nat → FieldType} (k : Nat) {a : Nat} {r : Option Nat} {x : Option Nat} (hdg : decode M.2.2.1 pc = .ok (.putfield index, 3)) (hc : vwCl[ci]? = some (C, T, N)) (hci : ci < 20) (hN : ex_nf ci = N) (hk : k < N) (hT : T k = (C, nm, ds, false)) (hit : ex_it ci k = false) (hf : ex_fi ci k = f) (hin : ∀ w ∈ u_ws C T N, w ∈ M.2.2.2.2.2) (hlink : (M.1, index, C, nm, ds, host) ∈ ex_NF) (hty : ∀ k, k < N → parseFieldDescriptor (T k).2.2.1 = some (ty0 k)) (hnm : ∀ a, a < N → ∀ b, b < N → a ≠ b → (T a).2.1 ≠ (T b).2.1) (hn : narrow (ty0 k) (ex_v (.inr x)) = ex_v (.inr x)) (hfit : fits (ty0 k) (ex_v (.inr x)) = true) (hr : r = some a) (ha : (K a).1 = ci + 1) (kk : ex_E Γ d M (pc + 3) lv st K I (ex_uf F f a 0 x) b Q) : ex_E Γ d M pc lv (.inr x :: .inr r :: st) K I F b Q := by
  intro p e R s m args below meth c A H locs cells slots mc ms ls hC hL hP hA hS h1 h2 h3 h4
  have hC0 := hC
  obtain ⟨c1, c2, c3, c4, c5, c6, c7, c8, c9, c10, c11, c12, c13⟩ := hC
  subst hr
  subst hf
  have hat := hP a (by omega)
  rw [ex_ent_o ha hci] at hat
  refine ex_put0N (C := C) (T := T) (N := N) (ref := C) (v := ex_v (.inr x)) c1 c2 c5 hin ty0 hty hnm c4 c11 hat hc k hk (by rw [hT]; exact va_Nw.use rfl (c13.1 _ hlink)) (fun x hx => by rw [hT] at hx ⊢; exact hx) (by rw [hT]) (hty k hk) hn hfit (by rw [hN]; simpa using hk) hdg (fun H1 sl hat1 hz oq => ?_)
  refine kk p e R s m args below meth c A H1 _ cells slots mc ms ls hC0 hL (ex_P_put hP (fun _ _ _ => rfl) (fun q hq => ex_uf_ne F _ 0 x hq) ?_ oq) hA (hS.put hz oq (hA a (by omega))) h1 h2 h3 h4
  rw [ex_ent_o ha hci]
  have e : (List.range (ex_nf ci)).map (fun j => if ex_it ci j = true then Value.int ((I) (ex_fi ci j) a 0) else va_rf ((ex_uf F (ex_fi ci k) a 0 x) (ex_fi ci j) a 0)) = ((List.range (ex_nf ci)).map (fun j => if ex_it ci j = true then Value.int (I (ex_fi ci j) a 0) else va_rf (F (ex_fi ci j) a 0))).set k (ex_v (.inr x)) := by
    refine ex_fs_set (by rw [hN]; exact hk) (fun j hj => ?_) ?_
    · have hne : ex_fi ci j ≠ ex_fi ci k := by unfold ex_fi; omega
      simp only [ex_uf_f F _ _ _ hne]
    · simp only [ex_uf_eq, hit, if_true, ex_v, Bool.false_eq_true, if_false]
  rw [e]
  exact hat1
theorem ex_putFi {C nm ds : String} {T : u_T} {N ci index f : Nat} {ty0 : Nat → FieldType} (k : Nat) {a : Nat} {r : Option Nat} {x : Int32} (hdg : decode M.2.2.1 pc = .ok (.putfield index, 3)) (hc : vwCl[ci]? = some (C, T, N)) (hci : ci < 20) (hN : ex_nf ci = N) (hk : k < N) (hT : T k = (C, nm, ds, true)) (hit : ex_it ci k = true) (hf : ex_fi ci k = f) (hin : ∀ w ∈ u_ws C T N, w ∈ M.2.2.2.2.2) (hlink : Cond.fieldLink M.1 index C nm ds ∈ M.2.2.2.2.2) (hini : M.2.1.name = "<init>") (hdecl : C = M.1) (hty : ∀ k, k < N → parseFieldDescriptor (T k).2.2.1 = some (ty0 k)) (hnm : ∀ a, a < N → ∀ b, b < N → a ≠ b → (T a).2.1 ≠ (T b).2.1) (hn : narrow (ty0 k) (ex_v (.inl x)) = ex_v (.inl x)) (hfit : fits (ty0 k) (ex_v (.inl x)) = true) (hr : r = some a) (ha : (K a).1 = ci + 1) (kk : ex_E Γ d M (pc + 3) lv st K (ex_ui I f a 0 x) F b Q) : ex_E Γ d M pc lv (.inl x :: .inr r :: st) K I F b Q := by
  intro p e R s m args below meth c A H locs cells slots mc ms ls hC hL hP hA hS h1 h2 h3 h4
  have hC0 := hC
  obtain ⟨c1, c2, c3, c4, c5, c6, c7, c8, c9, c10, c11, c12, c13⟩ := hC
  subst hr
  subst hf
  have hat := hP a (by omega)
  rw [ex_ent_o ha hci] at hat
  refine ex_put0F (C := C) (T := T) (N := N) (ref := C) (v := ex_v (.inl x)) c1 c2 c5 hin ty0 hty hnm c4 c11 hat hc k hk (by rw [hT]; exact c5 _ hlink) (fun x hx => by rw [hT] at hx ⊢; exact hx) (by rw [hT]) (c8.trans hini) (by rw [hT]; exact hdecl) (hty k hk) hn hfit (by rw [hN]; simpa using hk) hdg (fun H1 sl hat1 hz oq => ?_)
  refine kk p e R s m args below meth c A H1 _ cells slots mc ms ls hC0 hL (ex_P_put hP (fun q hq => ex_ui_ne I _ 0 x hq) (fun _ _ _ => rfl) ?_ oq) hA (hS.put hz oq (hA a (by omega))) h1 h2 h3 h4
  rw [ex_ent_o ha hci]
  have e : (List.range (ex_nf ci)).map (fun j => if ex_it ci j = true then Value.int ((ex_ui I (ex_fi ci k) a 0 x) (ex_fi ci j) a 0) else va_rf ((F) (ex_fi ci j) a 0)) = ((List.range (ex_nf ci)).map (fun j => if ex_it ci j = true then Value.int (I (ex_fi ci j) a 0) else va_rf (F (ex_fi ci j) a 0))).set k (ex_v (.inl x)) := by
    refine ex_fs_set (by rw [hN]; exact hk) (fun j hj => ?_) ?_
    · have hne : ex_fi ci j ≠ ex_fi ci k := by unfold ex_fi; omega
      simp only [ex_ui_f I _ _ _ hne]
    · simp only [ex_ui_eq, hit, if_true, ex_v, Bool.false_eq_true, if_false]
  rw [e]
  exact hat1
theorem ex_putFr {C nm ds : String} {T : u_T} {N ci index f : Nat} {ty0 : Nat → FieldType} (k : Nat) {a : Nat} {r : Option Nat} {x : Option Nat} (hdg : decode M.2.2.1 pc = .ok (.putfield index, 3)) (hc : vwCl[ci]? = some (C, T, N)) (hci : ci < 20) (hN : ex_nf ci = N) (hk : k < N) (hT : T k = (C, nm, ds, true)) (hit : ex_it ci k = false) (hf : ex_fi ci k = f) (hin : ∀ w ∈ u_ws C T N, w ∈ M.2.2.2.2.2) (hlink : Cond.fieldLink M.1 index C nm ds ∈ M.2.2.2.2.2) (hini : M.2.1.name = "<init>") (hdecl : C = M.1) (hty : ∀ k, k < N → parseFieldDescriptor (T k).2.2.1 = some (ty0 k)) (hnm : ∀ a, a < N → ∀ b, b < N → a ≠ b → (T a).2.1 ≠ (T b).2.1) (hn : narrow (ty0 k) (ex_v (.inr x)) = ex_v (.inr x)) (hfit : fits (ty0 k) (ex_v (.inr x)) = true) (hr : r = some a) (ha : (K a).1 = ci + 1) (kk : ex_E Γ d M (pc + 3) lv st K I (ex_uf F f a 0 x) b Q) : ex_E Γ d M pc lv (.inr x :: .inr r :: st) K I F b Q := by
  intro p e R s m args below meth c A H locs cells slots mc ms ls hC hL hP hA hS h1 h2 h3 h4
  have hC0 := hC
  obtain ⟨c1, c2, c3, c4, c5, c6, c7, c8, c9, c10, c11, c12, c13⟩ := hC
  subst hr
  subst hf
  have hat := hP a (by omega)
  rw [ex_ent_o ha hci] at hat
  refine ex_put0F (C := C) (T := T) (N := N) (ref := C) (v := ex_v (.inr x)) c1 c2 c5 hin ty0 hty hnm c4 c11 hat hc k hk (by rw [hT]; exact c5 _ hlink) (fun x hx => by rw [hT] at hx ⊢; exact hx) (by rw [hT]) (c8.trans hini) (by rw [hT]; exact hdecl) (hty k hk) hn hfit (by rw [hN]; simpa using hk) hdg (fun H1 sl hat1 hz oq => ?_)
  refine kk p e R s m args below meth c A H1 _ cells slots mc ms ls hC0 hL (ex_P_put hP (fun _ _ _ => rfl) (fun q hq => ex_uf_ne F _ 0 x hq) ?_ oq) hA (hS.put hz oq (hA a (by omega))) h1 h2 h3 h4
  rw [ex_ent_o ha hci]
  have e : (List.range (ex_nf ci)).map (fun j => if ex_it ci j = true then Value.int ((I) (ex_fi ci j) a 0) else va_rf ((ex_uf F (ex_fi ci k) a 0 x) (ex_fi ci j) a 0)) = ((List.range (ex_nf ci)).map (fun j => if ex_it ci j = true then Value.int (I (ex_fi ci j) a 0) else va_rf (F (ex_fi ci j) a 0))).set k (ex_v (.inr x)) := by
    refine ex_fs_set (by rw [hN]; exact hk) (fun j hj => ?_) ?_
    · have hne : ex_fi ci j ≠ ex_fi ci k := by unfold ex_fi; omega
      simp only [ex_uf_f F _ _ _ hne]
    · simp only [ex_uf_eq, hit, if_true, ex_v, Bool.false_eq_true, if_false]
  rw [e]
  exact hat1
theorem ex_iaload {a : Nat} {r : Option Nat} {i : Int32} (hdg : decode M.2.2.1 pc = .ok (.iaload, 1)) (hr : r = some a) (ha : (K a).1 = 21) (hi : vp_in i (K a).2) (kk : ex_E Γ d M (pc + 1) lv (.inl (I 21 a i.toNatClampNeg) :: st) K I F b Q) : ex_E Γ d M pc lv (.inl i :: .inr r :: st) K I F b Q := by
  intro p e R s m args below meth c A H locs cells slots mc ms ls hC hL hP hA hS h1 h2 h3 h4
  have hC0 := hC
  obtain ⟨c1, c2, c3, c4, c5, c6, c7, c8, c9, c10, c11, c12, c13⟩ := hC
  subst hr
  have hat := hP a (by omega)
  rw [ex_ent_i ha (by omega) (by omega)] at hat
  exact va_iald c1 c2 c11 (ex_one hat) 0 0 rfl rfl hi hdg (kk p e R s m args below meth c A H locs cells slots mc ms ls hC0 hL hP hA hS h1 h2 h3 h4)
theorem ex_caload {a : Nat} {r : Option Nat} {i : Int32} (hdg : decode M.2.2.1 pc = .ok (.caload, 1)) (hr : r = some a) (ha : (K a).1 = 22) (hi : vp_in i (K a).2) (kk : ex_E Γ d M (pc + 1) lv (.inl (I 22 a i.toNatClampNeg) :: st) K I F b Q) : ex_E Γ d M pc lv (.inl i :: .inr r :: st) K I F b Q := by
  intro p e R s m args below meth c A H locs cells slots mc ms ls hC hL hP hA hS h1 h2 h3 h4
  have hC0 := hC
  obtain ⟨c1, c2, c3, c4, c5, c6, c7, c8, c9, c10, c11, c12, c13⟩ := hC
  subst hr
  have hat := hP a (by omega)
  rw [ex_ent_i ha (by omega) (by omega)] at hat
  exact va_cald c1 c2 c11 (ex_one hat) 0 1 rfl rfl hi hdg (kk p e R s m args below meth c A H locs cells slots mc ms ls hC0 hL hP hA hS h1 h2 h3 h4)
theorem ex_baload {a : Nat} {r : Option Nat} {i : Int32} (hdg : decode M.2.2.1 pc = .ok (.baload, 1)) (hr : r = some a) (ha : (K a).1 = 23) (hi : vp_in i (K a).2) (kk : ex_E Γ d M (pc + 1) lv (.inl (I 23 a i.toNatClampNeg) :: st) K I F b Q) : ex_E Γ d M pc lv (.inl i :: .inr r :: st) K I F b Q := by
  intro p e R s m args below meth c A H locs cells slots mc ms ls hC hL hP hA hS h1 h2 h3 h4
  have hC0 := hC
  obtain ⟨c1, c2, c3, c4, c5, c6, c7, c8, c9, c10, c11, c12, c13⟩ := hC
  subst hr
  have hat := hP a (by omega)
  rw [ex_ent_i ha (by omega) (by omega)] at hat
  exact va_zald c1 c2 c11 (ex_one hat) 0 2 rfl rfl hi hdg (kk p e R s m args below meth c A H locs cells slots mc ms ls hC0 hL hP hA hS h1 h2 h3 h4)
theorem ex_aaload {C : String} {kd t0 : Nat} {a : Nat} {r : Option Nat} {i : Int32} (hdg : decode M.2.2.1 pc = .ok (.aaload, 1)) (hkd : 31 ≤ kd) (ht : (ex_tys Γ)[t0]? = some (Γ.2.2.1 kd, .object C)) (hr : r = some a) (ha : (K a).1 = kd) (hi : vp_in i (K a).2) (kk : ex_E Γ d M (pc + 1) lv (.inr (F kd a i.toNatClampNeg) :: st) K I F b Q) : ex_E Γ d M pc lv (.inl i :: .inr r :: st) K I F b Q := by
  intro p e R s m args below meth c A H locs cells slots mc ms ls hC hL hP hA hS h1 h2 h3 h4
  have hC0 := hC
  obtain ⟨c1, c2, c3, c4, c5, c6, c7, c8, c9, c10, c11, c12, c13⟩ := hC
  subst hr
  have hat := hP a (by omega)
  rw [ex_ent_r ha hkd] at hat
  exact va_aldq c1 c2 c11 (ex_one hat) 0 t0 rfl ht hi hdg (kk p e R s m args below meth c A H locs cells slots mc ms ls hC0 hL hP hA hS h1 h2 h3 h4)
theorem ex_alen {kd t0 : Nat} {ty : FieldType} {a : Nat} {r : Option Nat} {v : Int32} (hdg : decode M.2.2.1 pc = .ok (.arraylength, 1)) (hkd : 21 ≤ kd) (ht : (ex_tys Γ)[t0]? = some (Γ.2.2.1 kd, ty)) (hr : r = some a) (ha : (K a).1 = kd) (hv : Int32.ofNat (K a).2 = v) (kk : ex_E Γ d M (pc + 1) lv (.inl v :: st) K I F b Q) : ex_E Γ d M pc lv (.inr r :: st) K I F b Q := by
  intro p e R s m args below meth c A H locs cells slots mc ms ls hC hL hP hA hS h1 h2 h3 h4
  have hC0 := hC
  obtain ⟨c1, c2, c3, c4, c5, c6, c7, c8, c9, c10, c11, c12, c13⟩ := hC
  subst hr
  have hat := hP a (by omega)
  have kk1 := kk p e R s m args below meth c A H locs cells slots mc ms ls hC0 hL hP hA hS h1 h2 h3 h4
  by_cases z : kd < 31
  · rw [ex_ent_i ha hkd z] at hat
    exact va_alen c1 c2 c11 (ex_one hat) 0 t0 rfl ht hv hdg kk1
  · rw [ex_ent_r ha (by omega)] at hat
    exact va_alen c1 c2 c11 (ex_one hat) 0 t0 rfl ht hv hdg kk1
theorem ex_iastore {a : Nat} {r : Option Nat} {i x : Int32} (hdg : decode M.2.2.1 pc = .ok (.iastore, 1)) (hr : r = some a) (ha : (K a).1 = 21) (hi : vp_in i (K a).2) (kk : ex_E Γ d M (pc + 1) lv st K (ex_ui I 21 a i.toNatClampNeg (x)) F b Q) : ex_E Γ d M pc lv (.inl x :: .inl i :: .inr r :: st) K I F b Q := by
  intro p e R s m args below meth c A H locs cells slots mc ms ls hC hL hP hA hS h1 h2 h3 h4
  have hC0 := hC
  obtain ⟨c1, c2, c3, c4, c5, c6, c7, c8, c9, c10, c11, c12, c13⟩ := hC
  subst hr
  have hat := hP a (by omega)
  rw [ex_ent_i ha (by omega) (by omega)] at hat
  refine W.iast c1 c2 hat ((c11.2 0 _ rfl).1 (K a).2 (fun j => .int (I 21 a j))) (fun q => by cases q) (by show ¬ (i < 0 ∨ (arrV _ _ _).slots.size ≤ _); rw [arrV_size]; exact hi) rfl rfl hdg fun H1 e1 z oq => ?_
  refine kk p e R s m args below meth c A H1 _ cells slots mc ms ls hC0 hL (ex_P_put hP (fun q hq => ex_ui_ne I _ _ _ hq) (fun _ _ _ => rfl) ?_ oq) hA (hS.put z oq (hA a (by omega))) h1 h2 h3 h4
  rw [ex_ent_i ha (by omega) (by omega)]
  show H1[a]? = some (vp_cell _ _)
  refine Eq.trans e1 ?_
  rw [vp_cell_i, vp_cell_i, arrV_store]
  congr 2
  funext q
  by_cases hq : q = i.toNatClampNeg
  · subst hq
    simp [updV, ex_ui_at, vp_nar]
    try rfl
  · simp [updV, ex_ui_at, hq]
theorem ex_castore {a : Nat} {r : Option Nat} {i x : Int32} (hdg : decode M.2.2.1 pc = .ok (.castore, 1)) (hr : r = some a) (ha : (K a).1 = 22) (hi : vp_in i (K a).2) (kk : ex_E Γ d M (pc + 1) lv st K (ex_ui I 22 a i.toNatClampNeg (vp_nar .char x)) F b Q) : ex_E Γ d M pc lv (.inl x :: .inl i :: .inr r :: st) K I F b Q := by
  intro p e R s m args below meth c A H locs cells slots mc ms ls hC hL hP hA hS h1 h2 h3 h4
  have hC0 := hC
  obtain ⟨c1, c2, c3, c4, c5, c6, c7, c8, c9, c10, c11, c12, c13⟩ := hC
  subst hr
  have hat := hP a (by omega)
  rw [ex_ent_i ha (by omega) (by omega)] at hat
  refine W.cast c1 c2 hat ((c11.2 1 _ rfl).1 (K a).2 (fun j => .int (I 22 a j))) (fun q => by cases q) (by show ¬ (i < 0 ∨ (arrV _ _ _).slots.size ≤ _); rw [arrV_size]; exact hi) rfl rfl hdg fun H1 e1 z oq => ?_
  refine kk p e R s m args below meth c A H1 _ cells slots mc ms ls hC0 hL (ex_P_put hP (fun q hq => ex_ui_ne I _ _ _ hq) (fun _ _ _ => rfl) ?_ oq) hA (hS.put z oq (hA a (by omega))) h1 h2 h3 h4
  rw [ex_ent_i ha (by omega) (by omega)]
  show H1[a]? = some (vp_cell _ _)
  refine Eq.trans e1 ?_
  rw [vp_cell_i, vp_cell_i, arrV_store]
  congr 2
  funext q
  by_cases hq : q = i.toNatClampNeg
  · subst hq
    simp [updV, ex_ui_at, vp_nar]
    try rfl
  · simp [updV, ex_ui_at, hq]
theorem ex_bastore {a : Nat} {r : Option Nat} {i x : Int32} (hdg : decode M.2.2.1 pc = .ok (.bastore, 1)) (hr : r = some a) (ha : (K a).1 = 23) (hi : vp_in i (K a).2) (kk : ex_E Γ d M (pc + 1) lv st K (ex_ui I 23 a i.toNatClampNeg (vp_nar .boolean x)) F b Q) : ex_E Γ d M pc lv (.inl x :: .inl i :: .inr r :: st) K I F b Q := by
  intro p e R s m args below meth c A H locs cells slots mc ms ls hC hL hP hA hS h1 h2 h3 h4
  have hC0 := hC
  obtain ⟨c1, c2, c3, c4, c5, c6, c7, c8, c9, c10, c11, c12, c13⟩ := hC
  subst hr
  have hat := hP a (by omega)
  rw [ex_ent_i ha (by omega) (by omega)] at hat
  refine W.zast c1 c2 hat ((c11.2 2 _ rfl).1 (K a).2 (fun j => .int (I 23 a j))) (fun q => by cases q) (by show ¬ (i < 0 ∨ (arrV _ _ _).slots.size ≤ _); rw [arrV_size]; exact hi) rfl rfl hdg fun H1 e1 z oq => ?_
  refine kk p e R s m args below meth c A H1 _ cells slots mc ms ls hC0 hL (ex_P_put hP (fun q hq => ex_ui_ne I _ _ _ hq) (fun _ _ _ => rfl) ?_ oq) hA (hS.put z oq (hA a (by omega))) h1 h2 h3 h4
  rw [ex_ent_i ha (by omega) (by omega)]
  show H1[a]? = some (vp_cell _ _)
  refine Eq.trans e1 ?_
  rw [vp_cell_i, vp_cell_i, arrV_store]
  congr 2
  funext q
  by_cases hq : q = i.toNatClampNeg
  · subst hq
    simp [updV, ex_ui_at, vp_nar]
    try rfl
  · simp [updV, ex_ui_at, hq]
theorem ex_aastore {C : String} {T : u_T} {N ci kd t0 : Nat} {a : Nat} {r x : Option Nat} {i : Int32} (hdg : decode M.2.2.1 pc = .ok (.aastore, 1)) (hkd : 31 ≤ kd) (ht : (ex_tys Γ)[t0]? = some (Γ.2.2.1 kd, .object C)) (hc : vwCl[ci]? = some (C, T, N)) (hci : ci < 20) (hr : r = some a) (ha : (K a).1 = kd) (hx : ∀ y, x = some y → (K y).1 = ci + 1) (hi : vp_in i (K a).2) (kk : ex_E Γ d M (pc + 1) lv st K I (ex_uf F kd a i.toNatClampNeg x) b Q) : ex_E Γ d M pc lv (.inr x :: .inl i :: .inr r :: st) K I F b Q := by
  intro p e R s m args below meth c A H locs cells slots mc ms ls hC hL hP hA hS h1 h2 h3 h4
  have hC0 := hC
  obtain ⟨c1, c2, c3, c4, c5, c6, c7, c8, c9, c10, c11, c12, c13⟩ := hC
  subst hr
  have hat := hP a (by omega)
  rw [ex_ent_r ha hkd] at hat
  have hlt : i.toNatClampNeg < (K a).2 := Nat.not_le.mp fun q => hi (Or.inr q)
  have h0 : ¬ i < 0 := fun q => hi (Or.inl q)
  have fin : ∀ H1 : Heap, H1[a]? = some ((vp_cell (Γ.2.2.1 kd) ((K a).2, .inr (.inr (.inr (.inr (F kd a)))))).setSlot i.toNatClampNeg (va_rf x)) → H1.size = H.size → (∀ q, q ≠ a → H1[q]? = H[q]?) → W p Γ.1 e R s m args below meth c H1 (locs ++ [⟨a, i.toNatClampNeg⟩]) cells slots (MQ below (ex_Q Γ Q A) args s mc ms A) (F0 m (pc + 1) ls (st.map ex_v)) := by
    intro H1 e1 z oq
    refine kk p e R s m args below meth c A H1 _ cells slots mc ms ls hC0 hL (ex_P_put hP (fun _ _ _ => rfl) (fun q hq => ex_uf_ne F _ _ _ hq) ?_ oq) hA (hS.put z oq (hA a (by omega))) h1 h2 h3 h4
    rw [ex_ent_r ha hkd]
    show H1[a]? = some (vp_cell _ _)
    rw [e1]
    rw [vp_cell_q, vp_cell_q, arrV_store]
    congr 2
    funext q
    by_cases hq : q = i.toNatClampNeg
    · subst hq
      simp [updV, ex_uf_at]
    · simp [updV, ex_uf_at, hq]
  cases x with
  | none => exact va_WaastN (C := C) c1 c2 hat ((c11.2 t0 _ ht).1 (K a).2 (fun j => va_rf (F kd a j))) (fun h => by cases h) (by show ¬ (i < 0 ∨ (arrV _ _ _).slots.size ≤ _); rw [arrV_size]; exact hi) rfl rfl hdg fin
  | some y =>
    have hy := hx y rfl
    have hat2 := hP y (by omega)
    rw [ex_ent_o hy hci] at hat2
    obtain ⟨r', hr', cellV, g1, g2, g3, -⟩ := hat2
    have hcls := (c11.1 ci _ hc).2
    obtain ⟨kA, comp, k1, k2, k3, -⟩ := (c11.2 t0 _ ht).2
    have hcomp : comp = Γ.2.1.1 ci := Option.some.inj (k3.symm.trans hcls.1)
    subst hcomp
    obtain ⟨kC, hkC, -⟩ := hcls.2
    exact W.aast c1 c2 hat (fun q h => by cases h) (fun h => by cases h) k1 k2 rfl hkC ⟨h0, by show _ < (arrV _ _ _).slots.size; rw [arrV_size]; exact hlt⟩ g1 (fun q h => by rw [g3] at h; cases h) (by rw [g2]; exact hkC) (by rw [g2]; exact va_assign hcls) rfl rfl hdg fin
theorem ex_new {C : String} {T : u_T} {N ci index : Nat} (ty : Nat → FieldType) (hdg : decode M.2.2.1 pc = .ok (.new index, 3)) (hc : vwCl[ci]? = some (C, T, N)) (hci : ci < 20) (hN : ex_nf ci = N) (hN4 : N ≤ 400) (hty : ∀ k, k < N → parseFieldDescriptor (T k).2.2.1 = some (ty k)) (hdf : ∀ k, k < N → defaultValue (ty k) = if ex_it ci k = true then Value.int 0 else va_rf none) (hin : ∀ w ∈ u_ws C T N, w ∈ M.2.2.2.2.2) (hcl : Cond.classLink M.1 index C ∈ M.2.2.2.2.2) (hinst : Cond.instantiable C N ∈ M.2.2.2.2.2) (hini : Cond.initialized C ∈ M.2.2.2.2.2)
    (kk : ∀ a, (K a).1 = 0 → ex_E Γ d M (pc + 3) lv (.inr (some a) :: st) (ex_nk K a (ci + 1) 0) (ex_ni I a) (ex_nr F a) b Q) : ex_E Γ d M pc lv st K I F (b + 1) Q := by
  intro p e R s m args below meth c A H locs cells slots mc ms ls hC hL hP hA hS h1 h2 h3 h4
  have hC0 := hC
  obtain ⟨c1, c2, c3, c4, c5, c6, c7, c8, c9, c10, c11, c12, c13⟩ := hC
  have hKn := c11.1 ci _ hc
  refine W.newcK c1 c2 c4 (c5 _ hcl) (c5 _ hinst) (c5 _ hini) rfl hdg (by omega) (by omega) hKn.2.1 rfl fun H1 kC hkC e1 z1 o1 => ?_
  have hf := ex_P_fresh hP
  refine kk H.size hf p e R s m args below meth c A H1 locs (cells + 1) (slots + N) mc ms ls hC0 hL (ex_P_new hP ?_ o1) (fun q hq => ?_) ⟨Nat.le_trans hS.1 (by omega), fun x g1 g2 => (o1 x (Nat.lt_of_lt_of_le g1 hS.1)).trans (hS.2.1 x g1 g2), hS.2.2⟩ (by omega) (by omega) h3 h4
  · rw [ex_ent_o (ci := ci) (by rw [ex_nk_at]) hci]
    refine ⟨_, hc, (u_born ty c5 hin hKn hkC e1 hty).to (fun k hk => ?_)⟩
    rw [hdf k hk]
    simp only [vp_V, List.getD_eq_getElem?_getD]
    rw [ex_fs (by rw [hN]; exact hk)]
    simp only [ex_ni_at, ex_nr_at, Option.getD_some]
  · by_cases z : q = H.size
    · rw [z]
      exact c12 _ hS.1
    · rw [ex_nk_ne K _ _ z] at hq
      exact hA q hq
theorem ex_newa {atype : ArrayType} {ty : FieldType} {kd t0 N : Nat} {n : Int32} (hdg : decode M.2.2.1 pc = .ok (.newarray atype, 2)) (hty : newarray.typeOf atype = ty) (hkd : 21 ≤ kd) (hkd2 : kd < 31) (ht : (ex_tys Γ)[t0]? = some (Γ.2.2.1 kd, ty)) (hra : ∀ (U : State) (cA : ClassId), va_RA U cA ty → U.vm.findClass ("[" ++ ty.toString) = some cA) (hdf : defaultValue ty = .int 0) (harr : Cond.arrayClass ty ∈ M.2.2.2.2.2) (hn : ¬ n < 0) (hN : n.toNatClampNeg = N) (hN4 : N ≤ 400) (hby : N * componentBytes ty ≤ 536870912)
    (kk : ∀ a, (K a).1 = 0 → ex_E Γ d M (pc + 2) lv (.inr (some a) :: st) (ex_nk K a kd N) (ex_ni I a) (ex_nr F a) b Q) : ex_E Γ d M pc lv (.inl n :: st) K I F (b + 1) Q := by
  intro p e R s m args below meth c A H locs cells slots mc ms ls hC hL hP hA hS h1 h2 h3 h4
  have hC0 := hC
  obtain ⟨c1, c2, c3, c4, c5, c6, c7, c8, c9, c10, c11, c12, c13⟩ := hC
  subst hty
  refine va_newaK c1 c2 (c5 _ harr) rfl hdg rfl hn hN hby (by omega) (by omega) rfl fun H1 cA e1 z1 o1 hAr hNm => ?_
  have hf := ex_P_fresh hP
  have hcA : cA = Γ.2.2.1 kd := Option.some.inj (hNm.symm.trans (hra s _ (c11.2 t0 _ ht).2))
  subst hcA
  refine kk H.size hf p e R s m args below meth c A H1 locs (cells + 1) (slots + N) mc ms ls hC0 hL (ex_P_new hP ?_ o1) (fun q hq => ?_) ⟨Nat.le_trans hS.1 (by omega), fun x g1 g2 => (o1 x (Nat.lt_of_lt_of_le g1 hS.1)).trans (hS.2.1 x g1 g2), hS.2.2⟩ (by omega) (by omega) h3 h4
  · rw [ex_ent_i (k := kd) (by rw [ex_nk_at]) hkd hkd2]
    show H1[H.size]? = some (vp_cell _ _)
    rw [vp_cell_i, e1, hdf]
    simp only [ex_ni_at, ex_nk_at]
  · by_cases z : q = H.size
    · rw [z]
      exact c12 _ hS.1
    · rw [ex_nk_ne K _ _ z] at hq
      exact hA q hq
theorem ex_anewa {C : String} {index kd t0 N : Nat} {n : Int32} (hdg : decode M.2.2.1 pc = .ok (.anewarray index, 3)) (hkd : 31 ≤ kd) (ht : (ex_tys Γ)[t0]? = some (Γ.2.2.1 kd, .object C)) (hcl : Cond.classLink M.1 index C ∈ M.2.2.2.2.2) (hov : C ∈ ex_AO) (hn : ¬ n < 0) (hN : n.toNatClampNeg = N) (hN4 : N ≤ 400)
    (kk : ∀ a, (K a).1 = 0 → ex_E Γ d M (pc + 3) lv (.inr (some a) :: st) (ex_nk K a kd N) (ex_ni I a) (ex_nr F a) b Q) : ex_E Γ d M pc lv (.inl n :: st) K I F (b + 1) Q := by
  intro p e R s m args below meth c A H locs cells slots mc ms ls hC hL hP hA hS h1 h2 h3 h4
  have hC0 := hC
  obtain ⟨c1, c2, c3, c4, c5, c6, c7, c8, c9, c10, c11, c12, c13⟩ := hC
  subst hN
  refine W.anew c1 c2 c4 (c5 _ hcl) (va_AO.use (c13.2.2.1 _ hov)) rfl hdg rfl hn (by omega) (by omega) (by omega) fun cA kA comp f1 f2 f3 f4 => ?_
  obtain ⟨kA', comp', -, -, -, g4⟩ := (c11.2 t0 _ ht).2
  have hcA : cA = Γ.2.2.1 kd := Option.some.inj (f1.symm.trans g4)
  subst hcA
  generalize hH1 : H.push ({ cls := Γ.2.2.1 kd, slots := Array.replicate n.toNatClampNeg .null, vm := .none } : Cell) = H1
  have z1 : H1.size = H.size + 1 := by rw [← hH1, Array.size_push]
  have e1 : H1[H.size]? = some (arrV (Γ.2.2.1 kd) n.toNatClampNeg (fun _ => .null)) := by rw [← hH1, Array.getElem?_push_size, ← arrV_new]
  have o1 : ∀ q : Nat, q < H.size → H1[q]? = H[q]? := fun q hq => by rw [← hH1, Array.getElem?_push, if_neg (Nat.ne_of_lt hq)]
  have hf := ex_P_fresh hP
  refine kk H.size hf p e R s m args below meth c A H1 locs (cells + 1) (slots + n.toNatClampNeg) mc ms ls hC0 hL (ex_P_new hP ?_ o1) (fun q hq => ?_) ⟨Nat.le_trans hS.1 (by omega), fun x g1 g2 => (o1 x (Nat.lt_of_lt_of_le g1 hS.1)).trans (hS.2.1 x g1 g2), hS.2.2⟩ (by omega) (by omega) h3 h4
  · rw [ex_ent_r (k := kd) (by rw [ex_nk_at]) hkd]
    show H1[H.size]? = some (vp_cell _ _)
    rw [vp_cell_q, e1]
    simp only [ex_nr_at, ex_nk_at]
    rfl
  · by_cases z : q = H.size
    · rw [z]
      exact c12 _ hS.1
    · rw [ex_nk_ne K _ _ z] at hq
      exact hA q hq
end EXH
