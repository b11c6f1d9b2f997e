/-! Seen from above: a heap as three functions (kind and length of a cell, its ints, its references); ex_E: from here on the method returns with Q. -/
abbrev ex_V : Type := Int32 ⊕ Option Nat
abbrev ex_K : Type := Nat → Nat × Nat
abbrev ex_I : Type := Nat → Nat → Nat → Int32
abbrev ex_F : Type := Nat → Nat → Nat → Option Nat
/-- the number of field j of class ci -/
def ex_fi (ci j : Nat) : Nat := 100 + 64 * ci + j
abbrev ex_M : Type := String × MethodName × ByteArray × Nat × Option FieldType × List Cond
/-- launch, classes, array classes, texts, their bytes, the script -/
abbrev ex_G : Type := Launch × va_G × (Nat → ClassId) × (Nat → Nat) × (Nat → Nat) × Nat × Nat × (Nat → Int32)
def ex_v (v : ex_V) : Value := match v with
  | .inl x => .int x
  | .inr r => va_rf r
theorem ex_cat (v : ex_V) : (ex_v v).category = 1 := by
  rcases v with x | r
  · rfl
  · cases r <;> rfl
theorem ex_cats : ∀ st : List ex_V, ((st.map ex_v).map fun v => v.category).sum = st.length := by
  intro st
  induction st with
  | nil => rfl
  | cons v st ih => simp only [List.map_cons, List.sum_cons, ih, ex_cat, List.length_cons]; omega
def ex_ent (dA : Nat → ClassId) (K : ex_K) (I : ex_I) (F : ex_F) (a : Nat) : va_E :=
  if (K a).1 < 21 then .inr ((K a).1 - 1, (List.range (ex_nf ((K a).1 - 1))).map (fun j => if ex_it ((K a).1 - 1) j = true then Value.int (I (ex_fi ((K a).1 - 1) j) a 0) else va_rf (F (ex_fi ((K a).1 - 1) j) a 0)))
  else if (K a).1 < 31 then .inl (dA (K a).1, (K a).2, .inl (I (K a).1 a))
  else .inl (dA (K a).1, (K a).2, .inr (.inr (.inr (.inr (F (K a).1 a)))))
theorem ex_ent_o {dA : Nat → ClassId} {K : ex_K} {I : ex_I} {F : ex_F} {a ci : Nat} (h : (K a).1 = ci + 1) (hc : ci < 20) : ex_ent dA K I F a = .inr (ci, (List.range (ex_nf ci)).map (fun j => if ex_it ci j = true then Value.int (I (ex_fi ci j) a 0) else va_rf (F (ex_fi ci j) a 0))) := by
  unfold ex_ent
  rw [if_pos (by omega), h]
  rfl
theorem ex_ent_i {dA : Nat → ClassId} {K : ex_K} {I : ex_I} {F : ex_F} {a k : Nat} (h : (K a).1 = k) (h1 : 21 ≤ k) (h2 : k < 31) : ex_ent dA K I F a = .inl (dA k, (K a).2, .inl (I k a)) := by
  unfold ex_ent
  rw [if_neg (by omega), if_pos (by omega), h]
theorem ex_ent_r {dA : Nat → ClassId} {K : ex_K} {I : ex_I} {F : ex_F} {a k : Nat} (h : (K a).1 = k) (h1 : 31 ≤ k) : ex_ent dA K I F a = .inl (dA k, (K a).2, .inr (.inr (.inr (.inr (F k a))))) := by
  unfold ex_ent
  rw [if_neg (by omega), if_neg (by omega), h]
def ex_P (Γ : ex_G) (K : ex_K) (I : ex_I) (F : ex_F) (H : Heap) : Prop := ∀ a, (K a).1 ≠ 0 → va_at Γ.2.1 vwCl (a, ex_ent Γ.2.2.1 K I F a) H
def ex_A (K : ex_K) (sz : Nat) : Nat → Prop := fun q => (K q).1 ≠ 0 ∨ sz ≤ q
/-- writes -/
def ex_ui (I : ex_I) (f a i : Nat) (x : Int32) : ex_I := fun g => if g = f then (fun q => if q = a then (fun j => if j = i then x else I f a j) else I f q) else I g
def ex_uf (F : ex_F) (f a i : Nat) (x : Option Nat) : ex_F := fun g => if g = f then (fun q => if q = a then (fun j => if j = i then x else F f a j) else F f q) else F g
/-- a new cell -/
def ex_nk (K : ex_K) (a k n : Nat) : ex_K := fun q => if q = a then (k, n) else K q
def ex_ni (I : ex_I) (a : Nat) : ex_I := fun f q => if q = a then (fun _ => 0) else I f q
def ex_nr (F : ex_F) (a : Nat) : ex_F := fun f q => if q = a then (fun _ => none) else F f q
theorem ex_ui_at (I : ex_I) (f a i : Nat) (x : Int32) : ex_ui I f a i x f a = fun j => if j = i then x else I f a j := by simp only [ex_ui, if_true]
theorem ex_ui_eq (I : ex_I) (f a i : Nat) (x : Int32) : ex_ui I f a i x f a i = x := by simp only [ex_ui, if_true]
theorem ex_ui_f (I : ex_I) {f g : Nat} (a i : Nat) (x : Int32) (h : g ≠ f) : ex_ui I f a i x g = I g := if_neg h
theorem ex_ui_ne (I : ex_I) (f : Nat) {a q : Nat} (i : Nat) (x : Int32) (h : q ≠ a) (g : Nat) : ex_ui I f a i x g q = I g q := by
  by_cases z : g = f
  · subst z
    simp only [ex_ui, if_true, if_neg h]
  · rw [ex_ui_f I a i x z]
theorem ex_uf_at (F : ex_F) (f a i : Nat) (x : Option Nat) : ex_uf F f a i x f a = fun j => if j = i then x else F f a j := by simp only [ex_uf, if_true]
theorem ex_uf_eq (F : ex_F) (f a i : Nat) (x : Option Nat) : ex_uf F f a i x f a i = x := by simp only [ex_uf, if_true]
theorem ex_uf_f (F : ex_F) {f g : Nat} (a i : Nat) (x : Option Nat) (h : g ≠ f) : ex_uf F f a i x g = F g := if_neg h
theorem ex_uf_ne (F : ex_F) (f : Nat) {a q : Nat} (i : Nat) (x : Option Nat) (h : q ≠ a) (g : Nat) : ex_uf F f a i x g q = F g q := by
  by_cases z : g = f
  · subst z
    simp only [ex_uf, if_true, if_neg h]
  · rw [ex_uf_f F a i x z]
theorem ex_nk_at (K : ex_K) (a k n : Nat) : ex_nk K a k n a = (k, n) := if_pos rfl
theorem ex_nk_ne (K : ex_K) {a q : Nat} (k n : Nat) (h : q ≠ a) : ex_nk K a k n q = K q := if_neg h
theorem ex_ni_at (I : ex_I) (a f : Nat) : ex_ni I a f a = fun _ => 0 := if_pos rfl
theorem ex_ni_ne (I : ex_I) {a q : Nat} (h : q ≠ a) (f : Nat) : ex_ni I a f q = I f q := if_neg h
theorem ex_nr_at (F : ex_F) (a f : Nat) : ex_nr F a f a = fun _ => none := if_pos rfl
theorem ex_nr_ne (F : ex_F) {a q : Nat} (h : q ≠ a) (f : Nat) : ex_nr F a f q = F f q := if_neg h
theorem ex_P_put {Γ : ex_G} {K : ex_K} {I I' : ex_I} {F F' : ex_F} {H H1 : Heap} {a : Nat} (hP : ex_P Γ K I F H) (hI : ∀ q, q ≠ a → ∀ f, I' f q = I f q) (hF : ∀ q, q ≠ a → ∀ f, F' f q = F f q) (hat : va_at Γ.2.1 vwCl (a, ex_ent Γ.2.2.1 K I' F' a) H1) (oq : ∀ q : Nat, q ≠ a → H1[q]? = H[q]?) : ex_P Γ K I' F' H1 := by
  intro q hq
  by_cases h : q = a
  · subst h
    exact hat
  · have e : ex_ent Γ.2.2.1 K I' F' q = ex_ent Γ.2.2.1 K I F q := by simp only [ex_ent, hI q h, hF q h]
    rw [e]
    exact (hP q hq).kept (oq q h)
theorem ex_P_new {Γ : ex_G} {K : ex_K} {I : ex_I} {F : ex_F} {H H1 : Heap} {k n : Nat} (hP : ex_P Γ K I F H) (hat : va_at Γ.2.1 vwCl (H.size, ex_ent Γ.2.2.1 (ex_nk K H.size k n) (ex_ni I H.size) (ex_nr F H.size) H.size) H1) (oq : ∀ q : Nat, q < H.size → H1[q]? = H[q]?) : ex_P Γ (ex_nk K H.size k n) (ex_ni I H.size) (ex_nr F H.size) H1 := by
  intro q hq
  by_cases h : q = H.size
  · subst h
    exact hat
  · rw [ex_nk_ne K k n h] at hq
    have e : ex_ent Γ.2.2.1 (ex_nk K H.size k n) (ex_ni I H.size) (ex_nr F H.size) q = ex_ent Γ.2.2.1 K I F q := by simp only [ex_ent, ex_nk_ne K k n h, ex_ni_ne I h, ex_nr_ne F h]
    rw [e]
    exact (hP q hq).kept (oq q (hP q hq).lt)
theorem ex_P_fresh {Γ : ex_G} {K : ex_K} {I : ex_I} {F : ex_F} {H : Heap} (hP : ex_P Γ K I F H) : (K H.size).1 = 0 := by
  by_cases h : (K H.size).1 = 0
  · exact h
  · exact absurd (hP _ h).lt (Nat.lt_irrefl _)
/-- the locals -/
def ex_al (lv : List (Option ex_V)) : List (Nat × Value) := (List.range lv.length).filterMap (fun i => match lv[i]? with
  | some (some v) => some (i, ex_v v)
  | _ => none)
theorem ex_al_mem {lv : List (Option ex_V)} {q : Nat × Value} : q ∈ ex_al lv ↔ ∃ v, lv[q.1]? = some (some v) ∧ q.2 = ex_v v := by
  unfold ex_al
  rw [List.mem_filterMap]
  constructor
  · rintro ⟨i, hi, h⟩
    split at h
    · rename_i v hv
      cases h
      exact ⟨v, hv, rfl⟩
    · cases h
  · rintro ⟨v, h1, h2⟩
    refine ⟨q.1, ?_, ?_⟩
    · rw [List.mem_range]
      exact (List.getElem?_eq_some_iff.mp h1).1
    · rw [h1]
      show some (q.1, ex_v v) = some q
      rw [← h2]
def ex_L (ls : Array Slot) (n : Nat) (lv : List (Option ex_V)) : Prop := lv_has ls n (ex_al lv)
theorem ex_L_at {ls : Array Slot} {n i : Nat} {lv : List (Option ex_V)} {v : ex_V} (h : ex_L ls n lv) (hi : lv[i]? = some (some v)) : ls[i]? = some (.val (ex_v v)) := h.2.2 (i, ex_v v) (ex_al_mem.mpr ⟨v, hi, rfl⟩)
theorem ex_L_set {ls : Array Slot} {n i : Nat} {lv : List (Option ex_V)} {v : ex_V} (h : lv_has ls n ((i, ex_v v) :: (ex_al lv).filter (fun q => !(q.1 == i) && !(q.1 + 1 == i && q.2.category == 2)))) : ex_L ls n (lv.set i (some v)) := by
  refine ⟨h.1, h.2.1, fun q hq => h.2.2 q ?_⟩
  obtain ⟨w, h1, h2⟩ := ex_al_mem.mp hq
  by_cases e : q.1 = i
  · have h3 := h1
    rw [e, List.getElem?_set_self'] at h3
    cases hl : lv[i]? with
    | none => rw [hl] at h3; cases h3
    | some z =>
      rw [hl] at h3
      have h4 : v = w := by simpa using h3
      rw [List.mem_cons]
      left
      rw [← h4] at h2
      exact Prod.ext e h2
  · rw [List.getElem?_set_ne (fun z => e z.symm)] at h1
    rw [List.mem_cons]
    right
    rw [List.mem_filter]
    refine ⟨ex_al_mem.mpr ⟨w, h1, h2⟩, ?_⟩
    rw [h2, ex_cat]
    simp [e]
def ex_tys (Γ : ex_G) : List (ClassId × FieldType) := [(Γ.2.2.1 21, .int), (Γ.2.2.1 22, .char), (Γ.2.2.1 23, .boolean), (Γ.2.2.1 31, .object "FrontCache$Resource"), (Γ.2.2.1 32, .object "FrontCache$Origin"), (Γ.2.2.1 33, .object "FrontCache$Connection"), (Γ.2.2.1 34, .object "FrontCache$Request"), (Γ.2.2.1 35, .object "FrontCache$Entry"), (Γ.2.2.1 36, .object "FrontCache$Message")]
/-- words of nest mates, classes of arrays, texts, the script: they hold at every call -/
def ex_XS (Γ : ex_G) (A : Nat → Prop) (s : State) : Prop := va_X Γ.2.2.2.2.2.1 Γ.2.2.2.2.2.2.1 Γ.2.2.2.2.2.2.2 s s.heap ∧ Γ.2.2.2.2.2.1 < s.heap.size ∧ ¬ A Γ.2.2.2.2.2.1 ∧ vk_S 7 sl_len sl_byt Γ.2.2.2.1 Γ.2.2.2.2.1 A s s.heap ∧ (∀ i, i < 7 → vk_R "FrontCache$Control" (sl_ix.getD i 0) (sl_tx.getD i "") (Γ.2.2.2.1 i) s) ∧ va_Z "java/lang/String" "COMPACT_STRINGS" "Z" (.int 1) A s s.heap ∧ va_Zq "jdk/internal/util/Preconditions" "SIOOBE_FORMATTER" "Ljava/util/function/BiFunction;" A s s.heap
theorem ex_XS_same {Γ : ex_G} {A : Nat → Prop} {u U : State} (hv : u.vm = U.vm) (hh : u.heap = U.heap) (h : ex_XS Γ A u) : ex_XS Γ A U := by
  have ha : u.vm.Alike U.vm := by rw [hv]; exact Vm.Alike.refl _
  obtain ⟨h1, h2, h3, h4, h5, h6, h7⟩ := h
  exact ⟨by rw [← hh]; exact va_X.moved ha h1, by rw [← hh]; exact h2, h3, by rw [← hh]; exact vk_S.moved ha h4, fun i hi => vk_R.same hv.symm (h5 i hi), by rw [← hh]; exact va_Z.moved ha h6, by rw [← hh]; exact va_Zq.moved ha h7⟩
theorem ex_XS_move {Γ : ex_G} {A B : Nat → Prop} {s U : State} {H : Heap} {locs : List Loc} (hW : s.WarmedH U.vm) (hH : U.heap = H) (hS : va_S A s.heap H locs) (hAB : ∀ q, B q → A q) (h : ex_XS Γ A s) : ex_XS Γ B U := by
  obtain ⟨h1, h2, h3, h4, h5, h6, h7⟩ := h
  exact ⟨by rw [hH]; exact va_X.moved hW.alike (va_X.kept h1 (hS.2.1 _ h2 h3)), by rw [hH]; exact Nat.lt_of_lt_of_le h2 hS.1, fun z => h3 (hAB _ z), by rw [hH]; exact vk_S.narrow (vk_S.moved hW.alike (vk_S.kept h4 hS.2.1)) hAB, fun i hi => vk_R.warm hW (h5 i hi), by rw [hH]; exact va_Z.narrow (va_Z.moved hW.alike (va_Z.kept h6 hS.2.1)) hAB, by rw [hH]; exact va_Zq.narrow (va_Zq.moved hW.alike (va_Zq.kept h7 hS.2.1)) hAB⟩
def ex_X (Γ : ex_G) (A : Nat → Prop) (s : State) : Prop := (∀ q ∈ ex_NF, va_Nw (.fieldLinkNest q.1 q.2.1 q.2.2.1 q.2.2.2.1 q.2.2.2.2.1 q.2.2.2.2.2) s) ∧ (∀ q ∈ ex_NM, va_Nw (.methodLinkNest q.1 q.2.1 q.2.2.1 q.2.2.2) s) ∧ (∀ C ∈ ex_AO, va_AO C s) ∧ ex_XS Γ A s
theorem ex_X_same {Γ : ex_G} {A : Nat → Prop} {u U : State} (hv : u.vm = U.vm) (hh : u.heap = U.heap) (h : ex_X Γ A u) : ex_X Γ A U :=
  ⟨fun q hq => va_Nw.same rfl hv (h.1 q hq), fun q hq => va_Nw.same rfl hv (h.2.1 q hq), fun C hC => (h.2.2.1 C hC).moved (by rw [hv]; exact Vm.Alike.refl _), ex_XS_same hv hh h.2.2.2⟩
theorem ex_X_move {Γ : ex_G} {A B : Nat → Prop} {s U : State} {H : Heap} {locs : List Loc} (hW : s.WarmedH U.vm) (hH : U.heap = H) (hS : va_S A s.heap H locs) (hAB : ∀ q, B q → A q) (h : ex_X Γ A s) : ex_X Γ B U :=
  ⟨fun q hq => va_Nw.warmF hW (h.1 q hq), fun q hq => va_Nw.warmM hW (h.2.1 q hq), fun C hC => (h.2.2.1 C hC).moved hW.alike, ex_XS_move hW hH hS hAB h.2.2.2⟩
/-- what a method stands on -/
def ex_C (Γ : ex_G) (d : Nat) (M : ex_M) (p : Program) (R : Room) (s : State) (m : MethodId) (args : Array Value) (meth : Method) (c : Code) (A : Nat → Prop) : Prop :=
  p.tables.exec = Jvm.exec ∧ c.code = M.2.2.1 ∧ c.maxLocals = M.2.2.2.1 ∧ s.vm.findClass M.1 = some m.cls ∧ (∀ w ∈ M.2.2.2.2.2, w.before args s = true) ∧ meth.sig.returnType = M.2.2.2.2.1 ∧ meth.locks = false ∧ meth.name = M.2.1.name ∧ d ≤ R.frames ∧ 38 * d ≤ R.locals ∧ va_K Γ.2.1 vwCl (ex_tys Γ) s ∧ (∀ q, s.heap.size ≤ q → A q) ∧ ex_X Γ A s
def ex_Q (Γ : ex_G) (Q : Option ex_V → ex_K → ex_I → ex_F → Prop) (A : Nat → Prop) : Array Value → State → Outcome → State → Prop := fun _ st o t =>
  (∃ (r : Option ex_V) (K : ex_K) (I : ex_I) (F : ex_F), o = .returned (r.map ex_v) ∧ Q r K I F ∧ ex_P Γ K I F t.heap ∧ ∀ a, (K a).1 ≠ 0 → A a) ∧ va_F A st t
def ex_E (Γ : ex_G) (d : Nat) (M : ex_M) (pc : Nat) (lv : List (Option ex_V)) (st : List ex_V) (K : ex_K) (I : ex_I) (F : ex_F) (b : Nat) (Q : Option ex_V → ex_K → ex_I → ex_F → Prop) : Prop :=
  ∀ (p : Program) (e : Env) (R : Room) (s : State) (m : MethodId) (args : Array Value) (below : List Frame) (meth : Method) (c : Code) (A : Nat → Prop) (H : Heap) (locs : List Loc) (cells slots mc ms : Nat) (ls : Array Slot),
    ex_C Γ d M p R s m args meth c A → ex_L ls M.2.2.2.1 lv → ex_P Γ K I F H → (∀ a, (K a).1 ≠ 0 → A a) → va_S A s.heap H locs → cells + b ≤ mc → slots + 400 * b ≤ ms → mc ≤ R.cells → ms ≤ R.slots →
    W p Γ.1 e R s m args below meth c H locs cells slots (MQ below (ex_Q Γ Q A) args s mc ms A) (F0 m pc ls (st.map ex_v))
section EXM
variable {Γ : ex_G} {d : Nat} {M : ex_M} {pc : Nat} {lv : List (Option ex_V)} {st : List ex_V} {K : ex_K} {I : ex_I} {F : ex_F} {b : Nat} {Q Q' : Option ex_V → ex_K → ex_I → ex_F → Prop}
theorem ex_more {b' : Nat} (h : b ≤ b') (k : ex_E Γ d M pc lv st K I F b Q) : ex_E Γ d M pc lv st K I F b' Q := by
  intro p e R s m args below meth c A H locs cells slots mc ms ls hC hL hP hA hS h1 h2 h3 h4
  exact k p e R s m args below meth c A H locs cells slots mc ms ls hC hL hP hA hS (by omega) (by omega) h3 h4
theorem ex_up {d' : Nat} (h : d ≤ d') (k : ex_E Γ d M pc lv st K I F b Q) : ex_E Γ d' M pc lv st K I F b Q := by
  intro p e R s m args below meth c A H locs cells slots mc ms ls hC hL hP hA hS h1 h2 h3 h4
  obtain ⟨c1, c2, c3, c4, c5, c6, c7, c8, c9, c10, c11⟩ := hC
  exact k p e R s m args below meth c A H locs cells slots mc ms ls ⟨c1, c2, c3, c4, c5, c6, c7, c8, by omega, by omega, c11⟩ hL hP hA hS h1 h2 h3 h4
theorem ex_post (h : ∀ r K I F, Q r K I F → Q' r K I F) (k : ex_E Γ d M pc lv st K I F b Q) : ex_E Γ d M pc lv st K I F b Q' := by
  intro p e R s m args below meth c A H locs cells slots mc ms ls hC hL hP hA hS h1 h2 h3 h4 T hT X
  obtain ⟨t, a1, o, g1, g2, ⟨⟨r, K', I', F', e1, e2, e3⟩, e4⟩, g4⟩ := k p e R s m args below meth c A H locs cells slots mc ms ls hC hL hP hA hS h1 h2 h3 h4 T hT X
  exact ⟨t, a1, o, g1, g2, ⟨⟨r, K', I', F', e1, h _ _ _ _ e2, e3⟩, e4⟩, g4⟩
/-- one step, nothing of heap and locals changes -/
theorem ex_step {pc' : Nat} {st' : List ex_V} (k : ex_E Γ d M pc' lv st' K I F b Q)
    (h : ∀ (p : Program) (e : Env) (R : Room) (s : State) (m : MethodId) (args : Array Value) (below : List Frame) (meth : Method) (c : Code) (H : Heap) (locs : List Loc) (cells slots : Nat) (Qm : State → Prop) (ls : Array Slot), p.tables.exec = Jvm.exec → c.code = M.2.2.1 → ex_L ls M.2.2.2.1 lv →
      W p Γ.1 e R s m args below meth c H locs cells slots Qm (F0 m pc' ls (st'.map ex_v)) → W p Γ.1 e R s m args below meth c H locs cells slots Qm (F0 m pc ls (st.map ex_v))) : ex_E Γ d M pc lv st K I F b Q := by
  intro p e R s m args below meth c A H locs cells slots mc ms ls hC hL hP hA hS h1 h2 h3 h4
  exact h p e R s m args below meth c H locs cells slots _ ls hC.1 hC.2.1 hL (k p e R s m args below meth c A H locs cells slots mc ms ls hC hL hP hA hS h1 h2 h3 h4)
/-- a store into the locals -/
theorem ex_stepL {pc' : Nat} {lv' : List (Option ex_V)} {st' : List ex_V} (k : ex_E Γ d M pc' lv' st' K I F b Q)
    (h : ∀ (p : Program) (e : Env) (R : Room) (s : State) (m : MethodId) (args : Array Value) (below : List Frame) (meth : Method) (c : Code) (H : Heap) (locs : List Loc) (cells slots : Nat) (Qm : State → Prop) (ls : Array Slot), p.tables.exec = Jvm.exec → c.code = M.2.2.1 → ex_L ls M.2.2.2.1 lv →
      (∀ ls' : Array Slot, ex_L ls' M.2.2.2.1 lv' → W p Γ.1 e R s m args below meth c H locs cells slots Qm (F0 m pc' ls' (st'.map ex_v))) → W p Γ.1 e R s m args below meth c H locs cells slots Qm (F0 m pc ls (st.map ex_v))) : ex_E Γ d M pc lv st K I F b Q := by
  intro p e R s m args below meth c A H locs cells slots mc ms ls hC hL hP hA hS h1 h2 h3 h4
  exact h p e R s m args below meth c H locs cells slots _ ls hC.1 hC.2.1 hL (fun ls' hL' => k p e R s m args below meth c A H locs cells slots mc ms ls' hC hL' hP hA hS h1 h2 h3 h4)
/-- a branch -/
theorem ex_stepB {P N : Prop} {t f : Nat} {st' : List ex_V} (kt : P → ex_E Γ d M t lv st' K I F b Q) (kf : N → ex_E Γ d M f lv st' K I F b Q)
    (h : ∀ (p : Program) (e : Env) (R : Room) (s : State) (m : MethodId) (args : Array Value) (below : List Frame) (meth : Method) (c : Code) (H : Heap) (locs : List Loc) (cells slots : Nat) (Qm : State → Prop) (ls : Array Slot), p.tables.exec = Jvm.exec → c.code = M.2.2.1 →
      (P → W p Γ.1 e R s m args below meth c H locs cells slots Qm (F0 m t ls (st'.map ex_v))) → (N → W p Γ.1 e R s m args below meth c H locs cells slots Qm (F0 m f ls (st'.map ex_v))) → W p Γ.1 e R s m args below meth c H locs cells slots Qm (F0 m pc ls (st.map ex_v))) : ex_E Γ d M pc lv st K I F b Q := by
  intro p e R s m args below meth c A H locs cells slots mc ms ls hC hL hP hA hS h1 h2 h3 h4
  exact h p e R s m args below meth c H locs cells slots _ ls hC.1 hC.2.1 (fun z => kt z p e R s m args below meth c A H locs cells slots mc ms ls hC hL hP hA hS h1 h2 h3 h4) (fun z => kf z p e R s m args below meth c A H locs cells slots mc ms ls hC hL hP hA hS h1 h2 h3 h4)
theorem ex_iconst {n : Int} {v : Int32} (hdg : decode M.2.2.1 pc = .ok (.iconst n, 1)) (hv : Int32.ofInt n = v) (k : ex_E Γ d M (pc + 1) lv (.inl v :: st) K I F b Q) : ex_E Γ d M pc lv (st) K I F b Q :=
  ex_step k (fun p e R s m args below meth c H locs cells slots Qm ls hx hb hL w => lv_iconst hx hb hdg hv w)
theorem ex_bipush {n : Int} {v : Int32} (hdg : decode M.2.2.1 pc = .ok (.bipush n, 2)) (hv : (Int8.ofInt n).toInt32 = v) (k : ex_E Γ d M (pc + 2) lv (.inl v :: st) K I F b Q) : ex_E Γ d M pc lv (st) K I F b Q :=
  ex_step k (fun p e R s m args below meth c H locs cells slots Qm ls hx hb hL w => lv_bipush hx hb hdg hv w)
theorem ex_sipush {n : Int} {v : Int32} (hdg : decode M.2.2.1 pc = .ok (.sipush n, 3)) (hv : (Int16.ofInt n).toInt32 = v) (k : ex_E Γ d M (pc + 3) lv (.inl v :: st) K I F b Q) : ex_E Γ d M pc lv (st) K I F b Q :=
  ex_step k (fun p e R s m args below meth c H locs cells slots Qm ls hx hb hL w => lv_sipush hx hb hdg hv w)
theorem ex_null (hdg : decode M.2.2.1 pc = .ok (.aconst_null, 1)) (k : ex_E Γ d M (pc + 1) lv (.inr none :: st) K I F b Q) : ex_E Γ d M pc lv (st) K I F b Q :=
  ex_step k (fun p e R s m args below meth c H locs cells slots Qm ls hx hb hL w => lv_null hx hb hdg w)
theorem ex_iload_n {q : Fin 4} {x : Int32} (hdg : decode M.2.2.1 pc = .ok (.iload_n q, 1)) (hl : lv[(q : Nat)]? = some (some (.inl x))) (k : ex_E Γ d M (pc + 1) lv (.inl x :: st) K I F b Q) : ex_E Γ d M pc lv (st) K I F b Q :=
  ex_step k (fun p e R s m args below meth c H locs cells slots Qm ls hx hb hL w => lv_iload_n hx hb hdg rfl (ex_L_at hL hl) w)
theorem ex_iload {q : Nat} {x : Int32} (hdg : decode M.2.2.1 pc = .ok (.iload q, 2)) (hl : lv[q]? = some (some (.inl x))) (k : ex_E Γ d M (pc + 2) lv (.inl x :: st) K I F b Q) : ex_E Γ d M pc lv (st) K I F b Q :=
  ex_step k (fun p e R s m args below meth c H locs cells slots Qm ls hx hb hL w => lv_iload hx hb hdg (ex_L_at hL hl) w)
theorem ex_aload_n {q : Fin 4} {r : Option Nat} (hdg : decode M.2.2.1 pc = .ok (.aload_n q, 1)) (hl : lv[(q : Nat)]? = some (some (.inr r))) (k : ex_E Γ d M (pc + 1) lv (.inr r :: st) K I F b Q) : ex_E Γ d M pc lv st K I F b Q := by
  cases r with
  | none => exact ex_step k (fun p e R s m args below meth c H locs cells slots Qm ls hx hb hL w => lv_aload_nN hx hb hdg rfl (ex_L_at hL hl) w)
  | some a => exact ex_step k (fun p e R s m args below meth c H locs cells slots Qm ls hx hb hL w => lv_aload_n hx hb hdg rfl (ex_L_at hL hl) w)
theorem ex_aload {q : Nat} {r : Option Nat} (hdg : decode M.2.2.1 pc = .ok (.aload q, 2)) (hl : lv[q]? = some (some (.inr r))) (k : ex_E Γ d M (pc + 2) lv (.inr r :: st) K I F b Q) : ex_E Γ d M pc lv st K I F b Q := by
  cases r with
  | none => exact ex_step k (fun p e R s m args below meth c H locs cells slots Qm ls hx hb hL w => lv_aloadN hx hb hdg (ex_L_at hL hl) w)
  | some a => exact ex_step k (fun p e R s m args below meth c H locs cells slots Qm ls hx hb hL w => lv_aload hx hb hdg (ex_L_at hL hl) w)
theorem ex_istore_n {q : Fin 4} {x : Int32} (hdg : decode M.2.2.1 pc = .ok (.istore_n q, 1)) (hn : (q : Nat) < M.2.2.2.1) (k : ex_E Γ d M (pc + 1) (lv.set (q : Nat) (some (.inl x))) st K I F b Q) : ex_E Γ d M pc lv (.inl x :: st) K I F b Q :=
  ex_stepL k (fun p e R s m args below meth c H locs cells slots Qm ls hx hb hL w => lv_istore_n hx hb hdg rfl hL hn rfl (fun ls' h' => w ls' (ex_L_set (v := .inl x) h')))
theorem ex_istore {q : Nat} {x : Int32} (hdg : decode M.2.2.1 pc = .ok (.istore q, 2)) (hn : q < M.2.2.2.1) (k : ex_E Γ d M (pc + 2) (lv.set q (some (.inl x))) st K I F b Q) : ex_E Γ d M pc lv (.inl x :: st) K I F b Q :=
  ex_stepL k (fun p e R s m args below meth c H locs cells slots Qm ls hx hb hL w => lv_istore hx hb hdg hL hn rfl (fun ls' h' => w ls' (ex_L_set (v := .inl x) h')))
theorem ex_astore_n {q : Fin 4} {r : Option Nat} (hdg : decode M.2.2.1 pc = .ok (.astore_n q, 1)) (hn : (q : Nat) < M.2.2.2.1) (k : ex_E Γ d M (pc + 1) (lv.set (q : Nat) (some (.inr r))) st K I F b Q) : ex_E Γ d M pc lv (.inr r :: st) K I F b Q := by
  cases r with
  | none => exact ex_stepL k (fun p e R s m args below meth c H locs cells slots Qm ls hx hb hL w => lv_astore_nN hx hb hdg rfl hL hn rfl (fun ls' h' => w ls' (ex_L_set (v := .inr none) h')))
  | some a => exact ex_stepL k (fun p e R s m args below meth c H locs cells slots Qm ls hx hb hL w => lv_astore_n hx hb hdg rfl hL hn rfl (fun ls' h' => w ls' (ex_L_set (v := .inr (some a)) h')))
theorem ex_astore {q : Nat} {r : Option Nat} (hdg : decode M.2.2.1 pc = .ok (.astore q, 2)) (hn : q < M.2.2.2.1) (k : ex_E Γ d M (pc + 2) (lv.set q (some (.inr r))) st K I F b Q) : ex_E Γ d M pc lv (.inr r :: st) K I F b Q := by
  cases r with
  | none => exact ex_stepL k (fun p e R s m args below meth c H locs cells slots Qm ls hx hb hL w => lv_astoreN hx hb hdg hL hn rfl (fun ls' h' => w ls' (ex_L_set (v := .inr none) h')))
  | some a => exact ex_stepL k (fun p e R s m args below meth c H locs cells slots Qm ls hx hb hL w => lv_astore hx hb hdg hL hn rfl (fun ls' h' => w ls' (ex_L_set (v := .inr (some a)) h')))
theorem ex_iinc {q : Nat} {n : Int} {x v : Int32} (hdg : decode M.2.2.1 pc = .ok (.iinc q n, 3)) (hl : lv[q]? = some (some (.inl x))) (hv : x + Int32.ofInt n = v) (hn : q < M.2.2.2.1) (k : ex_E Γ d M (pc + 3) (lv.set q (some (.inl v))) st K I F b Q) : ex_E Γ d M pc lv st K I F b Q := by
  obtain ⟨j, hj⟩ := List.getElem?_of_mem (ex_al_mem (q := (q, .int x)).mpr ⟨.inl x, hl, rfl⟩)
  exact ex_stepL k (fun p e R s m args below meth c H locs cells slots Qm ls hx hb hL w => lv_iinc hx hb hdg hL hj hv hn rfl (fun ls' h' => w ls' (ex_L_set (v := .inl v) h')))
theorem ex_iadd {x y : Int32} (hdg : decode M.2.2.1 pc = .ok (.iadd, 1)) (k : ex_E Γ d M (pc + 1) lv (.inl (x + y) :: st) K I F b Q) : ex_E Γ d M pc lv (.inl y :: .inl x :: st) K I F b Q :=
  ex_step k (fun p e R s m args below meth c H locs cells slots Qm ls hx hb hL w => lv_iadd hx hb hdg w)
theorem ex_isub {x y : Int32} (hdg : decode M.2.2.1 pc = .ok (.isub, 1)) (k : ex_E Γ d M (pc + 1) lv (.inl (x - y) :: st) K I F b Q) : ex_E Γ d M pc lv (.inl y :: .inl x :: st) K I F b Q :=
  ex_step k (fun p e R s m args below meth c H locs cells slots Qm ls hx hb hL w => lv_isub hx hb hdg w)
theorem ex_imul {x y : Int32} (hdg : decode M.2.2.1 pc = .ok (.imul, 1)) (k : ex_E Γ d M (pc + 1) lv (.inl (x * y) :: st) K I F b Q) : ex_E Γ d M pc lv (.inl y :: .inl x :: st) K I F b Q :=
  ex_step k (fun p e R s m args below meth c H locs cells slots Qm ls hx hb hL w => lv_imul hx hb hdg w)
theorem ex_iand {x y : Int32} (hdg : decode M.2.2.1 pc = .ok (.iand, 1)) (k : ex_E Γ d M (pc + 1) lv (.inl (x &&& y) :: st) K I F b Q) : ex_E Γ d M pc lv (.inl y :: .inl x :: st) K I F b Q :=
  ex_step k (fun p e R s m args below meth c H locs cells slots Qm ls hx hb hL w => lv_iand hx hb hdg w)
theorem ex_ior {x y : Int32} (hdg : decode M.2.2.1 pc = .ok (.ior, 1)) (k : ex_E Γ d M (pc + 1) lv (.inl (x ||| y) :: st) K I F b Q) : ex_E Γ d M pc lv (.inl y :: .inl x :: st) K I F b Q :=
  ex_step k (fun p e R s m args below meth c H locs cells slots Qm ls hx hb hL w => lv_ior hx hb hdg w)
theorem ex_ixor {x y : Int32} (hdg : decode M.2.2.1 pc = .ok (.ixor, 1)) (k : ex_E Γ d M (pc + 1) lv (.inl (x ^^^ y) :: st) K I F b Q) : ex_E Γ d M pc lv (.inl y :: .inl x :: st) K I F b Q :=
  ex_step k (fun p e R s m args below meth c H locs cells slots Qm ls hx hb hL w => lv_ixor hx hb hdg w)
theorem ex_irem {x y : Int32} (hdg : decode M.2.2.1 pc = .ok (.irem, 1)) (hne : ¬ y = 0) (k : ex_E Γ d M (pc + 1) lv (.inl (x - x / y * y) :: st) K I F b Q) : ex_E Γ d M pc lv (.inl y :: .inl x :: st) K I F b Q :=
  ex_step k (fun p e R s m args below meth c H locs cells slots Qm ls hx hb hL w => lv_irem hx hb hdg hne w)
theorem ex_idiv {x y : Int32} (hdg : decode M.2.2.1 pc = .ok (.idiv, 1)) (hne : ¬ y = 0) (k : ex_E Γ d M (pc + 1) lv (.inl (x / y) :: st) K I F b Q) : ex_E Γ d M pc lv (.inl y :: .inl x :: st) K I F b Q :=
  ex_step k (fun p e R s m args below meth c H locs cells slots Qm ls hx hb hL w => lv_idiv hx hb hdg hne w)
theorem ex_ineg {x : Int32} (hdg : decode M.2.2.1 pc = .ok (.ineg, 1)) (k : ex_E Γ d M (pc + 1) lv (.inl (-x) :: st) K I F b Q) : ex_E Γ d M pc lv (.inl x :: st) K I F b Q :=
  ex_step k (fun p e R s m args below meth c H locs cells slots Qm ls hx hb hL w => lv_ineg hx hb hdg w)
theorem ex_i2c {x v : Int32} (hdg : decode M.2.2.1 pc = .ok (.i2c, 1)) (hv : (x.toUInt32 % 65536).toInt32 = v) (k : ex_E Γ d M (pc + 1) lv (.inl v :: st) K I F b Q) : ex_E Γ d M pc lv (.inl x :: st) K I F b Q :=
  ex_step k (fun p e R s m args below meth c H locs cells slots Qm ls hx hb hL w => lv_i2c hx hb hdg hv w)
theorem ex_dup {u : ex_V} (hdg : decode M.2.2.1 pc = .ok (.dup, 1)) (k : ex_E Γ d M (pc + 1) lv (u :: u :: st) K I F b Q) : ex_E Γ d M pc lv (u :: st) K I F b Q :=
  ex_step k (fun p e R s m args below meth c H locs cells slots Qm ls hx hb hL w => lv_dup hx hb hdg (ex_cat u) w)
theorem ex_pop {u : ex_V} (hdg : decode M.2.2.1 pc = .ok (.pop, 1)) (k : ex_E Γ d M (pc + 1) lv (st) K I F b Q) : ex_E Γ d M pc lv (u :: st) K I F b Q :=
  ex_step k (fun p e R s m args below meth c H locs cells slots Qm ls hx hb hL w => lv_pop hx hb hdg (ex_cat u) w)
theorem ex_dup_x1 {u v : ex_V} (hdg : decode M.2.2.1 pc = .ok (.dup_x1, 1)) (k : ex_E Γ d M (pc + 1) lv (u :: v :: u :: st) K I F b Q) : ex_E Γ d M pc lv (u :: v :: st) K I F b Q :=
  ex_step k (fun p e R s m args below meth c H locs cells slots Qm ls hx hb hL w => lv_dup_x1 hx hb hdg (ex_cat u) (ex_cat v) w)
theorem ex_dup_x2 {u v z : ex_V} (hdg : decode M.2.2.1 pc = .ok (.dup_x2, 1)) (k : ex_E Γ d M (pc + 1) lv (u :: v :: z :: u :: st) K I F b Q) : ex_E Γ d M pc lv (u :: v :: z :: st) K I F b Q :=
  ex_step k (fun p e R s m args below meth c H locs cells slots Qm ls hx hb hL w => lv_dup_x2 hx hb hdg (ex_cat u) (ex_cat v) (ex_cat z) w)
theorem ex_dup2 {u v : ex_V} (hdg : decode M.2.2.1 pc = .ok (.dup2, 1)) (k : ex_E Γ d M (pc + 1) lv (u :: v :: u :: v :: st) K I F b Q) : ex_E Γ d M pc lv (u :: v :: st) K I F b Q :=
  ex_step k (fun p e R s m args below meth c H locs cells slots Qm ls hx hb hL w => lv_dup2_11 hx hb hdg (ex_cat u) (ex_cat v) w)
theorem ex_goto {off : Int} {tgt : Nat} (hdg : decode M.2.2.1 pc = .ok (.goto off, 3)) (ht : (pc : Int) + off = (tgt : Int)) (k : ex_E Γ d M tgt lv st K I F b Q) : ex_E Γ d M pc lv st K I F b Q :=
  ex_step k (fun p e R s m args below meth c H locs cells slots Qm ls hx hb hL w => lv_goto hx hb hdg ht w)
theorem ex_if_eq {x : Int32} {off : Int} {tgt : Nat} (hdg : decode M.2.2.1 pc = .ok (.ifCond .eq off, 3)) (ht : (pc : Int) + off = (tgt : Int)) (kt : x = 0 → ex_E Γ d M tgt lv st K I F b Q) (kf : ¬ x = 0 → ex_E Γ d M (pc + 3) lv st K I F b Q) : ex_E Γ d M pc lv (.inl x :: st) K I F b Q :=
  ex_stepB kt kf (fun p e R s m args below meth c H locs cells slots Qm ls hx hb wt wf => lv_if_eq hx hb hdg ht wt wf)
theorem ex_icmp_eq {x y : Int32} {off : Int} {tgt : Nat} (hdg : decode M.2.2.1 pc = .ok (.if_icmp .eq off, 3)) (ht : (pc : Int) + off = (tgt : Int)) (kt : x = y → ex_E Γ d M tgt lv st K I F b Q) (kf : ¬ x = y → ex_E Γ d M (pc + 3) lv st K I F b Q) : ex_E Γ d M pc lv (.inl y :: .inl x :: st) K I F b Q :=
  ex_stepB kt kf (fun p e R s m args below meth c H locs cells slots Qm ls hx hb wt wf => lv_icmp_eq hx hb hdg ht wt wf)
theorem ex_if_ne {x : Int32} {off : Int} {tgt : Nat} (hdg : decode M.2.2.1 pc = .ok (.ifCond .ne off, 3)) (ht : (pc : Int) + off = (tgt : Int)) (kt : ¬ x = 0 → ex_E Γ d M tgt lv st K I F b Q) (kf : x = 0 → ex_E Γ d M (pc + 3) lv st K I F b Q) : ex_E Γ d M pc lv (.inl x :: st) K I F b Q :=
  ex_stepB kt kf (fun p e R s m args below meth c H locs cells slots Qm ls hx hb wt wf => lv_if_ne hx hb hdg ht wt wf)
theorem ex_icmp_ne {x y : Int32} {off : Int} {tgt : Nat} (hdg : decode M.2.2.1 pc = .ok (.if_icmp .ne off, 3)) (ht : (pc : Int) + off = (tgt : Int)) (kt : ¬ x = y → ex_E Γ d M tgt lv st K I F b Q) (kf : x = y → ex_E Γ d M (pc + 3) lv st K I F b Q) : ex_E Γ d M pc lv (.inl y :: .inl x :: st) K I F b Q :=
  ex_stepB kt kf (fun p e R s m args below meth c H locs cells slots Qm ls hx hb wt wf => lv_icmp_ne hx hb hdg ht wt wf)
theorem ex_if_lt {x : Int32} {off : Int} {tgt : Nat} (hdg : decode M.2.2.1 pc = .ok (.ifCond .lt off, 3)) (ht : (pc : Int) + off = (tgt : Int)) (kt : x < 0 → ex_E Γ d M tgt lv st K I F b Q) (kf : ¬ x < 0 → ex_E Γ d M (pc + 3) lv st K I F b Q) : ex_E Γ d M pc lv (.inl x :: st) K I F b Q :=
  ex_stepB kt kf (fun p e R s m args below meth c H locs cells slots Qm ls hx hb wt wf => lv_if_lt hx hb hdg ht wt wf)
theorem ex_icmp_lt {x y : Int32} {off : Int} {tgt : Nat} (hdg : decode M.2.2.1 pc = .ok (.if_icmp .lt off, 3)) (ht : (pc : Int) + off = (tgt : Int)) (kt : x < y → ex_E Γ d M tgt lv st K I F b Q) (kf : ¬ x < y → ex_E Γ d M (pc + 3) lv st K I F b Q) : ex_E Γ d M pc lv (.inl y :: .inl x :: st) K I F b Q :=
  ex_stepB kt kf (fun p e R s m args below meth c H locs cells slots Qm ls hx hb wt wf => lv_icmp_lt hx hb hdg ht wt wf)
theorem ex_if_ge {x : Int32} {off : Int} {tgt : Nat} (hdg : decode M.2.2.1 pc = .ok (.ifCond .ge off, 3)) (ht : (pc : Int) + off = (tgt : Int)) (kt : 0 ≤ x → ex_E Γ d M tgt lv st K I F b Q) (kf : ¬ 0 ≤ x → ex_E Γ d M (pc + 3) lv st K I F b Q) : ex_E Γ d M pc lv (.inl x :: st) K I F b Q :=
  ex_stepB kt kf (fun p e R s m args below meth c H locs cells slots Qm ls hx hb wt wf => lv_if_ge hx hb hdg ht wt wf)
theorem ex_icmp_ge {x y : Int32} {off : Int} {tgt : Nat} (hdg : decode M.2.2.1 pc = .ok (.if_icmp .ge off, 3)) (ht : (pc : Int) + off = (tgt : Int)) (kt : y ≤ x → ex_E Γ d M tgt lv st K I F b Q) (kf : ¬ y ≤ x → ex_E Γ d M (pc + 3) lv st K I F b Q) : ex_E Γ d M pc lv (.inl y :: .inl x :: st) K I F b Q :=
  ex_stepB kt kf (fun p e R s m args below meth c H locs cells slots Qm ls hx hb wt wf => lv_icmp_ge hx hb hdg ht wt wf)
theorem ex_if_gt {x : Int32} {off : Int} {tgt : Nat} (hdg : decode M.2.2.1 pc = .ok (.ifCond .gt off, 3)) (ht : (pc : Int) + off = (tgt : Int)) (kt : 0 < x → ex_E Γ d M tgt lv st K I F b Q) (kf : ¬ 0 < x → ex_E Γ d M (pc + 3) lv st K I F b Q) : ex_E Γ d M pc lv (.inl x :: st) K I F b Q :=
  ex_stepB kt kf (fun p e R s m args below meth c H locs cells slots Qm ls hx hb wt wf => lv_if_gt hx hb hdg ht wt wf)
theorem ex_icmp_gt {x y : Int32} {off : Int} {tgt : Nat} (hdg : decode M.2.2.1 pc = .ok (.if_icmp .gt off, 3)) (ht : (pc : Int) + off = (tgt : Int)) (kt : y < x → ex_E Γ d M tgt lv st K I F b Q) (kf : ¬ y < x → ex_E Γ d M (pc + 3) lv st K I F b Q) : ex_E Γ d M pc lv (.inl y :: .inl x :: st) K I F b Q :=
  ex_stepB kt kf (fun p e R s m args below meth c H locs cells slots Qm ls hx hb wt wf => lv_icmp_gt hx hb hdg ht wt wf)
theorem ex_if_le {x : Int32} {off : Int} {tgt : Nat} (hdg : decode M.2.2.1 pc = .ok (.ifCond .le off, 3)) (ht : (pc : Int) + off = (tgt : Int)) (kt : x ≤ 0 → ex_E Γ d M tgt lv st K I F b Q) (kf : ¬ x ≤ 0 → ex_E Γ d M (pc + 3) lv st K I F b Q) : ex_E Γ d M pc lv (.inl x :: st) K I F b Q :=
  ex_stepB kt kf (fun p e R s m args below meth c H locs cells slots Qm ls hx hb wt wf => lv_if_le hx hb hdg ht wt wf)
theorem ex_icmp_le {x y : Int32} {off : Int} {tgt : Nat} (hdg : decode M.2.2.1 pc = .ok (.if_icmp .le off, 3)) (ht : (pc : Int) + off = (tgt : Int)) (kt : x ≤ y → ex_E Γ d M tgt lv st K I F b Q) (kf : ¬ x ≤ y → ex_E Γ d M (pc + 3) lv st K I F b Q) : ex_E Γ d M pc lv (.inl y :: .inl x :: st) K I F b Q :=
  ex_stepB kt kf (fun p e R s m args below meth c H locs cells slots Qm ls hx hb wt wf => lv_icmp_le hx hb hdg ht wt wf)
theorem ex_acmp_eq {rx ry : Option Nat} {off : Int} {tgt : Nat} (hdg : decode M.2.2.1 pc = .ok (.if_acmp .eq off, 3)) (ht : (pc : Int) + off = (tgt : Int)) (kt : rx = ry → ex_E Γ d M tgt lv st K I F b Q) (kf : ¬ rx = ry → ex_E Γ d M (pc + 3) lv st K I F b Q) : ex_E Γ d M pc lv (.inr ry :: .inr rx :: st) K I F b Q :=
  ex_stepB kt kf (fun p e R s m args below meth c H locs cells slots Qm ls hx hb wt wf => lv_acmp_eq hx hb hdg ht wt wf)
theorem ex_acmp_ne {rx ry : Option Nat} {off : Int} {tgt : Nat} (hdg : decode M.2.2.1 pc = .ok (.if_acmp .ne off, 3)) (ht : (pc : Int) + off = (tgt : Int)) (kt : ¬ rx = ry → ex_E Γ d M tgt lv st K I F b Q) (kf : rx = ry → ex_E Γ d M (pc + 3) lv st K I F b Q) : ex_E Γ d M pc lv (.inr ry :: .inr rx :: st) K I F b Q :=
  ex_stepB kt kf (fun p e R s m args below meth c H locs cells slots Qm ls hx hb wt wf => lv_acmp_ne hx hb hdg ht wt wf)
theorem ex_ifnull {r : Option Nat} {off : Int} {tgt : Nat} (hdg : decode M.2.2.1 pc = .ok (.ifnull off, 3)) (ht : (pc : Int) + off = (tgt : Int)) (kt : r = none → ex_E Γ d M tgt lv st K I F b Q) (kf : ∀ a, r = some a → ex_E Γ d M (pc + 3) lv st K I F b Q) : ex_E Γ d M pc lv (.inr r :: st) K I F b Q := by
  cases r with
  | none => exact ex_step (kt rfl) (fun p e R s m args below meth c H locs cells slots Qm ls hx hb hL w => lv_ifnullN hx hb hdg ht w)
  | some a => exact ex_step (kf a rfl) (fun p e R s m args below meth c H locs cells slots Qm ls hx hb hL w => lv_ifnull hx hb hdg w)
theorem ex_ifnonnull {r : Option Nat} {off : Int} {tgt : Nat} (hdg : decode M.2.2.1 pc = .ok (.ifnonnull off, 3)) (ht : (pc : Int) + off = (tgt : Int)) (kt : ∀ a, r = some a → ex_E Γ d M tgt lv st K I F b Q) (kf : r = none → ex_E Γ d M (pc + 3) lv st K I F b Q) : ex_E Γ d M pc lv (.inr r :: st) K I F b Q := by
  cases r with
  | none => exact ex_step (kf rfl) (fun p e R s m args below meth c H locs cells slots Qm ls hx hb hL w => lv_ifnonnullN hx hb hdg w)
  | some a => exact ex_step (kt a rfl) (fun p e R s m args below meth c H locs cells slots Qm ls hx hb hL w => lv_ifnonnull hx hb hdg ht w)
theorem ex_tableOut {dflt lo hi : Int} {offs : Array Int} {len : Nat} {x : Int32} {tgt : Nat} (hdg : decode M.2.2.1 pc = .ok (.tableswitch dflt lo hi offs, len)) (h : x.toInt < lo ∨ hi < x.toInt) (ht : (pc : Int) + dflt = (tgt : Int)) (k : ex_E Γ d M tgt lv st K I F b Q) : ex_E Γ d M pc lv (.inl x :: st) K I F b Q :=
  ex_step k (fun p e R s m args below meth c H locs cells slots Qm ls hx hb hL w => lv_tableOut hx hb hdg h ht w)
theorem ex_tableIn {dflt lo hi : Int} {offs : Array Int} {len : Nat} {x : Int32} {off : Int} {tgt : Nat} (hdg : decode M.2.2.1 pc = .ok (.tableswitch dflt lo hi offs, len)) (h1 : ¬ x.toInt < lo) (h2 : ¬ hi < x.toInt) (ho : offs[(x.toInt - lo).toNat]? = some off) (ht : (pc : Int) + off = (tgt : Int)) (k : ex_E Γ d M tgt lv st K I F b Q) : ex_E Γ d M pc lv (.inl x :: st) K I F b Q :=
  ex_step k (fun p e R s m args below meth c H locs cells slots Qm ls hx hb hL w => lv_tableIn hx hb hdg h1 h2 ho ht w)
theorem ex_vret (hdg : decode M.2.2.1 pc = .ok (.return_, 1)) (hr : M.2.2.2.2.1 = none) (hq : Q none K I F) : ex_E Γ d M pc lv [] K I F b Q := by
  intro p e R s m args below meth c A H locs cells slots mc ms ls hC hL hP hA hS h1 h2 h3 h4
  obtain ⟨c1, c2, c3, c4, c5, c6, c7, c8, c9, c10, c11, c12, c13⟩ := hC
  refine W.widen (k := mc) (n := ms) (by omega) (by omega) ?_
  exact W.vret c1 c2 (c6.trans hr) (fun t ht _ => ⟨⟨none, K, I, F, rfl, hq, by rw [ht]; exact hP, hA⟩, hS.F ht⟩) hS.2.2 hdg c7
theorem ex_zret {ty : FieldType} {v : Int32} (hdg : decode M.2.2.1 pc = .ok (.ireturn, 1)) (hr : M.2.2.2.2.1 = some ty) (hn : narrow ty (.int v) = .int v) (hq : Q (some (.inl v)) K I F) : ex_E Γ d M pc lv [.inl v] K I F b Q := by
  intro p e R s m args below meth c A H locs cells slots mc ms ls hC hL hP hA hS h1 h2 h3 h4
  obtain ⟨c1, c2, c3, c4, c5, c6, c7, c8, c9, c10, c11, c12, c13⟩ := hC
  refine W.widen (k := mc) (n := ms) (by omega) (by omega) ?_
  exact W.zret c1 c2 (c6.trans hr) hn (fun t ht _ => ⟨⟨some (.inl v), K, I, F, rfl, hq, by rw [ht]; exact hP, hA⟩, hS.F ht⟩) hS.2.2 hdg c7
theorem ex_iret {v : Int32} (hdg : decode M.2.2.1 pc = .ok (.ireturn, 1)) (hr : M.2.2.2.2.1 = some .int) (hq : Q (some (.inl v)) K I F) : ex_E Γ d M pc lv [.inl v] K I F b Q := ex_zret hdg hr rfl hq
theorem ex_aret {C : String} {r : Option Nat} (hdg : decode M.2.2.1 pc = .ok (.areturn, 1)) (hr : M.2.2.2.2.1 = some (.object C)) (hq : Q (some (.inr r)) K I F) : ex_E Γ d M pc lv [.inr r] K I F b Q := by
  intro p e R s m args below meth c A H locs cells slots mc ms ls hC hL hP hA hS h1 h2 h3 h4
  obtain ⟨c1, c2, c3, c4, c5, c6, c7, c8, c9, c10, c11, c12, c13⟩ := hC
  refine W.widen (k := mc) (n := ms) (by omega) (by omega) ?_
  exact W.aret c1 c2 (c6.trans hr) (Or.inl ⟨C, rfl⟩) (by cases r with
    | none => exact Or.inl rfl
    | some a => exact Or.inr ⟨a, rfl⟩) (fun t ht _ => ⟨⟨some (.inr r), K, I, F, rfl, hq, by rw [ht]; exact hP, hA⟩, hS.F ht⟩) hS.2.2 hdg c7
end EXM
