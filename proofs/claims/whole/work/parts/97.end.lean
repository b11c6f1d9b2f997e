/-! THE CLAIM OUT OF ONE WALK OF THE LAW'S BODY. Your part is whole_start (and what it stands on); all else here is the same for every law, but numbers. -/
def R_law : String := "FrontCacheLaw"
def lw_P (b : Addr) (xs : List Int32) (args : Array Value) (s : State) : Prop := args = #[.ref b] ∧ s.IntsAt b xs ∧ xs.length ≤ 2049 ∧ (Jvm.Cond.and given_1 narrow_1).before args s = true
def lw_Q (_ : Array Value) (s : State) (o : Outcome) (t : State) : Prop := o = .returned (some (.int 1)) ∧ Framed s o t [] 607699 7279151
def lw_Z (below : List Frame) (a : Array Value) (s : State) : State → Prop := fun t => ∃ o, t.status = .running ∧ Ended t below o ∧ lw_Q a s o t
/-- the law's own end, with 1 on the stack, nothing written that was there before, its room as the claim has it -/
theorem lw_ret {p : Program} {l : Launch} {e : Env} {s : State} {m : MethodId} {below : List Frame} {meth : Method} {c : Code} {b : Nat} (hx : p.tables.exec = Jvm.exec) (hb : c.code = code) (hr : meth.sig.returnType = ret) (hlocks : meth.locks = false) {pc : Nat} {H : Heap} {ls : Array Slot} (hdg : decode code pc = .ok (.ireturn, 1)) : W p l e room_1 s m #[Value.ref b] below meth c H [] 607699 7279151 (lw_Z below #[Value.ref b] s) (F0 m pc ls [.int 1]) := by
  intro T hT X
  obtain ⟨fs, hret, hrun, hended, hW, hframe⟩ := X.leave (v := some (.int 1)) (hlocks := hlocks) (fun h => by rw [hr] at h; cases h)
  have hmeth' : T.vm.method? m = some meth := X.method'
  refine ⟨T.setFrames fs, ?_, .returned (some (.int 1)), hrun, hended, rfl, ⟨_, rfl⟩, hW, hframe⟩
  jvm_step X.here [X.here.top, hx, hb, hdg, hmeth', hr, ret, narrow_b1]
  (try refine ⟨rfl, ?_⟩); (try refine ⟨rfl, ?_⟩)
  first | (intro acts; rw [hret _ acts rfl rfl rfl]) | rw [hret _ _ rfl rfl rfl]
  exact Steps.refl _
/-- what holds at the law's entry: the machine, the code, the tables' words (any of lw_tbl by 'hts w (by decide +kernel)'), the script of L ints xs at the cell b, what the Statement gives of the start (any of its parts by flat_of_before) -/
def lw_At (p : Program) (s : State) (m : MethodId) (meth : Method) (c : Code) (b L : Nat) (xs : Nat → Int32) : Prop :=
  p.tables.exec = Jvm.exec ∧ c.code = code ∧ meth.sig.returnType = ret ∧ c.maxLocals = 4 ∧ s.vm.findClass R_law = some m.cls ∧ (∀ w ∈ lw_tbl, w.before #[Value.ref b] s = true) ∧ va_X b L xs s s.heap ∧ b < s.heap.size ∧ meth.locks = false ∧ (Jvm.Cond.and given_1 narrow_1).before #[Value.ref b] s = true ∧ meth.name = x.name
theorem wh_ws {args : Array Value} {s : State} (hts : ∀ w ∈ lw_tbl, w.before args s = true) : ∀ w ∈ Cond.initialized "FrontCacheLaw" :: ex_WS, w.before args s = true := by
  intro w hw
  rcases List.mem_cons.mp hw with e | e
  · rw [e]; exact hts _ (List.mem_append_right _ (List.mem_of_getElem? (i := 0) (by decide +kernel)))
  · exact hts _ (List.mem_filter.mp e).1
theorem wh_cl {args : Array Value} {s : State} (hts : ∀ w ∈ lw_tbl, w.before args s = true) : ∃ D : va_G, ∀ (c : Nat) (q : vw_C), vwCl[c]? = some q → u_Kn s q.1 q.2.1 q.2.2 (D.1 c) (D.2 c) := by
  have hw := wh_ws hts
  obtain ⟨c0, i0, h0⟩ := u_known hw (inC_FC _) (hw _ (List.mem_cons_of_mem _ w_20))
  obtain ⟨c1, i1, h1⟩ := u_known hw (inC_Ctl _) (hw _ (List.mem_cons_of_mem _ w_82))
  obtain ⟨c2, i2, h2⟩ := u_known hw (inC_Drf _) (hw _ (List.mem_cons_of_mem _ w_28))
  obtain ⟨c3, i3, h3⟩ := u_known hw (inC_Res _) (hw _ (List.mem_cons_of_mem _ w_80))
  obtain ⟨c4, i4, h4⟩ := u_known hw (inC_Ent _) (hw _ (List.mem_cons_of_mem _ w_587))
  obtain ⟨c5, i5, h5⟩ := u_known hw (inC_Sto _) (hw _ (List.mem_cons_of_mem _ w_42))
  obtain ⟨c6, i6, h6⟩ := u_known hw (inC_Req _) (hw _ (List.mem_cons_of_mem _ w_382))
  obtain ⟨c7, i7, h7⟩ := u_known hw (inC_Msg _) (hw _ (List.mem_cons_of_mem _ w_149))
  obtain ⟨c8, i8, h8⟩ := u_known hw (inC_UW _) (hw _ (List.mem_cons_of_mem _ w_64))
  obtain ⟨c9, i9, h9⟩ := u_known hw (inC_Org _) (hw _ (List.mem_cons_of_mem _ w_125))
  obtain ⟨c10, i10, h10⟩ := u_known hw (inC_Con _) (hw _ (List.mem_cons_of_mem _ w_141))
  obtain ⟨c11, i11, h11⟩ := u_known hw (inC_Mdl _) (hw _ (List.mem_cons_of_mem _ w_736))
  refine ⟨(fun c => match c with
    | 0 => c0
    | 1 => c1
    | 2 => c2
    | 3 => c3
    | 4 => c4
    | 5 => c5
    | 6 => c6
    | 7 => c7
    | 8 => c8
    | 9 => c9
    | 10 => c10
    | 11 => c11
    | _ => c0, fun c => match c with
    | 0 => i0
    | 1 => i1
    | 2 => i2
    | 3 => i3
    | 4 => i4
    | 5 => i5
    | 6 => i6
    | 7 => i7
    | 8 => i8
    | 9 => i9
    | 10 => i10
    | 11 => i11
    | _ => i0), fun c q hq => ?_⟩
  match c, hq with
  | 0, hq => exact (Option.some.inj (show some ((R_FC, T_FC, 11) : vw_C) = some q from hq)) ▸ h0
  | 1, hq => exact (Option.some.inj (show some ((R_Ctl, T_Ctl, 1) : vw_C) = some q from hq)) ▸ h1
  | 2, hq => exact (Option.some.inj (show some ((R_Drf, T_Drf, 2) : vw_C) = some q from hq)) ▸ h2
  | 3, hq => exact (Option.some.inj (show some ((R_Res, T_Res, 4) : vw_C) = some q from hq)) ▸ h3
  | 4, hq => exact (Option.some.inj (show some ((R_Ent, T_Ent, 6) : vw_C) = some q from hq)) ▸ h4
  | 5, hq => exact (Option.some.inj (show some ((R_Sto, T_Sto, 4) : vw_C) = some q from hq)) ▸ h5
  | 6, hq => exact (Option.some.inj (show some ((R_Req, T_Req, 12) : vw_C) = some q from hq)) ▸ h6
  | 7, hq => exact (Option.some.inj (show some ((R_Msg, T_Msg, 8) : vw_C) = some q from hq)) ▸ h7
  | 8, hq => exact (Option.some.inj (show some ((R_UW, T_UW, 2) : vw_C) = some q from hq)) ▸ h8
  | 9, hq => exact (Option.some.inj (show some ((R_Org, T_Org, 3) : vw_C) = some q from hq)) ▸ h9
  | 10, hq => exact (Option.some.inj (show some ((R_Con, T_Con, 10) : vw_C) = some q from hq)) ▸ h10
  | 11, hq => exact (Option.some.inj (show some ((R_Mdl, T_Mdl, 32) : vw_C) = some q from hq)) ▸ h11
  | _ + 12, hq => simp [vwCl] at hq
theorem wh_ap {args : Array Value} {s : State} {ty : FieldType} (h : (Cond.arrayClass ty).before args s = true) : ∃ c : ClassId, ArrOfT s c ty ∧ s.vm.findClass ("[" ++ ty.toString) = some c := by
  obtain ⟨c, k, comp, h1, h2, h3⟩ := Cond.arrayClass_spec h
  exact ⟨c, fun N z => ⟨fun k h => (by cases h), k, h2, comp, h3⟩, h1⟩
theorem wh_ao {args : Array Value} {s : State} {C : String} (h : (Cond.arrayOver (.object C)).before args s = true) : ∃ c : ClassId, ArrOfT s c (.object C) ∧ va_RA s c (.object C) := by
  obtain ⟨comp, c, k, h1, h2, h3, h4, h5⟩ := Cond.arrayOver_spec h
  exact ⟨c, fun N z => ⟨fun k h => (by cases h), k, h3, comp, h4⟩, k, comp, h3, h4, h1, h5⟩
theorem wh_ar {args : Array Value} {s : State} (hts : ∀ w ∈ lw_tbl, w.before args s = true) : ∃ dA : Nat → ClassId, (ArrOfT s (dA 21) .int ∧ va_RA s (dA 21) .int) ∧ (ArrOfT s (dA 22) .char ∧ va_RA s (dA 22) .char) ∧ (ArrOfT s (dA 23) .boolean ∧ va_RA s (dA 23) .boolean) ∧ (ArrOfT s (dA 31) (.object "FrontCache$Resource") ∧ va_RA s (dA 31) (.object "FrontCache$Resource")) ∧ (ArrOfT s (dA 32) (.object "FrontCache$Origin") ∧ va_RA s (dA 32) (.object "FrontCache$Origin")) ∧ (ArrOfT s (dA 33) (.object "FrontCache$Connection") ∧ va_RA s (dA 33) (.object "FrontCache$Connection")) ∧ (ArrOfT s (dA 34) (.object "FrontCache$Request") ∧ va_RA s (dA 34) (.object "FrontCache$Request")) ∧ (ArrOfT s (dA 35) (.object "FrontCache$Entry") ∧ va_RA s (dA 35) (.object "FrontCache$Entry")) ∧ (ArrOfT s (dA 36) (.object "FrontCache$Message") ∧ va_RA s (dA 36) (.object "FrontCache$Message")) := by
  obtain ⟨c21, h21⟩ := wh_ap (ty := .int) (hts _ (List.mem_append_right _ (List.mem_of_getElem? (i := 94) (by decide +kernel))))
  obtain ⟨c22, h22⟩ := wh_ap (ty := .char) (hts _ (List.mem_append_right _ (List.mem_of_getElem? (i := 40) (by decide +kernel))))
  obtain ⟨c23, h23⟩ := wh_ap (ty := .boolean) (hts _ (List.mem_append_right _ (List.mem_of_getElem? (i := 838) (by decide +kernel))))
  obtain ⟨c31, h31⟩ := wh_ao (C := "FrontCache$Resource") (hts _ (List.mem_append_right _ (List.mem_of_getElem? (i := 120) (by decide +kernel))))
  obtain ⟨c32, h32⟩ := wh_ao (C := "FrontCache$Origin") (hts _ (List.mem_append_right _ (List.mem_of_getElem? (i := 122) (by decide +kernel))))
  obtain ⟨c33, h33⟩ := wh_ao (C := "FrontCache$Connection") (hts _ (List.mem_append_right _ (List.mem_of_getElem? (i := 124) (by decide +kernel))))
  obtain ⟨c34, h34⟩ := wh_ao (C := "FrontCache$Request") (hts _ (List.mem_append_right _ (List.mem_of_getElem? (i := 147) (by decide +kernel))))
  obtain ⟨c35, h35⟩ := wh_ao (C := "FrontCache$Entry") (hts _ (List.mem_append_right _ (List.mem_of_getElem? (i := 48) (by decide +kernel))))
  obtain ⟨c36, h36⟩ := wh_ao (C := "FrontCache$Message") (hts _ (List.mem_append_right _ (List.mem_of_getElem? (i := 70) (by decide +kernel))))
  exact ⟨fun k => match k with
    | 21 => c21
    | 22 => c22
    | 23 => c23
    | 31 => c31
    | 32 => c32
    | 33 => c33
    | 34 => c34
    | 35 => c35
    | 36 => c36
    | _ => c21, h21, h22, h23, h31, h32, h33, h34, h35, h36⟩
theorem wh_K {l : Launch} {D : va_G} {dA : Nat → ClassId} {adK adV : Nat → Nat} {b L : Nat} {xs : Nat → Int32} {s : State} (hD : ∀ (c : Nat) (q : vw_C), vwCl[c]? = some q → u_Kn s q.1 q.2.1 q.2.2 (D.1 c) (D.2 c)) (hA : (ArrOfT s (dA 21) .int ∧ va_RA s (dA 21) .int) ∧ (ArrOfT s (dA 22) .char ∧ va_RA s (dA 22) .char) ∧ (ArrOfT s (dA 23) .boolean ∧ va_RA s (dA 23) .boolean) ∧ (ArrOfT s (dA 31) (.object "FrontCache$Resource") ∧ va_RA s (dA 31) (.object "FrontCache$Resource")) ∧ (ArrOfT s (dA 32) (.object "FrontCache$Origin") ∧ va_RA s (dA 32) (.object "FrontCache$Origin")) ∧ (ArrOfT s (dA 33) (.object "FrontCache$Connection") ∧ va_RA s (dA 33) (.object "FrontCache$Connection")) ∧ (ArrOfT s (dA 34) (.object "FrontCache$Request") ∧ va_RA s (dA 34) (.object "FrontCache$Request")) ∧ (ArrOfT s (dA 35) (.object "FrontCache$Entry") ∧ va_RA s (dA 35) (.object "FrontCache$Entry")) ∧ (ArrOfT s (dA 36) (.object "FrontCache$Message") ∧ va_RA s (dA 36) (.object "FrontCache$Message"))) : va_K D vwCl (ex_tys (l, D, dA, adK, adV, b, L, xs)) s := by
  obtain ⟨h0, h1, h2, h3, h4, h5, h6, h7, h8⟩ := hA
  refine ⟨hD, fun k q hq => ?_⟩
  match k, hq with
  | 0, hq => exact (Option.some.inj (show some ((dA 21, .int) : ClassId × FieldType) = some q from hq)) ▸ h0
  | 1, hq => exact (Option.some.inj (show some ((dA 22, .char) : ClassId × FieldType) = some q from hq)) ▸ h1
  | 2, hq => exact (Option.some.inj (show some ((dA 23, .boolean) : ClassId × FieldType) = some q from hq)) ▸ h2
  | 3, hq => exact (Option.some.inj (show some ((dA 31, (.object "FrontCache$Resource")) : ClassId × FieldType) = some q from hq)) ▸ h3
  | 4, hq => exact (Option.some.inj (show some ((dA 32, (.object "FrontCache$Origin")) : ClassId × FieldType) = some q from hq)) ▸ h4
  | 5, hq => exact (Option.some.inj (show some ((dA 33, (.object "FrontCache$Connection")) : ClassId × FieldType) = some q from hq)) ▸ h5
  | 6, hq => exact (Option.some.inj (show some ((dA 34, (.object "FrontCache$Request")) : ClassId × FieldType) = some q from hq)) ▸ h6
  | 7, hq => exact (Option.some.inj (show some ((dA 35, (.object "FrontCache$Entry")) : ClassId × FieldType) = some q from hq)) ▸ h7
  | 8, hq => exact (Option.some.inj (show some ((dA 36, (.object "FrontCache$Message")) : ClassId × FieldType) = some q from hq)) ▸ h8
  | _ + 9, hq => simp [ex_tys] at hq
theorem wh_t1 : ∀ i, i < 7 → Cond.exactly (Term.string "FrontCache$Control" (sl_ix.getD i 0)) "java/lang/String" ∈ flatC (Jvm.Cond.and given_1 narrow_1) := by decide +kernel
theorem wh_t2 : ∀ i, i < 7 → Cond.eq (.field (Term.string "FrontCache$Control" (sl_ix.getD i 0)) "java/lang/String" "coder" "B") (.int 0) ∈ flatC (Jvm.Cond.and given_1 narrow_1) := by decide +kernel
theorem wh_t3 : ∀ i, i < 7 → Cond.arrayOf (.field (Term.string "FrontCache$Control" (sl_ix.getD i 0)) "java/lang/String" "value" "[B") .byte ∈ flatC (Jvm.Cond.and given_1 narrow_1) := by decide +kernel
theorem wh_t4 : ∀ i, i < 7 → Cond.eq (.length (.field (Term.string "FrontCache$Control" (sl_ix.getD i 0)) "java/lang/String" "value" "[B")) (.int (Int32.ofNat (sl_len.getD i 0))) ∈ flatC (Jvm.Cond.and given_1 narrow_1) := by decide +kernel
theorem wh_t5 : ∀ i, i < 7 → ∀ j, j < sl_len.getD i 0 → Cond.eq (.elem (.field (Term.string "FrontCache$Control" (sl_ix.getD i 0)) "java/lang/String" "value" "[B") (.int (Int32.ofNat j))) (.int ((sl_byt.getD i []).getD j 0)) ∈ flatC (Jvm.Cond.and given_1 narrow_1) := by decide +kernel
theorem wh_t6 : ∀ i, i < 7 → ∀ j, j < 7 → i ≠ j → Cond.not (Cond.eq (Term.string "FrontCache$Control" (sl_ix.getD i 0)) (Term.string "FrontCache$Control" (sl_ix.getD j 0))) ∈ flatC (Jvm.Cond.and given_1 narrow_1) ∨ Cond.not (Cond.eq (Term.string "FrontCache$Control" (sl_ix.getD j 0)) (Term.string "FrontCache$Control" (sl_ix.getD i 0))) ∈ flatC (Jvm.Cond.and given_1 narrow_1) := by decide +kernel
theorem wh_t7 : ∀ i, i < 7 → sl_len.getD i 0 < 2 ^ 31 := by decide +kernel
theorem wh_t8 : ∀ i, i < 7 → Cond.stringRef "FrontCache$Control" (sl_ix.getD i 0) (sl_tx.getD i "") ∈ tables_1 := by decide +kernel
theorem wh_S {args : Array Value} {s : State} {A : Nat → Prop} (hgv : (Jvm.Cond.and given_1 narrow_1).before args s = true) (hts : ∀ w ∈ lw_tbl, w.before args s = true) (hA : ∀ a : Nat, a < s.heap.size → ¬ A a) : ∃ adK adV : Nat → Nat, vk_S 7 sl_len sl_byt adK adV A s s.heap ∧ ∀ i, i < 7 → vk_R "FrontCache$Control" (sl_ix.getD i 0) (sl_tx.getD i "") (adK i) s := by
  have hs := flat_of_before _ hgv
  obtain ⟨adK, adV, h1, h2⟩ := vk_Sof (args := args) (s := s) (N := 7) (tm := fun i => (Term.string "FrontCache$Control" (sl_ix.getD i 0))) (len := sl_len) (byt := sl_byt) (A := A) wh_t7 (fun i hi => hs _ (wh_t1 i hi)) (fun i hi => hs _ (wh_t2 i hi)) (fun i hi => hs _ (wh_t3 i hi)) (fun i hi => hs _ (wh_t4 i hi)) (fun i hi j hj => hs _ (wh_t5 i hi j hj)) (fun i j hi hj hij => (wh_t6 i hi j hj hij).elim (fun h => Or.inl (hs _ h)) (fun h => Or.inr (hs _ h))) hA
  exact ⟨adK, adV, h1, fun i hi => vk_R.of (hts _ (List.mem_append_right _ (wh_t8 i hi))) (h2 i hi)⟩
theorem wh_n1 : ∀ q ∈ ex_NF, Cond.fieldLinkNest q.1 q.2.1 q.2.2.1 q.2.2.2.1 q.2.2.2.2.1 q.2.2.2.2.2 ∈ tables_1 := by decide +kernel
theorem wh_n2 : ∀ q ∈ ex_NM, Cond.methodLinkNest q.1 q.2.1 q.2.2.1 q.2.2.2 ∈ tables_1 := by decide +kernel
theorem wh_n3 : ∀ C ∈ ex_AO, Cond.arrayOver (.object C) ∈ tables_1 := by decide +kernel
theorem wh_X {l : Launch} {D : va_G} {dA : Nat → ClassId} {adK adV : Nat → Nat} {b L : Nat} {xs : Nat → Int32} {args : Array Value} {s : State} {A : Nat → Prop} (hgv : (Jvm.Cond.and given_1 narrow_1).before args s = true) (hts : ∀ w ∈ lw_tbl, w.before args s = true) (hA : ∀ a : Nat, a < s.heap.size → ¬ A a) (hX : va_X b L xs s s.heap) (hb : b < s.heap.size) (h1 : vk_S 7 sl_len sl_byt adK adV A s s.heap) (h2 : ∀ i, i < 7 → vk_R "FrontCache$Control" (sl_ix.getD i 0) (sl_tx.getD i "") (adK i) s) : ex_X (l, D, dA, adK, adV, b, L, xs) A s := by
  have hs := flat_of_before _ hgv
  refine ⟨fun q hq => va_Nw.of rfl (hts _ (List.mem_append_right _ (wh_n1 q hq))), fun q hq => va_Nw.of rfl (hts _ (List.mem_append_right _ (wh_n2 q hq))), fun C hC => va_AO.of (hts _ (List.mem_append_right _ (wh_n3 C hC))), hX, hb, hA b hb, h1, h2, ?_, ?_⟩
  · exact va_Zof (hts _ (List.mem_append_right _ (List.mem_of_getElem? (i := 318) (by decide +kernel)))) (hts _ (List.mem_append_right _ (List.mem_of_getElem? (i := 12) (by decide +kernel)))) (va_eqi (hs _ (by decide +kernel))) hA
  · exact va_Zqof (hts _ (List.mem_append_right _ (List.mem_of_getElem? (i := 334) (by decide +kernel)))) (hts _ (List.mem_append_right _ (List.mem_of_getElem? (i := 14) (by decide +kernel)))) (hs _ (by decide +kernel)) hA
theorem whole_start {p : Program} {e : Env} {s : State} {m : MethodId} {below : List Frame} {meth : Method} {c : Code} (l : Launch) {b L : Nat} {xs : Nat → Int32} (hL : L ≤ 2049) (C0 : lw_At p s m meth c b L xs) : W p l e room_1 s m #[Value.ref b] below meth c s.heap [] 0 0 (lw_Z below #[Value.ref b] s) (entryFrame m ([Value.ref b] : List Value).toArray 4) := by
  obtain ⟨g1, g2, g3, g4, g5, hts, g7, g8, g9, hgv, g11⟩ := C0
  have hA : ∀ a : Nat, a < s.heap.size → ¬ (fun q : Nat => s.heap.size ≤ q) a := fun a h => Nat.not_le.mpr h
  obtain ⟨D, hD⟩ := wh_cl hts
  obtain ⟨dA, hdA⟩ := wh_ar hts
  obtain ⟨adK, adV, h1, h2⟩ := wh_S hgv hts hA
  have hC : ex_C (l, D, dA, adK, adV, b, L, xs) 9 M_Law_law p room_1 s m #[Value.ref b] meth c (fun q : Nat => s.heap.size ≤ q) :=
    ⟨g1, g2, g4, g5, wh_ws hts, g3, g9, g11, by decide, by decide, wh_K hD hdA, fun q h => h, wh_X hgv hts hA g7 g8 h1 h2⟩
  obtain ⟨ls, e1, hLs⟩ := ex_L_entry m 4 [.inr (some b)] (show 1 ≤ 4 by omega)
  have e2 : entryFrame m ([Value.ref b] : List Value).toArray 4 = F0 m 0 ls [] := e1
  rw [e2]
  intro T hT X
  obtain ⟨t, a1, o, q1, q2, ⟨⟨r, K', I', F', er, eQ, -, -⟩, -⟩, L', hFE, hL'⟩ := sp_law (Γ := (l, D, dA, adK, adV, b, L, xs)) (b := 0) (I := fun _ _ _ => 0) (F := fun _ _ _ => none) (l1 := none) (l2 := none) (l3 := none) hL p e room_1 s m #[Value.ref b] below meth c (fun q : Nat => s.heap.size ≤ q) s.heap [] 0 0 607699 7279151 ls hC hLs (fun a h => absurd rfl h) (fun a h => absurd rfl h) va_S.rf (by decide) (by decide) (by decide) (by decide) T hT X
  subst eQ
  obtain ⟨f1, f2, f3⟩ := hFE
  exact ⟨t, a1, o, q1, q2, er, f1, f2, f3.weaken (fun y hy hlt => absurd hlt (Nat.not_lt.mpr (hL' y hy))) (Nat.le_refl _) (Nat.le_refl _)⟩
set_option maxHeartbeats 4000000 in
theorem lw_walk (l : Launch) (b : Addr) (xs : List Int32) : MetFree l x (headSpec (Jvm.Cond.code x code maxLocals ret :: tables_1) room_1) (lw_P b xs) (fun _ _ _ _ _ => True) lw_Q := by
  refine MetFree.of_bodyS (code := code) (maxLocals := maxLocals) (ret := ret) (by decide) ?_ ?_
  · intro args s m h hn
    obtain ⟨meth, c, h1, h2, h3, h4, h5, h6, -, -⟩ := Cond.code_spec hn (atoms_spec (ws := Jvm.Cond.code x code maxLocals ret :: tables_1) h _ List.mem_cons_self)
    exact ⟨meth, c, h1, h2, h3, h4, h5, h6⟩
  · intro p e s m args below meth c s₁ B hml0 hP _
    obtain ⟨rfl, hx, hbd, hgv⟩ := hP
    obtain ⟨scr, harrAt, hlist, hof, hsmall⟩ := hx
    obtain ⟨hcb, hkn, -, -⟩ := State.arrayAt?_spec harrAt
    have hown : s.vm.findClass R_law = some m.cls := findClass_of_methodNamed B.named
    have hts0 : ∀ c ∈ (Jvm.Cond.code x code maxLocals ret :: tables_1), c.before #[Value.ref b] s = true := atoms_spec (ws := Jvm.Cond.code x code maxLocals ret :: tables_1) B.pre
    have hts : ∀ w ∈ lw_tbl, w.before #[Value.ref b] s = true := k2_hts_sels lw_privs (fun w hw => hts0 w (List.mem_cons_of_mem _ hw)) lw_privs_ok
    have hml : c.maxLocals = 4 := B.maxLocals_eq (hts0 _ List.mem_cons_self)
    have X₀ : Stand p l e room_1 s m #[Value.ref b] below meth c s₁ [] 0 0 := Stand.of_body B
    have hh0 : s₁.heap = s.heap := by rw [B.state]; rfl
    have hsz : scr.slots.size = xs.length := by rw [← Array.length_toList, hlist, List.length_map]
    have hval : ∀ j : Nat, j < xs.length → scr.slots[j]? = some (.int (xs.getD j 0)) := fun j hj => by
      rw [← Array.getElem?_toList, hlist]
      simp [hj]
    have hbl : b < s.heap.size := (Array.getElem?_eq_some_iff.mp hcb).1
    have hX : va_X b xs.length (fun j => xs.getD j 0) s s.heap := ⟨scr, hcb, hof, hkn, hsz, hval⟩
    have K : W p l e room_1 s m #[Value.ref b] below meth c s₁.heap [] 0 0 (lw_Z below #[Value.ref b] s) (entryFrame m ([Value.ref b] : List Value).toArray 4) := by
      rw [hh0]
      exact whole_start l hbd ⟨B.exec, B.bytes, B.returns, hml, hown, hts, hX, hbl, B.notSynchronized, hgv, (name_of_methodNamed B.named B.method).1⟩
    obtain ⟨t, a1, o, b1, b2, b3⟩ := K s₁ rfl X₀
    exact ⟨t, o, a1, b1, b2, b3⟩
theorem lw_pre_spec {args : Array Value} {s : State} (h : (Jvm.Cond.and given_1 narrow_1).before args s = true) (hr : rest_1_c.before args s = true) : ∃ (b : Addr) (xs : List Int32), lw_P b xs args s := by
  have hs := flat_of_before _ h
  have hq := flat_of_before _ hr
  have hc : (Cond.count 1).before args s = true := hs _ (by decide +kernel)
  have harr : (Cond.arrayOf (.arg 0) .int).before args s = true := hs _ (by decide +kernel)
  have hle : (Cond.le (.length (.arg 0)) (.int 2049)).before args s = true := hs _ (by decide +kernel)
  have hlen : (Cond.isInt (.length (.arg 0))).before args s = true := hq _ (by decide +kernel)
  have hall : (Cond.all (.arg 0) (.isInt (.elem (.arg 0) (.index 0)))).before args s = true := hq _ (by decide +kernel)
  obtain ⟨b, xs, hb, hx⟩ := State.ints_of_pre rfl harr hlen hall
  have hsm : xs.length < 2 ^ 31 := hx.choose_spec.2.2.2
  have hev : (Term.length (.arg 0)).eval args s none [] s = some (.int xs.length.toInt32) := hx.length_eval hb
  have hv := Cond.le_ints hev (show (Term.int 2049).eval args s none [] s = some (.int 2049) from rfl)
  have hd : xs.length.toInt32 ≤ 2049 := by
    simpa [Cond.before, Cond.holds, hv] using hle
  have hN : xs.length ≤ 2049 := (Int32.ofNat_le_ofNat hsm (by decide)).mp (show Int32.ofNat xs.length ≤ Int32.ofNat 2049 from hd)
  exact ⟨b, xs, Cond.one_arg hc (show args[0]? = some (.ref b) from hb), hx, hN, h⟩
theorem lw_comes (l : Launch) : Comes l x (Jvm.Cond.code x code maxLocals ret :: tables_1) room_1 (fun tb e args s => Calls_1 tb e args s ∧ rest_1 tb e args s ∧ Pre_1 tb e args s)
    (fun _ _ args s o t => lw_Q args s o t) := by
  intro p e ha hc hk s m args below hf hfit hheap happ hpre
  obtain ⟨b, xs, hP⟩ := lw_pre_spec hpre.2.2 hpre.2.1
  obtain ⟨k, o, h1, h2, h3, hQ⟩ := lw_walk l b xs p e ha hc hk s m args below hf ((Spec.applies_iff_loose hf).mp happ).1 hP trivial
  exact ⟨k, o, h1, h2, h3, hQ⟩
theorem lw_frame {s t : State} {o : Outcome} {args : Array Value} (h : Framed s o t [] 607699 7279151) :
    Framed s o t (fieldLocs frame_1_writes args s ++ arrayLocs frame_1_arrays args s ++ staticLocs frame_1_statics s) 607699 7279151 := h
theorem lw_limb (L : Cond) (hL : ∀ (args : Array Value) (s t : State), L.after args s (.returned (some (.int 1))) t = true) :
    ArmFor flags0 classFile x code maxLocals ret World_1 tables_1 room_1 Calls_1 rest_1 Pre_1
      (fun tb e a s o t => postC L tb e a s o t ∧ Framed s o t (fieldLocs frame_1_writes a s ++ arrayLocs frame_1_arrays a s ++ staticLocs frame_1_statics s) 607699 7279151) := by
  intro l _ _ _ p e ha hc hk s m args below hf hfit hheap happ hpre
  obtain ⟨k, o, h1, h2, h3, rfl, hF⟩ := lw_comes l p e ha hc hk s m args below hf hfit hheap happ hpre
  exact ⟨k, _, h1, h2, h3, hL args s _, lw_frame hF⟩
theorem i_vc : Claimed_1_1 ∧ Claimed_1_2 := ⟨lw_limb limb_1_1 (fun args s t => by simp [limb_1_1, Cond.after, Cond.holds, Cond.value]), lw_limb limb_1_2 (fun args s t => Cond.after_iff.mpr (by
  first | (rw [show limb_1_2 = Cond.eq .result (.int 1) from rfl, Cond.eq_ints (x := 1) (y := 1) rfl rfl]; simp; done) | (simp [limb_1_2, Cond.value, Term.eval]; done)))⟩
