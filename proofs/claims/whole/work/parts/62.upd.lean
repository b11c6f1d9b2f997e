/-! What a change of the heap does to the class beside the state -/
theorem sl_and (r : Nat) : nI r &&& 15 = nI (r % 16) := by
  apply Int32.toBitVec_inj.mp
  apply BitVec.eq_of_toNat_eq
  have e : (15 : Nat) = 2 ^ 4 - 1 := by decide
  show ((BitVec.ofNat 32 r) &&& 15#32).toNat = (BitVec.ofNat 32 (r % 16)).toNat
  rw [BitVec.toNat_and, BitVec.toNat_ofNat, BitVec.toNat_ofNat, BitVec.toNat_ofNat, show (15 : Nat) % 2 ^ 32 = 2 ^ 4 - 1 by decide, Nat.and_two_pow_sub_one_eq_mod]
  omega
theorem sl_eq (r : Nat) : sl r = r % 16 := by
  unfold sl
  rw [sl_and, nI_clamp (by omega)]
theorem sl_win {M r : Nat} (hM : M < 2 ^ 30) (hr : r < 2 ^ 30) : nI M - 16 < nI r ↔ M < r + 16 := by
  rw [show (16 : Int32) = nI 16 from rfl, Int32.lt_iff_toInt_lt, pk_sub_toInt hM (by decide), nI_toInt (by omega)]
  omega
def xi (K : ex_K) (I : ex_I) (F : ex_F) (K' : ex_K) (I' : ex_I) (F' : ex_F) : Prop := xw (fun f _ => f ∈ xmut) K I F K' I' F'
theorem im_i : imm (fun f _ => f ∈ xmut) := fun _ _ h => h
section RU
variable {P : Nat → Nat → Prop} {K K' : ex_K} {I I' : ex_I} {F F' : ex_F} {a : Nat → Nat} {g : GH} {s s' : MS} {z t : Nat}
theorem xi_of (h : xw P K I F K' I' F') (hP : imm P) : xi K I F K' I' F' := xw_mono h (fun f c _ z => hP f c z)
theorem xi_0 (h : xw (fun _ _ => False) K I F K' I' F') : xi K I F K' I' F' := xw_mono h (fun _ _ _ z => z.elim)
theorem xi_rfl : xi K I F K I F := xw_rfl
theorem xi_trans {K'' : ex_K} {I'' : ex_I} {F'' : ex_F} (h : xi K I F K' I' F') (h' : xi K' I' F' K'' I'' F'') : xi K I F K'' I'' F'' := xw_trans h h'
/-- a cell is made and filled -/
theorem xw_made {n kd m : Nat} (fn : (K n).1 = 0) (h : xw (fun _ q => q = n) (ex_nk K n kd m) (ex_ni I n) (ex_nr F n) K' I' F') : xw (fun _ _ => False) K I F K' I' F' := by
  intro q hq
  have e : q ≠ n := fun w => hq (by rw [w]; exact fn)
  have h0 := xw_new (P := fun _ _ => False) (I := I) (F := F) (kd := kd) (n := m) fn q hq
  have hq' : (ex_nk K n kd m q).1 ≠ 0 := by rw [h0.1]; exact hq
  have h1 := h q hq'
  refine ⟨h1.1.trans h0.1, fun f _ => ⟨((h1.2 f e).1).trans (h0.2 f id).1, ((h1.2 f e).2).trans (h0.2 f id).2⟩⟩
theorem Rc_open (hR : Rc K I F a g 3 s) (ht : t < 3) : Rc K I F a g t s ∧ c_cn K I F a g t (s.1 24 t) (s.1 25 t) (s.1 26 t) (s.1 27 t) (s.2 (100 + t)) := by
  obtain ⟨r1, r2, r3, r4, r5, r6, r7, r8, r9, r10⟩ := hR
  exact ⟨⟨r1, r2, r3, r4, r5, fun u hu _ => r6 u hu (by omega), fun u hu _ => r7 u hu (by omega), r8, r9, r10⟩, r7 t ht (by omega)⟩
theorem Rc_close (hR : Rc K I F a g t s) (ht : t < 3) (hc : c_cn K I F a g t (s.1 24 t) (s.1 25 t) (s.1 26 t) (s.1 27 t) (s.2 (100 + t))) : Rc K I F a g 3 s := by
  obtain ⟨r1, r2, r3, r4, r5, r6, r7, r8, r9, r10⟩ := hR
  refine ⟨r1, r2, r3, r4, r5, fun u hu _ => r6 u hu (by omega), fun u hu _ => ?_, r8, r9, r10⟩
  by_cases e : u = t
  · subst e
    exact hc
  · exact r7 u hu e
/-- messages under way -/
def uP (a : Nat → Nat) : Nat → Nat → Prop := fun f q => (f = 613 ∧ q = a 5) ∨ (f = 36 ∧ q = a 6)
theorem im_u : imm (uP a) := fun f q h => by rcases h with ⟨rfl, -⟩ | ⟨rfl, -⟩ <;> decide
theorem Rc_uw (hR : Rc K I F a g z s) (h : xw (uP a) K I F K' I' F') {L : List (Nat → Int32)} (hc : c_uw K' I' F' a L) : Rc K' I' F' a g z (tu s 31 L) := by
  have hP : imm (uP a) := im_u
  obtain ⟨r1, r2, r3, r4, r5, r6, r7, r8, r9, r10⟩ := hR
  refine ⟨fx_x h hP r1, c_dr_x h r1 (by simp [uP]) (by simp [uP]) r2, c_st_x h hP (by simp [uP]) (by simp [uP]) (by simp [uP]) (fun _ => by simp [uP]) (fun _ => by simp [uP]) r3, by rw [tu_at]; exact hc, c_rs_x h hP r1 (by simp [uP]) r5, fun t ht hz => c_or_x h hP r1 ht (by simp [uP]) (by simp [uP]) (by simp [uP]) (r6 t ht hz), fun t ht hz => ?_, c_lt_x h hP r1 (by simp [uP]) (fun _ _ => by simp [uP]) r8, c_sc_x h r1 (by simp [uP]) (by simp [uP]) (by simp [uP]) r9, c_gh_x h r10⟩
  rw [tu_ne _ _ (by omega)]
  exact c_cn_x h hP r1 ht (by simp [uP, cnP]) (nqP_all (fun _ => by simp [uP]) (fun _ => by simp [uP]) (fun _ => by simp [uP]) (fun _ => by simp [uP]) _) (r7 t ht hz)
/-- the open connection -/
def hP (a : Nat → Nat) (t : Nat) : Nat → Nat → Prop := fun f q => (f ∈ [743, 744, 745, 746, 747, 748, 749] ∧ q = a (30 + t)) ∨ (f = 34 ∧ q = a (40 + t))
theorem im_h : imm (hP a t) := fun f q h => by
  rcases h with ⟨h, -⟩ | ⟨rfl, -⟩
  · have : ∀ f, f ∈ [743, 744, 745, 746, 747, 748, 749] → f ∈ xmut := by decide
    exact this f h
  · decide
theorem Rc_h (hR : Rc K I F a g t s) (ht : t < 3) (h : xw (hP a t) K I F K' I' F') (h1 : ∀ k, k ∉ [24, 25, 26, 27] → s'.1 k = s.1 k) (h2 : ∀ k u, u ≠ t → s'.1 k u = s.1 k u) (h3 : ∀ j, j ≠ 100 + t → s'.2 j = s.2 j) : Rc K' I' F' a g t s' := by
  have hi : imm (hP a t) := im_h
  obtain ⟨r1, r2, r3, r4, r5, r6, r7, r8, r9, r10⟩ := hR
  have n1 : ∀ f q, f ∉ [743, 744, 745, 746, 747, 748, 749, 34] → ¬ hP a t f q := fun f q hf w => by
    rcases w with ⟨w, -⟩ | ⟨rfl, -⟩
    · exact hf (List.mem_append_left [34] w)
    · exact hf (by decide)
  refine ⟨fx_x h hi r1, ?_, ?_, ?_, ?_, fun u hu hz => ?_, fun u hu hz => ?_, ?_, ?_, ?_⟩
  · have := c_dr_x h r1 (n1 _ _ (by decide)) (n1 _ _ (by decide)) r2
    unfold c_dr at this ⊢
    rw [h1 3 (by decide), h1 808 (by decide)]
    exact this
  · have := c_st_x h hi (n1 _ _ (by decide)) (n1 _ _ (by decide)) (n1 _ _ (by decide)) (fun _ => n1 _ _ (by decide)) (fun _ => n1 _ _ (by decide)) r3
    unfold c_st at this ⊢
    rw [h1 804 (by decide), h3 14 (by omega)]
    exact this
  · rw [h3 31 (by omega)]
    exact c_uw_x h hi (n1 _ _ (by decide)) (n1 _ _ (by decide)) r4
  · have := c_rs_x h hi r1 (n1 _ _ (by decide)) r5
    unfold c_rs at this ⊢
    rw [h1 8 (by decide), h1 9 (by decide), h1 10 (by decide), h1 11 (by decide)]
    exact this
  · have n : 300 + u ∉ [24, 25, 26, 27] := by simp; omega
    rw [h1 28 (by decide), h1 29 (by decide), h1 (300 + u) n]
    exact c_or_x h hi r1 hu (n1 _ _ (by decide)) (n1 _ _ (by decide)) (n1 _ _ (by decide)) (r6 u hu hz)
  · rw [h2 24 u hz, h2 25 u hz, h2 26 u hz, h2 27 u hz, h3 (100 + u) (by omega)]
    obtain ⟨-, f3, f4⟩ := r1.2.2.2.1 t u ht hu (Ne.symm hz)
    have m1 : ∀ f, f ≠ 34 → ¬ hP a t f (a (30 + u)) := fun f hf w => by
      rcases w with ⟨-, w⟩ | ⟨w, -⟩
      · exact f3 w.symm
      · exact hf w
    have m2 : ¬ hP a t 34 (a (40 + u)) := fun w => by
      rcases w with ⟨w, -⟩ | ⟨-, w⟩
      · exact absurd w (by decide)
      · exact f4 w.symm
    exact c_cn_x h hi r1 hu ⟨m1 _ (by decide), m1 _ (by decide), m1 _ (by decide), m1 _ (by decide), m1 _ (by decide), m1 _ (by decide), m1 _ (by decide), m2⟩ (nqP_all (fun _ => n1 _ _ (by decide)) (fun _ => n1 _ _ (by decide)) (fun _ => n1 _ _ (by decide)) (fun _ => n1 _ _ (by decide)) _) (r7 u hu hz)
  · have m2 : ¬ hP a t 34 (a 11) := fun w => by
      rcases w with ⟨w, -⟩ | ⟨-, w⟩
      · exact absurd w (by decide)
      · exact r1.2.2.2.2 t ht w.symm
    have := c_lt_x h hi r1 m2 (fun _ _ => ⟨n1 _ _ (by decide), n1 _ _ (by decide), n1 _ _ (by decide), n1 _ _ (by decide)⟩) r8
    unfold c_lt at this ⊢
    rw [h1 17 (by decide), h1 18 (by decide), h1 19 (by decide), h1 20 (by decide)]
    exact this
  · have := c_sc_x h r1 (n1 _ _ (by decide)) (n1 _ _ (by decide)) (n1 _ _ (by decide)) r9
    unfold c_sc at this ⊢
    rw [h1 805 (by decide), h1 806 (by decide), h1 820 (by decide)]
    exact this
  · have := c_gh_x h r10
    unfold c_gh at this ⊢
    rw [h1 820 (by decide), h1 817 (by decide)]
    exact this
/-- a request's answer -/
def rP (g : GH) (r : Nat) : Nat → Nat → Prop := fun f q => (f = 492 ∨ f = 493 ∨ f = 494 ∨ f = 495) ∧ q = g.2.1 r
theorem im_r {r : Nat} : imm (rP g r) := fun f q h => by rcases h with ⟨rfl | rfl | rfl | rfl, -⟩ <;> decide
theorem m_rep_c (r c t1 ag w : Int32) {k : Nat} (h : k ∉ [17, 18, 19, 20]) : (m_rep s r c t1 ag w).1 k = s.1 k := m_rep_1 s r c t1 ag w h
theorem Rc_rep {r : Nat} {c t1 ag w : Int32} (hR : Rc K I F a g z s) (h1 : 1 ≤ r) (h2 : r ≤ g.2.2.1) (h : xw (rP g r) K I F K' I' F') (e1 : I' 492 (g.2.1 r) 0 = c) (e2 : I' 493 (g.2.1 r) 0 = t1) (e3 : I' 494 (g.2.1 r) 0 = ag) (e4 : I' 495 (g.2.1 r) 0 = w)
    (hq : ∀ t, t < 3 → t ≠ z → ∀ w', w' ∈ s.2 (100 + t) → ¬ w' 0 = nI r) : Rc K' I' F' a g z (m_rep s (nI r) c t1 ag w) := by
  have hi : imm (rP g r) := im_r
  obtain ⟨r1, r2, r3, r4, r5, r6, r7, r8, r9, r10⟩ := hR
  have n1 : ∀ f q, f ∉ [492, 493, 494, 495] → ¬ rP g r f q := fun f q hf w => by
    rcases w with ⟨rfl | rfl | rfl | rfl, -⟩ <;> exact hf (by decide)
  have M1 := r10.1
  have M2 := r10.2.1
  have q2 : ∀ j, (m_rep s (nI r) c t1 ag w).2 j = s.2 j := fun j => by rw [m_rep_2]
  have q1 : ∀ k, k ∉ [17, 18, 19, 20] → (m_rep s (nI r) c t1 ag w).1 k = s.1 k := fun k hk => m_rep_1 s _ _ _ _ _ hk
  refine ⟨fx_x h hi r1, ?_, ?_, ?_, ?_, fun u hu hz => ?_, fun u hu hz => ?_, ?_, ?_, ?_⟩
  · have := c_dr_x h r1 (n1 _ _ (by decide)) (n1 _ _ (by decide)) r2
    unfold c_dr at this ⊢
    rw [q1 3 (by decide), q1 808 (by decide)]
    exact this
  · have := c_st_x h hi (n1 _ _ (by decide)) (n1 _ _ (by decide)) (n1 _ _ (by decide)) (fun _ => n1 _ _ (by decide)) (fun _ => n1 _ _ (by decide)) r3
    unfold c_st at this ⊢
    rw [q1 804 (by decide), q2 14]
    exact this
  · rw [q2 31]
    exact c_uw_x h hi (n1 _ _ (by decide)) (n1 _ _ (by decide)) r4
  · have := c_rs_x h hi r1 (n1 _ _ (by decide)) r5
    unfold c_rs at this ⊢
    rw [q1 8 (by decide), q1 9 (by decide), q1 10 (by decide), q1 11 (by decide)]
    exact this
  · have n : 300 + u ∉ [17, 18, 19, 20] := by simp; omega
    rw [q1 28 (by decide), q1 29 (by decide), q1 (300 + u) n]
    exact c_or_x h hi r1 hu (n1 _ _ (by decide)) (n1 _ _ (by decide)) (n1 _ _ (by decide)) (r6 u hu hz)
  · rw [q1 24 (by decide), q1 25 (by decide), q1 26 (by decide), q1 27 (by decide), q2 (100 + u)]
    refine c_cn_x h hi r1 hu ⟨n1 _ _ (by decide), n1 _ _ (by decide), n1 _ _ (by decide), n1 _ _ (by decide), n1 _ _ (by decide), n1 _ _ (by decide), n1 _ _ (by decide), n1 _ _ (by decide)⟩ (fun p w' _ hw hp => ?_) (r7 u hu hz)
    have np : p ≠ g.2.1 r := fun e => hq u hu hz w' hw (by rw [← hp, e]; exact (r8.1 r h1 h2).2)
    exact ⟨n1 _ _ (by decide), fun w => np w.2, fun w => np w.2, fun w => np w.2⟩
  · refine ⟨fun r' a1 a2 => ?_, fun r' a1 a2 a3 => ?_⟩
    · obtain ⟨b1, b2⟩ := r8.1 r' a1 a2
      exact ⟨xw_K h (by decide) b1, by rw [xw_i h (by decide) b1 (im_n hi (by decide))]; exact b2⟩
    · obtain ⟨b1, b2⟩ := r8.1 r' a1 a2
      obtain ⟨c1, c2, c3, c4, c5⟩ := r8.2 r' a1 a2 a3
      have k1 : (K (a 11)).1 = 34 := by rw [r1.2.1.2.2.2.2.1]
      have l1 : F' 34 (a 11) = F 34 (a 11) := xw_f h (by decide) k1 (n1 _ _ (by decide))
      unfold m_rep
      rw [M1]
      by_cases e : r' = r
      · subst e
        rw [if_pos ((sl_win M2 (by omega)).mpr a3)]
        refine ⟨by rw [l1]; exact c1, ?_, ?_, ?_, ?_⟩
        · rw [e1, cw_ne _ _ _ (by decide), cw_ne _ _ _ (by decide), cw_ne _ _ _ (by decide), cw_at]
          exact (if_pos rfl).symm
        · rw [e2, cw_ne _ _ _ (by decide), cw_ne _ _ _ (by decide), cw_at, cw_ne _ _ _ (by decide)]
          exact (if_pos rfl).symm
        · rw [e3, cw_ne _ _ _ (by decide), cw_at, cw_ne _ _ _ (by decide), cw_ne _ _ _ (by decide)]
          exact (if_pos rfl).symm
        · rw [e4, cw_at, cw_ne _ _ _ (by decide), cw_ne _ _ _ (by decide), cw_ne _ _ _ (by decide)]
          exact (if_pos rfl).symm
      · have np : g.2.1 r' ≠ g.2.1 r := fun w => e (by
          have := (r8.1 r h1 h2).2
          rw [← w, b2] at this
          exact (nI_eq (by omega) (by omega)).mp this)
        have nr : ∀ f, ¬ rP g r f (g.2.1 r') := fun f w => np w.2
        refine ⟨by rw [l1]; exact c1, ?_, ?_, ?_, ?_⟩
        all_goals
          rw [xw_i h (by decide) b1 (nr _)]
          split
          · rename_i hc
            have hc' := (sl_win M2 (by omega)).mp hc
            have ns : sl r' ≠ sl r := by rw [sl_eq, sl_eq]; omega
            have ns' : sl r' ≠ (nI r &&& 15).toNatClampNeg := ns
            first
              | rw [cw_ne _ _ _ (by decide), cw_ne _ _ _ (by decide), cw_ne _ _ _ (by decide), cw_at, show ∀ (X : Nat → Int32) (x : Int32), upd1 X (nI r &&& 15).toNatClampNeg x (sl r') = X (sl r') from fun X x => if_neg ns']; exact c2
              | rw [cw_ne _ _ _ (by decide), cw_ne _ _ _ (by decide), cw_at, cw_ne _ _ _ (by decide), show ∀ (X : Nat → Int32) (x : Int32), upd1 X (nI r &&& 15).toNatClampNeg x (sl r') = X (sl r') from fun X x => if_neg ns']; exact c3
              | rw [cw_ne _ _ _ (by decide), cw_at, cw_ne _ _ _ (by decide), cw_ne _ _ _ (by decide), show ∀ (X : Nat → Int32) (x : Int32), upd1 X (nI r &&& 15).toNatClampNeg x (sl r') = X (sl r') from fun X x => if_neg ns']; exact c4
              | rw [cw_at, cw_ne _ _ _ (by decide), cw_ne _ _ _ (by decide), cw_ne _ _ _ (by decide), show ∀ (X : Nat → Int32) (x : Int32), upd1 X (nI r &&& 15).toNatClampNeg x (sl r') = X (sl r') from fun X x => if_neg ns']; exact c5
          · first
              | exact c2
              | exact c3
              | exact c4
              | exact c5
  · have := c_sc_x h r1 (n1 _ _ (by decide)) (n1 _ _ (by decide)) (n1 _ _ (by decide)) r9
    unfold c_sc at this ⊢
    rw [q1 805 (by decide), q1 806 (by decide), q1 820 (by decide)]
    exact this
  · have := c_gh_x h r10
    unfold c_gh at this ⊢
    rw [q1 820 (by decide), q1 817 (by decide)]
    exact this
end RU
