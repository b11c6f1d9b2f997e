/-! Arrays replaced as a whole; shifts; comparisons -/
def ex_wi (I : ex_I) (f a : Nat) (X : Nat → Int32) : ex_I := fun g => if g = f then (fun q => if q = a then X else I f q) else I g
def ex_wf (F : ex_F) (f a : Nat) (X : Nat → Option Nat) : ex_F := fun g => if g = f then (fun q => if q = a then X else F f q) else F g
theorem ex_ui_w (I : ex_I) (f a i : Nat) (x : Int32) : ex_ui I f a i x = ex_wi I f a (fun j => if j = i then x else I f a j) := rfl
theorem ex_uf_w (F : ex_F) (f a i : Nat) (x : Option Nat) : ex_uf F f a i x = ex_wf F f a (fun j => if j = i then x else F f a j) := rfl
theorem ex_wi_at (I : ex_I) (f a : Nat) (X : Nat → Int32) : ex_wi I f a X f a = X := by simp only [ex_wi, if_true]
theorem ex_wf_at (F : ex_F) (f a : Nat) (X : Nat → Option Nat) : ex_wf F f a X f a = X := by simp only [ex_wf, if_true]
theorem ex_wi_f (I : ex_I) {f g : Nat} (a : Nat) (X : Nat → Int32) (h : g ≠ f) : ex_wi I f a X g = I g := if_neg h
theorem ex_wf_f (F : ex_F) {f g : Nat} (a : Nat) (X : Nat → Option Nat) (h : g ≠ f) : ex_wf F f a X g = F g := if_neg h
theorem ex_wi_ne (I : ex_I) (f : Nat) {a q : Nat} (X : Nat → Int32) (h : q ≠ a) (g : Nat) : ex_wi I f a X g q = I g q := by
  by_cases z : g = f
  · subst z
    simp only [ex_wi, if_true, if_neg h]
  · rw [ex_wi_f I a X z]
theorem ex_wf_ne (F : ex_F) (f : Nat) {a q : Nat} (X : Nat → Option Nat) (h : q ≠ a) (g : Nat) : ex_wf F f a X g q = F g q := by
  by_cases z : g = f
  · subst z
    simp only [ex_wf, if_true, if_neg h]
  · rw [ex_wf_f F a X z]
theorem ex_wi_wi (I : ex_I) (f a : Nat) (X Y : Nat → Int32) : ex_wi (ex_wi I f a X) f a Y = ex_wi I f a Y := by
  funext g q
  by_cases h : g = f
  · subst h
    by_cases e : q = a
    · subst e
      simp only [ex_wi, if_true]
    · simp only [ex_wi, if_true, if_neg e]
  · simp only [ex_wi, if_neg h]
theorem ex_wf_wf (F : ex_F) (f a : Nat) (X Y : Nat → Option Nat) : ex_wf (ex_wf F f a X) f a Y = ex_wf F f a Y := by
  funext g q
  by_cases h : g = f
  · subst h
    by_cases e : q = a
    · subst e
      simp only [ex_wf, if_true]
    · simp only [ex_wf, if_true, if_neg e]
  · simp only [ex_wf, if_neg h]
theorem ex_wi_id (I : ex_I) (f a : Nat) : ex_wi I f a (I f a) = I := by
  funext g q
  by_cases h : g = f
  · subst h
    by_cases e : q = a
    · subst e
      simp only [ex_wi, if_true]
    · simp only [ex_wi, if_true, if_neg e]
  · simp only [ex_wi, if_neg h]
theorem ex_wf_id (F : ex_F) (f a : Nat) : ex_wf F f a (F f a) = F := by
  funext g q
  by_cases h : g = f
  · subst h
    by_cases e : q = a
    · subst e
      simp only [ex_wf, if_true]
    · simp only [ex_wf, if_true, if_neg e]
  · simp only [ex_wf, if_neg h]
theorem ex_wi_u (I : ex_I) (f a i : Nat) (X : Nat → Int32) (x : Int32) : ex_ui (ex_wi I f a X) f a i x = ex_wi I f a (fun j => if j = i then x else X j) := by
  rw [ex_ui_w, ex_wi_wi, ex_wi_at]
theorem ex_wf_u (F : ex_F) (f a i : Nat) (X : Nat → Option Nat) (x : Option Nat) : ex_uf (ex_wf F f a X) f a i x = ex_wf F f a (fun j => if j = i then x else X j) := by
  rw [ex_uf_w, ex_wf_wf, ex_wf_at]
/-- the places from a up to k hold what stood d further on -/
def shf {α : Type} (X : Nat → α) (a k d : Nat) : Nat → α := fun j => if a ≤ j ∧ j < k then X (j + d) else X j
theorem shf_0 {α : Type} (X : Nat → α) (a d : Nat) : shf X a a d = X := by
  funext j
  unfold shf
  rw [if_neg (by omega)]
theorem shf_s {α : Type} (X : Nat → α) {a k : Nat} (d : Nat) (h : a ≤ k) : (fun j => if j = k then X (k + d) else shf X a k d j) = shf X a (k + 1) d := by
  funext j
  unfold shf
  by_cases e : j = k
  · rw [if_pos e, if_pos (by omega), e]
  · rw [if_neg e]
    by_cases z : a ≤ j ∧ j < k
    · rw [if_pos z, if_pos (by omega)]
    · rw [if_neg z, if_neg (by omega)]
theorem shf_up {α : Type} (X : Nat → α) (a k : Nat) {d j : Nat} (h : k ≤ j) : shf X a k d j = X j := by
  unfold shf
  rw [if_neg (by omega)]
theorem shf_erase {α : Type} {X : Nat → Option α} {L : List α} {i : Nat} (hi : i < L.length) (h : ∀ j p, L[j]? = some p → X j = some p) : ∀ j p, (L.eraseIdx i)[j]? = some p → shf X i (L.length - 1) 1 j = some p := by
  intro j p hj
  rw [List.getElem?_eraseIdx] at hj
  unfold shf
  by_cases e : j < i
  · rw [if_pos e] at hj
    rw [if_neg (by omega)]
    exact h j p hj
  · rw [if_neg e] at hj
    have := (List.getElem?_eq_some_iff.mp hj).1
    rw [if_pos (by omega)]
    exact h (j + 1) p hj
/-- comparisons of small numbers -/
theorem n_lt {x y : Int32} {a b : Nat} (hx : x = nI a) (hy : y = nI b) (ha : a < 2 ^ 31) (hb : b < 2 ^ 31) : x < y ↔ a < b := by rw [hx, hy]; exact nI_ltI ha hb
theorem n_le {x y : Int32} {a b : Nat} (hx : x = nI a) (hy : y = nI b) (ha : a < 2 ^ 31) (hb : b < 2 ^ 31) : x ≤ y ↔ a ≤ b := by rw [hx, hy]; exact nI_leI ha hb
theorem n_eq {x y : Int32} {a b : Nat} (hx : x = nI a) (hy : y = nI b) (ha : a < 2 ^ 31) (hb : b < 2 ^ 31) : x = y ↔ a = b := by rw [hx, hy]; exact nI_eq ha hb
theorem n_in {x : Int32} {a n : Nat} (hx : x = nI a) (h : a < n) (hn : n < 2 ^ 31) : vp_in x n := by rw [hx]; exact vp_in_nI h hn
theorem n_cl {x : Int32} {a : Nat} (hx : x = nI a) (h : a < 2 ^ 31) : x.toNatClampNeg = a := by rw [hx]; exact nI_clamp h
theorem n_p {x : Int32} {a : Nat} (hx : x = nI a) (h : a < 2 ^ 31) : ¬ x < 0 := by rw [hx]; exact nI_pos h
