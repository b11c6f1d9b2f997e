/-! Lists, row by row -/
def f2 {α β : Type} (R : α → β → Prop) : List α → List β → Prop
  | [], [] => True
  | a :: l, b :: m => R a b ∧ f2 R l m
  | [], _ :: _ => False
  | _ :: _, [] => False
theorem f2_len {α β : Type} {R : α → β → Prop} : ∀ {l : List α} {m : List β}, f2 R l m → l.length = m.length := by
  intro l
  induction l with
  | nil =>
    intro m h
    cases m with
    | nil => rfl
    | cons b m => exact h.elim
  | cons a l ih =>
    intro m h
    cases m with
    | nil => exact h.elim
    | cons b m => simp only [List.length_cons, ih h.2]
theorem f2_get {α β : Type} {R : α → β → Prop} : ∀ {l : List α} {m : List β}, f2 R l m → ∀ {i : Nat} {a : α}, l[i]? = some a → ∃ b, m[i]? = some b ∧ R a b := by
  intro l
  induction l with
  | nil => intro m h i a ha; simp at ha
  | cons x l ih =>
    intro m h i a ha
    cases m with
    | nil => exact h.elim
    | cons b m =>
      cases i with
      | zero =>
        have e : x = a := by simpa using ha
        subst e
        exact ⟨b, rfl, h.1⟩
      | succ i => exact ih h.2 (by simpa using ha)
theorem f2_getr {α β : Type} {R : α → β → Prop} : ∀ {l : List α} {m : List β}, f2 R l m → ∀ {i : Nat} {b : β}, m[i]? = some b → ∃ a, l[i]? = some a ∧ R a b := by
  intro l
  induction l with
  | nil =>
    intro m h i b hb
    cases m with
    | nil => simp at hb
    | cons y m => exact h.elim
  | cons x l ih =>
    intro m h i b hb
    cases m with
    | nil => exact h.elim
    | cons y m =>
      cases i with
      | zero =>
        have e : y = b := by simpa using hb
        subst e
        exact ⟨x, rfl, h.1⟩
      | succ i => exact ih h.2 (by simpa using hb)
theorem f2_mono {α β : Type} {R R' : α → β → Prop} : ∀ {l : List α} {m : List β}, (∀ a, a ∈ l → ∀ b, R a b → R' a b) → f2 R l m → f2 R' l m := by
  intro l
  induction l with
  | nil =>
    intro m hm h
    cases m with
    | nil => trivial
    | cons b m => exact h.elim
  | cons x l ih =>
    intro m hm h
    cases m with
    | nil => exact h.elim
    | cons y m => exact ⟨hm x List.mem_cons_self y h.1, ih (fun a ha => hm a (List.mem_cons_of_mem _ ha)) h.2⟩
theorem f2_app {α β : Type} {R : α → β → Prop} : ∀ {l : List α} {m : List β} {l' : List α} {m' : List β}, f2 R l m → f2 R l' m' → f2 R (l ++ l') (m ++ m') := by
  intro l
  induction l with
  | nil =>
    intro m l' m' h h'
    cases m with
    | nil => exact h'
    | cons b m => exact h.elim
  | cons x l ih =>
    intro m l' m' h h'
    cases m with
    | nil => exact h.elim
    | cons y m => exact ⟨h.1, ih h.2 h'⟩
theorem f2_erase {α β : Type} {R : α → β → Prop} : ∀ {l : List α} {m : List β} (i : Nat), f2 R l m → f2 R (l.eraseIdx i) (m.eraseIdx i) := by
  intro l
  induction l with
  | nil =>
    intro m i h
    cases m with
    | nil => exact h
    | cons b m => exact h.elim
  | cons x l ih =>
    intro m i h
    cases m with
    | nil => exact h.elim
    | cons y m =>
      cases i with
      | zero => exact h.2
      | succ i => exact ⟨h.1, ih i h.2⟩
theorem f2_filter {α β : Type} {R : α → β → Prop} {p : α → Bool} {q : β → Bool} (hpq : ∀ a b, R a b → p a = q b) : ∀ {l : List α} {m : List β}, f2 R l m → f2 R (l.filter p) (m.filter q) := by
  intro l
  induction l with
  | nil =>
    intro m h
    cases m with
    | nil => trivial
    | cons b m => exact h.elim
  | cons x l ih =>
    intro m h
    cases m with
    | nil => exact h.elim
    | cons y m =>
      have e := hpq x y h.1
      by_cases hp : p x = true
      · rw [List.filter_cons_of_pos hp, List.filter_cons_of_pos (by rw [← e]; exact hp)]
        exact ⟨h.1, ih h.2⟩
      · rw [List.filter_cons_of_neg hp, List.filter_cons_of_neg (by rw [← e]; exact hp)]
        exact ih h.2
/-- from the last row down to the first: the rows that p names go -/
def dl {α : Type} (p : α → Bool) : Nat → List α → List α
  | 0, L => L
  | i + 1, L => dl p i (if (L[i]?).any p = true then L.eraseIdx i else L)
theorem dl_eq {α : Type} (p : α → Bool) : ∀ (i : Nat) (L : List α), i ≤ L.length → dl p i L = (L.take i).filter (fun x => !p x) ++ L.drop i := by
  intro i
  induction i with
  | zero => intro L _; simp [dl]
  | succ i ih =>
    intro L hi
    have hx : L[i]? = some L[i] := List.getElem?_eq_getElem (by omega)
    have hd : L.drop i = L[i] :: L.drop (i + 1) := List.drop_eq_getElem_cons (by omega)
    have ht : L.take (i + 1) = L.take i ++ [L[i]] := by rw [List.take_succ, hx]; rfl
    rw [dl, hx, ht, List.filter_append]
    by_cases hp : p L[i] = true
    · have e1 : (L.eraseIdx i).take i = L.take i := by
        rw [List.eraseIdx_eq_take_drop_succ, List.take_append_of_le_length (by simp; omega), List.take_take, Nat.min_self]
      have e2 : (L.eraseIdx i).drop i = L.drop (i + 1) := by
        rw [List.eraseIdx_eq_take_drop_succ, List.drop_append_of_le_length (by simp; omega)]
        rw [List.drop_eq_nil_of_le (by simp; omega), List.nil_append]
      rw [if_pos (by simpa using hp), ih _ (by rw [List.length_eraseIdx, if_pos (by omega)]; omega), e1, e2]
      simp [hp]
    · rw [if_neg (by simpa using hp), ih _ (by omega), hd]
      simp [hp]
theorem dl_all {α : Type} (p : α → Bool) (L : List α) : dl p L.length L = L.filter (fun x => !p x) := by
  rw [dl_eq p _ _ (Nat.le_refl _)]
  simp
/-! The text of a control: places, names, numbers -/
/-- past the blanks from a on, up to b -/
def tx_l (f : Nat → Int32) (b : Nat) : Nat → Nat → Nat
  | 0, a => a
  | k + 1, a => if a < b ∧ f a = 32 then tx_l f b k (a + 1) else a
/-- before the blanks that end at b, down to a -/
def tx_r (f : Nat → Int32) (a : Nat) : Nat → Nat
  | 0 => 0
  | b + 1 => if a < b + 1 ∧ f b = 32 then tx_r f a b else b + 1
def tx_c (c : Int32) : Bool := (decide (97 ≤ c) && decide (c ≤ 122)) || decide (c = 45)
/-- the end of the name from a on -/
def tx_n (f : Nat → Int32) (b : Nat) : Nat → Nat → Nat
  | 0, a => a
  | k + 1, a => if a < b ∧ tx_c (f a) = true then tx_n f b k (a + 1) else a
/-- the digits from a to b -/
def tx_v (f : Nat → Int32) (b : Nat) : Nat → Nat → Int32 → Int32
  | 0, _, v => v
  | k + 1, a, v => if a < b then (if f a < 48 ∨ 57 < f a then -1 else tx_v f b k (a + 1) (10 * v + (f a - 48))) else v
/-- what stands behind the name: 0, a number, or -1 -/
def tx_w (f : Nat → Int32) (e b : Nat) : Int32 :=
  if e = b then 0 else if f e = 61 ∧ e + 2 ≤ b ∧ b ≤ e + 6 then tx_v f b (b - (e + 1)) (e + 1) 0 else -1
def tx_names : List (List Int32) := [[110, 111, 45, 99, 97, 99, 104, 101], [110, 111, 45, 115, 116, 111, 114, 101], [112, 114, 105, 118, 97, 116, 101], [111, 110, 108, 121, 45, 105, 102, 45, 99, 97, 99, 104, 101, 100], [109, 97, 120, 45, 97, 103, 101], [115, 45, 109, 97, 120, 97, 103, 101], [109, 105, 110, 45, 102, 114, 101, 115, 104]]
def tx_is (f : Nat → Int32) (a e d : Nat) : Bool := decide (e = a + (tx_names.getD d []).length) && (List.range (tx_names.getD d []).length).all (fun k => decide (f (a + k) = (tx_names.getD d []).getD k 0))
/-- the name's number, or 7 -/
def tx_d (f : Nat → Int32) (a e : Nat) : Nat → Nat → Nat
  | 0, d => d
  | k + 1, d => if tx_is f a e d = true then d else tx_d f a e k (d + 1)
def tx_learn (N : Nat → Int32) (d : Nat) (v : Int32) : Nat → Int32 := fun j => if j = d ∧ N d = -1 then v else N j
/-- an element from a to b is read -/
def tx_e (f : Nat → Int32) (a b : Nat) (N : Nat → Int32) : Nat → Int32 :=
  let s := tx_l f b (b - a) a
  let t := tx_r f s b
  let e := tx_n f t (t - s) s
  let v := tx_w f e t
  let d := tx_d f s e 7 0
  if v = -1 ∨ d = 7 then N else tx_learn N d v
/-- from place i on, the element began at a -/
def tx_p (f : Nat → Int32) (n : Nat) : Nat → Nat → Nat → (Nat → Int32) → (Nat → Int32)
  | 0, _, _, N => N
  | k + 1, i, a, N => if i = n ∨ f i = 44 then tx_p f n k (i + 1) (i + 1) (tx_e f a i N) else tx_p f n k (i + 1) a N
/-- the whole text -/
def tx_all (f : Nat → Int32) (n : Nat) : Nat → Int32 := tx_p f n (n + 1) 0 0 (fun _ => -1)
/-- the four numbers that a control comes to -/
def tx_b (x v : Int32) : Int32 := if x = -1 then 0 else v
def tx_4 (N : Nat → Int32) : Nat → Int32 := fun j => match j with
  | 0 => tx_b (N 0) 1 + tx_b (N 1) 2 + tx_b (N 2) 4 + tx_b (N 3) 8
  | 1 => if N 5 = -1 then N 4 else N 5
  | 2 => N 4
  | _ => N 6
theorem tx_l_le (f : Nat → Int32) (b : Nat) : ∀ k a, a ≤ tx_l f b k a ∧ (a ≤ b → tx_l f b k a ≤ b) := by
  intro k
  induction k with
  | zero => intro a; exact ⟨Nat.le_refl _, fun h => h⟩
  | succ k ih =>
    intro a
    unfold tx_l
    split
    · rename_i h
      have := ih (a + 1)
      omega
    · omega
theorem tx_r_le (f : Nat → Int32) (a : Nat) : ∀ b, tx_r f a b ≤ b ∧ (a ≤ b → a ≤ tx_r f a b) := by
  intro b
  induction b with
  | zero => exact ⟨Nat.le_refl _, fun h => h⟩
  | succ b ih =>
    unfold tx_r
    split
    · omega
    · omega
theorem tx_n_le (f : Nat → Int32) (b : Nat) : ∀ k a, a ≤ tx_n f b k a ∧ (a ≤ b → tx_n f b k a ≤ b) := by
  intro k
  induction k with
  | zero => intro a; exact ⟨Nat.le_refl _, fun h => h⟩
  | succ k ih =>
    intro a
    unfold tx_n
    split
    · rename_i h
      have := ih (a + 1)
      omega
    · omega
