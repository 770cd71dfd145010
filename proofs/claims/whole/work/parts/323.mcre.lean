-- deps: 322
-- the model: create, what is read
/-- the first knots are these columns -/
def CoK (K : KA) (l : List (Int32 × Int32)) : Prop := ∀ j, j < l.length → nmV (l1 l j) (K.2.2.2.1 j) ∧ K.1 j = nI (if l2 l j = nI 1 then 11 else 12)
theorem l1_a (l : List (Int32 × Int32)) (y : Int32 × Int32) (j : Nat) (h : j < l.length) : l1 (l ++ [y]) j = l1 l j := by simp [l1, List.getD, List.getElem?_append_left h]
theorem l2_a (l : List (Int32 × Int32)) (y : Int32 × Int32) (j : Nat) (h : j < l.length) : l2 (l ++ [y]) j = l2 l j := by simp [l2, List.getD, List.getElem?_append_left h]
theorem l1_b (l : List (Int32 × Int32)) (y : Int32 × Int32) : l1 (l ++ [y]) l.length = y.1 := by simp [l1, List.getD]
theorem l2_b (l : List (Int32 × Int32)) (y : Int32 × Int32) : l2 (l ++ [y]) l.length = y.2 := by simp [l2, List.getD]
theorem CoK_add {K : KA} {l : List (Int32 × Int32)} {y : Int32 × Int32} {m : Nat} {v : Int64} (h : CoK K l) (h1 : nmV y.1 v) (h2 : nI m = nI (if y.2 = nI 1 then 11 else 12)) : CoK (kU K l.length (nI m) (-1) (-1) v) (l ++ [y]) := by
  intro j hj
  simp only [List.length_append, List.length_cons, List.length_nil] at hj
  by_cases q : j = l.length
  · subst q
    rw [l1_b, l2_b]
    simp only [kU, up1, reduceIte]
    exact ⟨h1, h2⟩
  · rw [l1_a _ _ _ (by omega), l2_a _ _ _ (by omega)]
    simp only [kU, up1, q, reduceIte]
    exact h j (by omega)
theorem anyB_e {f g : Nat → Bool} : ∀ n, (∀ j, j < n → f j = g j) → anyB f n = anyB g n := by
  intro n
  induction n with
  | zero => intro _; rfl
  | succ n ih =>
    intro h
    simp only [anyB]
    rw [ih (fun j hj => h j (by omega)), h n (by omega)]
theorem dupB_a (l : List (Int32 × Int32)) (y : Int32 × Int32) : dupB (l1 (l ++ [y])) (l ++ [y]).length = (dupB (l1 l) l.length || anyB (fun j => decide (y.1 = l1 l j)) l.length) := by
  rw [List.length_append, List.length_cons, List.length_nil]
  unfold dupB
  simp only [anyB]
  rw [l1_b]
  rw [anyB_e (f := fun i => anyB (fun j => decide (l1 (l ++ [y]) i = l1 (l ++ [y]) j)) i) (g := fun i => anyB (fun j => decide (l1 l i = l1 l j)) i) l.length (fun i hi => by
    rw [l1_a _ _ _ hi]
    exact anyB_e i (fun j hj => by rw [l1_a _ _ _ (by omega)]))]
  rw [anyB_e (f := fun j => decide (y.1 = l1 (l ++ [y]) j)) (g := fun j => decide (y.1 = l1 l j)) l.length (fun j hj => by rw [l1_a _ _ _ hj])]
