-- tools for walking a method by its stretches
section
variable {M M' : MD} {h h' pc pc' : Nat} {L L' : LVs} {st st' : List AV} {S S' : ST} {Q Q' : Option AV → ST → Prop} {A B : Prop}
theorem br_V (a : A → V M h pc L st S Q) (b : B → V M' h' pc' L' st' S' Q') : (A → V M h pc L st S Q) ∧ (B → V M' h' pc' L' st' S' Q') := ⟨a, b⟩
theorem br_C (a : A → V M h pc L st S Q) (b : B) : (A → V M h pc L st S Q) ∧ B := ⟨a, b⟩
theorem an_I {i : Int32} {n : Nat} (a : vp_in i n) (b : B) : vp_in i n ∧ B := ⟨a, b⟩
theorem an_V (a : A) (b : V M h pc L st S Q) : A ∧ V M h pc L st S Q := ⟨a, b⟩
theorem an_A (a : A) (b : B ∧ V M h pc L st S Q) : A ∧ B ∧ V M h pc L st S Q := ⟨a, b⟩
end
-- numbers: ints that are nI of a number
theorem n_lt0 {n : Nat} (h : n < 2 ^ 31) : (nI n < nI 0) = False := by simp only [nI_ltI h (by decide : 0 < 2 ^ 31), Nat.not_lt_zero]
theorem n_ge0 {n : Nat} (h : n < 2 ^ 31) : (nI 0 ≤ nI n) = True := by simp only [nI_leI (by decide : 0 < 2 ^ 31) h, Nat.zero_le]
theorem n_m1 {n : Nat} (h : n < 2 ^ 31) : (nI n = -1) = False := by
  simp only [eq_iff_iff, iff_false]
  intro e
  have := nI_toInt h
  rw [e] at this
  have h2 : (-1 : Int32).toInt = -1 := by decide
  omega
theorem n_m1' {n : Nat} (h : n < 2 ^ 31) : ((-1) = nI n) = False := by
  have := n_m1 h
  simp only [eq_iff_iff, iff_false] at this ⊢
  exact fun e => this e.symm
theorem n_eqE {a b : Nat} (ha : a < 2 ^ 31) (hb : b < 2 ^ 31) : (nI a = nI b) = (a = b) := propext (nI_eq ha hb)
theorem n_leE {a b : Nat} (ha : a < 2 ^ 31) (hb : b < 2 ^ 31) : (nI a ≤ nI b) = (a ≤ b) := propext (nI_leI ha hb)
theorem n_ltE {a b : Nat} (ha : a < 2 ^ 31) (hb : b < 2 ^ 31) : (nI a < nI b) = (a < b) := propext (nI_ltI ha hb)
theorem n_m1lt {n : Nat} (h : n < 2 ^ 31) : ((-1) < nI n) = True := by
  simp only [eq_iff_iff, iff_true]
  rw [Int32.lt_iff_toInt_lt, nI_toInt h]
  have h2 : (-1 : Int32).toInt = -1 := by decide
  omega
theorem n_in {n N : Nat} (h : n < N) (hN : N < 2 ^ 31) : vp_in (nI n) N = True := by simp only [eq_iff_iff, iff_true]; exact vp_in_nI h hN
theorem n_m1add (n : Nat) : (-1) + nI (n + 1) = nI n := by rw [← nI_1, Int32.add_comm (nI n), ← Int32.add_assoc]; simp
theorem n_bound (c : Nat) (h : c < 100000) : c < 2 ^ 31 := by omega
theorem bft (b : Bool) : (b = false ∨ b = true) = True := by cases b <;> simp
theorem btf (b : Bool) : (b = true ∨ b = false) = True := by cases b <;> simp
