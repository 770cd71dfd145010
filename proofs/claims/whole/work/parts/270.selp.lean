-- deps: 269
-- what a select gathers, as mathematics: values, missing, sums, counts, by row * 4 + item
abbrev AR : Type := (Nat → Int32) × (Nat → Bool) × (Nat → Int64) × (Nat → Nat)
def beg (A : AR) (r : Nat) : AR := (zr4 A.1 r (nI 0), zr4 A.2.1 r true, zr4 A.2.2.1 r (lN 0), zr4 A.2.2.2 r 0)
def come1 (a : Int32) (q : Nat) (v : VN) (A : AR) : AR :=
  if a = -1 then (up1 A.1 q v.1, up1 A.2.1 q v.2, A.2.2)
  else if v.2 = true then A
  else (if A.2.2.2 q = 0 ∨ (a = nI 221 ∧ A.1 q < v.1) ∨ (a = nI 220 ∧ v.1 < A.1 q) then up1 A.1 q v.1 else A.1, A.2.1, up1 A.2.2.1 q (A.2.2.1 q + v.1.toInt64), up1 A.2.2.2 q (A.2.2.2 q + 1))
def comes (ld : Nat → Nat → VN) : IL → Nat → Nat → AR → AR
  | [], _, _, A => A
  | x :: l, i, r, A => comes ld l (i + 1) r (come1 x.1 (r * 4 + i) (evX ld x.2).2 A)
/-- the row whose first item is v -/
def fGr (A : AR) (v : VN) : Nat → Nat → Option Nat
  | 0, _ => none
  | n + 1, i => if A.2.1 (i * 4 + 0) = v.2 ∧ (v.2 = true ∨ A.1 (i * 4 + 0) = v.1) then some i else fGr A v n (i + 1)
/-- where a row goes: the row, how many there are then, the arrays -/
def accR (sm gr : Bool) (k : Nat) (A : AR) (v : VN) : Nat × Nat × AR :=
  if sm = false then (k, k + 1, beg A k) else if gr = false then (0, k, A) else match fGr A v k 0 with
    | some r => (r, k, A)
    | none => (k, k + 1, beg A k)
def hdI (its : IL) : WL := (its.headD (-1, [])).2
def acc (sm gr : Bool) (its : IL) (ld : Nat → Nat → VN) (σ : Nat × AR) : Nat × AR := ((accR sm gr σ.1 σ.2 (evX ld (hdI its)).2).2.1, comes ld its 0 (accR sm gr σ.1 σ.2 (evX ld (hdI its)).2).1 (accR sm gr σ.1 σ.2 (evX ld (hdI its)).2).2.2)
def itF (ld : Nat → Nat → VN) : IL → Int32
  | [] => nI 0
  | x :: l => if (evX ld x.2).1 = nI 0 then itF ld l else (evX ld x.2).1
/-- one pair of rows -/
def prS (sm gr : Bool) (its : IL) (cnd : Option WL) (ld : Nat → Nat → VN) (σ : Nat × AR) : Int32 × Nat × AR :=
  if (cndE ld cnd).1 = nI 0 then (if (cndE ld cnd).2 = true then (if itF ld its = nI 0 then (nI 0, acc sm gr its ld σ) else (itF ld its, σ)) else (nI 0, σ)) else ((cndE ld cnd).1, σ)
def ld2 (d : DB) (tj : Nat → Nat) (r s : Nat) : Nat → Nat → VN := ldE d tj (fun i => if i = 0 then r else s)
def selI (sm gr : Bool) (its : IL) (cnd : Option WL) (d : DB) (tj : Nat → Nat) (r : Nat) : Nat → Nat → Nat × AR → Int32 × Nat × AR
  | 0, _, σ => (nI 0, σ)
  | n + 1, s, σ => if (prS sm gr its cnd (ld2 d tj r s) σ).1 = nI 0 then selI sm gr its cnd d tj r n (s + 1) (prS sm gr its cnd (ld2 d tj r s) σ).2 else prS sm gr its cnd (ld2 d tj r s) σ
def selO (sm gr : Bool) (its : IL) (cnd : Option WL) (d : DB) (tj : Nat → Nat) (I : Nat) : Nat → Nat → Nat × AR → Int32 × Nat × AR
  | 0, _, σ => (nI 0, σ)
  | n + 1, r, σ => if (selI sm gr its cnd d tj r I 0 σ).1 = nI 0 then selO sm gr its cnd d tj I n (r + 1) (selI sm gr its cnd d tj r I 0 σ).2 else selI sm gr its cnd d tj r I 0 σ
def agI (its : IL) (i : Nat) : Int32 := (its.getD i (-1, [])).1
/-- what the class holds of a cell -/
def rcV (a : Int32) (A : AR) (q : Nat) : Int64 := if a = -1 then hN (A.2.1 q) (A.1 q) else if A.2.2.2 q = 0 then MS else if a = nI 219 then lN (A.2.2.2 q) else if a = nI 218 then A.2.2.1 q else (A.1 q).toInt64
def RC (a : Int32) (A : AR) (w : Nat → Int64) (q : Nat) : Prop := w q = rcV a A q
/-- few values were counted, and their sum is within its bounds -/
def SBw (A : AR) (q : Nat) : Prop := A.2.2.2 q ≤ 600 → -(2147483648 * (A.2.2.2 q : Int)) ≤ (A.2.2.1 q).toInt ∧ (A.2.2.1 q).toInt ≤ 2147483648 * (A.2.2.2 q : Int)
def SBd (A : AR) (q : Nat) : Prop := A.2.2.2 q ≤ 600 ∧ SBw A q
def isAgg (a : Int32) : Prop := a = nI 218 ∨ a = nI 219 ∨ a = nI 220 ∨ a = nI 221
theorem isAgg_ne {a : Int32} (h : isAgg a) : ¬ a = -1 := by rcases h with rfl | rfl | rfl | rfl <;> decide
def opOf (a : Int32) : Nat := if a = nI 219 then 32 else if a = nI 218 then 33 else if a = nI 220 then 34 else 35
theorem cl1_op {gr : Bool} {a : Int32} (h : isAgg a) : cl1 gr a = nI (opOf a) ∧ (opOf a = 32 ∨ opOf a = 33 ∨ opOf a = 34 ∨ opOf a = 35) := by
  rcases h with rfl | rfl | rfl | rfl
  · exact ⟨by simp [cl1, opOf, show ¬ nI 218 = nI 219 by decide], by decide⟩
  · exact ⟨by simp [cl1, opOf], by decide⟩
  · exact ⟨by simp [cl1, opOf, show ¬ nI 220 = nI 219 by decide, show ¬ nI 220 = nI 218 by decide], by decide⟩
  · exact ⟨by simp [cl1, opOf, show ¬ nI 221 = nI 219 by decide, show ¬ nI 221 = nI 218 by decide, show ¬ nI 221 = nI 220 by decide], by decide⟩
section
variable {A : AR} {w : Nat → Int64} {q q' : Nat} {a a' : Int32} {v : VN}
theorem RC_same {A' : AR} {w' : Nat → Int64} (h : RC a A w q) (e1 : A'.1 q = A.1 q) (e2 : A'.2.1 q = A.2.1 q) (e3 : A'.2.2.1 q = A.2.2.1 q) (e4 : A'.2.2.2 q = A.2.2.2 q) (e5 : w' q = w q) : RC a A' w' q := by
  unfold RC rcV at *
  rw [e1, e2, e3, e4, e5]
  exact h
theorem SBd_same {A' : AR} (h : SBd A q) (e3 : A'.2.2.1 q = A.2.2.1 q) (e4 : A'.2.2.2 q = A.2.2.2 q) : SBd A' q := by
  unfold SBd SBw at *
  rw [e3, e4]
  exact h
theorem come1_n (h : q' ≠ q) : (come1 a q v A).1 q' = A.1 q' ∧ (come1 a q v A).2.1 q' = A.2.1 q' ∧ (come1 a q v A).2.2.1 q' = A.2.2.1 q' ∧ (come1 a q v A).2.2.2 q' = A.2.2.2 q' := by
  unfold come1
  (repeat' split) <;> simp [up1_n h]
theorem RC_other {x : Int64} (h : RC a' A w q') (hq : q' ≠ q) : RC a' (come1 a q v A) (up1 w q x) q' := by
  have e := come1_n (A := A) (v := v) (a := a) hq
  exact RC_same h e.1 e.2.1 e.2.2.1 e.2.2.2 (up1_n hq)
theorem lN_nMS {n : Nat} (h : n < 2 ^ 31) : ¬ lN n = MS := by
  intro e
  have := congrArg Int64.toInt e
  rw [lN_toInt h, MS_i] at this
  omega
theorem SBd_0 (h : SBd A q) (h0 : A.2.2.2 q = 0) : A.2.2.1 q = lN 0 := by
  have := h.2 h.1
  rw [h0] at this
  apply Int64.toInt_inj.mp
  rw [lN_toInt (by decide)]
  omega
theorem SBd_nMS (h : SBd A q) : ¬ A.2.2.1 q = MS := by
  intro e
  have h1 := h.2 h.1
  have h2 := h.1
  rw [e, MS_i] at h1
  omega
theorem RC_give (ha : isAgg a) (hv : v.2 = false) (hs : SBd A q) (h : RC a A w q) : RC a (come1 a q v A) (up1 w q (gth (opOf a) (w q) v.1)) q := by
  have hm := isAgg_ne ha
  have hc := hs.1
  unfold RC at h ⊢
  rw [up1_s, h]
  unfold come1 rcV
  rw [if_neg hm, if_neg hm, if_neg hm, if_neg (show ¬ v.2 = true by rw [hv]; decide)]
  simp only [up1_s, Nat.add_one_ne_zero, reduceIte]
  by_cases q0 : A.2.2.2 q = 0
  · have e0 := SBd_0 hs q0
    simp only [q0, reduceIte, true_or, Nat.zero_add, up1_s, e0]
    rcases ha with rfl | rfl | rfl | rfl
    · simp only [opOf, gth, eq_self, show ¬ nI 218 = nI 219 by decide, reduceIte, Nat.reduceEqDiff]
      exact (Int64.zero_add _).symm
    · simp only [opOf, gth, eq_self, reduceIte]
    · simp only [opOf, gth, eq_self, show ¬ nI 220 = nI 219 by decide, show ¬ nI 220 = nI 218 by decide, reduceIte, Nat.reduceEqDiff]
    · simp only [opOf, gth, eq_self, show ¬ nI 221 = nI 219 by decide, show ¬ nI 221 = nI 218 by decide, show ¬ nI 221 = nI 220 by decide, reduceIte, Nat.reduceEqDiff]
  · simp only [q0, reduceIte, false_or]
    rcases ha with rfl | rfl | rfl | rfl
    · have n1 := SBd_nMS hs
      simp only [opOf, gth, eq_self, show ¬ nI 218 = nI 219 by decide, reduceIte, Nat.reduceEqDiff, n1]
    · have n1 := lN_nMS (show A.2.2.2 q < 2 ^ 31 by omega)
      simp only [opOf, gth, eq_self, reduceIte, n1]
      exact lN_add _ 1
    · have n1 := i64_ne (A.1 q)
      simp only [opOf, gth, eq_self, show ¬ nI 220 = nI 219 by decide, show ¬ nI 220 = nI 218 by decide, show ¬ nI 220 = nI 221 by decide, reduceIte, Nat.reduceEqDiff, n1, false_and, true_and, false_or]
      rw [i64_min]
      congr 1
      split
      · rw [up1_s]
      · rfl
    · have n1 := i64_ne (A.1 q)
      simp only [opOf, gth, eq_self, show ¬ nI 221 = nI 219 by decide, show ¬ nI 221 = nI 218 by decide, show ¬ nI 221 = nI 220 by decide, reduceIte, Nat.reduceEqDiff, n1, false_and, true_and, or_false]
      rw [i64_max]
      congr 1
      split
      · rw [up1_s]
      · rfl
theorem come1_miss (ha : isAgg a) (hv : v.2 = true) : come1 a q v A = A := by
  unfold come1
  rw [if_neg (isAgg_ne ha), if_pos hv]
end
def RelS (its : IL) (k : Nat) (A : AR) (w : Nat → Int64) (o : Nat → Int32) : Prop := (∀ r, r < k → o r = nI r) ∧ ∀ r, r < k → ∀ i, i < its.length → RC (agI its i) A w (r * 4 + i)
theorem ffI_fGr {A : AR} {w : Nat → Int64} {x : Int32} {y : Bool} : ∀ {k i : Nat}, (∀ r, i ≤ r → r < i + k → w (r * 4 + 0) = hN (A.2.1 (r * 4 + 0)) (A.1 (r * 4 + 0))) → ffI w (fun i => i) (hN y x) k i = oI (fGr A (x, y) k i) := by
  intro k
  induction k with
  | zero => intro i h; rfl
  | succ k ih =>
    intro i h
    have h0 := h i (Nat.le_refl _) (by omega)
    rw [ffI, fGr, h0]
    simp only [hN_inj]
    by_cases q : A.2.1 (i * 4 + 0) = y ∧ (y = true ∨ A.1 (i * 4 + 0) = x)
    · rw [if_pos q, if_pos q]
      rfl
    · rw [if_neg q, if_neg q]
      exact ih (fun r h1 h2 => h r (by omega) (by omega))
theorem fGr_some {A : AR} {v : VN} : ∀ {k i r : Nat}, fGr A v k i = some r → i ≤ r ∧ r < i + k ∧ A.2.1 (r * 4 + 0) = v.2 ∧ (v.2 = true ∨ A.1 (r * 4 + 0) = v.1) := by
  intro k
  induction k with
  | zero => intro i r h; exact absurd h (by simp [fGr])
  | succ k ih =>
    intro i r h
    rw [fGr] at h
    split at h
    · rename_i q
      simp only [Option.some.injEq] at h
      subst h
      exact ⟨Nat.le_refl _, by omega, q⟩
    · have := ih h
      exact ⟨by omega, by omega, this.2.2⟩
theorem fGr_none {A : AR} {v : VN} : ∀ {k i : Nat}, fGr A v k i = none → ∀ r, i ≤ r → r < i + k → ¬ (A.2.1 (r * 4 + 0) = v.2 ∧ (v.2 = true ∨ A.1 (r * 4 + 0) = v.1)) := by
  intro k
  induction k with
  | zero => intro i h r h1 h2; omega
  | succ k ih =>
    intro i h r h1 h2
    rw [fGr] at h
    split at h
    · exact absurd h (by simp)
    · rename_i q
      by_cases e : r = i
      · subst e; exact q
      · exact ih h r (by omega) (by omega)
/-- no more pigeons than holes -/
theorem pigeon : ∀ (n k : Nat) (f : Nat → Nat), (∀ i, i < k → f i < n) → (∀ i j, i < j → j < k → f i ≠ f j) → k ≤ n := by
  intro n
  induction n with
  | zero =>
    intro k f h _
    rcases Nat.eq_zero_or_pos k with h0 | h0
    · omega
    · exact absurd (h 0 h0) (by omega)
  | succ n ih =>
    intro k f h hi
    rcases Nat.eq_zero_or_pos k with h0 | h0
    · omega
    · have := ih (k - 1) (fun i => if f i = n then f (k - 1) else f i) (by
        intro i hik
        split
        · rename_i e
          have h1 := h (k - 1) (by omega)
          have h2 := hi i (k - 1) (by omega) (by omega)
          omega
        · have := h i (by omega)
          omega) (by
        intro i j hij hj
        have h1 := hi i j hij (by omega)
        have h2 := hi i (k - 1) (by omega) (by omega)
        have h3 := hi j (k - 1) (by omega) (by omega)
        split <;> split <;> omega)
      omega
