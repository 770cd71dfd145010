-- deps: 242 260
-- piles as lists: types, values
/-- one word's check on a pile of types -/
def tk1 (P : Nat → Option (Nat × Nat)) (ty : Nat → Nat → Int32) (w : Int32 × Int32) (st : List Int32) : Int32 × (Int32 × Int32) × List Int32 :=
  if w.1 = nI 50 then (match P w.2.toNatClampNeg with | none => (-1001, w, st) | some (i, c) => (nI 0, (nI (4 + i), nI c), ty i c :: st))
  else if w.1 = nI 1 then (nI 0, w, nI 1 :: st)
  else if w.1 = nI 2 then (nI 0, w, nI 2 :: st)
  else if w.1 = nI 3 then (nI 0, w, nI 0 :: st)
  else match st with
    | [] => (nI 0, w, [])
    | r :: st1 =>
      if w.1 = nI 6 then (if r = nI 2 then -1002 else nI 0, w, nI 1 :: st1)
      else if w.1 = nI 17 then (nI 0, w, nI 0 :: st1)
      else if w.1 = nI 18 then (nI 0, w, nI 0 :: st1)
      else match st1 with
        | [] => (nI 0, w, [])
        | l :: st2 =>
          if nI 10 < w.1 then (if clashB l r = true then -1002 else nI 0, w, nI 0 :: st2)
          else (if l = nI 2 ∨ r = nI 2 then -1002 else nI 0, w, nI 1 :: st2)
def tks (P : Nat → Option (Nat × Nat)) (ty : Nat → Nat → Int32) : WL → List Int32 → Nat → Int32 × WL × List Int32 × Nat
  | [], st, m => (nI 0, [], st, m)
  | w :: ws, st, m => if (tk1 P ty w st).1 = nI 0 then ((tks P ty ws (tk1 P ty w st).2.2 (max m (tk1 P ty w st).2.2.length)).1, (tk1 P ty w st).2.1 :: (tks P ty ws (tk1 P ty w st).2.2 (max m (tk1 P ty w st).2.2.length)).2.1, (tks P ty ws (tk1 P ty w st).2.2 (max m (tk1 P ty w st).2.2.length)).2.2) else ((tk1 P ty w st).1, (tk1 P ty w st).2.1 :: ws, (tk1 P ty w st).2.2, m)
/-- the array holds the pile -/
def Pt (g : Nat → Int32) : List Int32 → Prop
  | [] => True
  | x :: st => g st.length = x ∧ Pt g st
theorem Pt_up {g : Nat → Int32} : ∀ {st : List Int32} {i : Nat} {x : Int32}, Pt g st → st.length ≤ i → Pt (up1 g i x) st := by
  intro st
  induction st with
  | nil => intro i x h hi; trivial
  | cons y st ih =>
    intro i x h hi
    rw [List.length_cons] at hi
    exact ⟨by rw [up1_n (by omega)]; exact h.1, ih h.2 (by omega)⟩
theorem Pt_push {g : Nat → Int32} {st : List Int32} {x : Int32} (h : Pt g st) : Pt (up1 g st.length x) (x :: st) := ⟨up1_s .., Pt_up h (Nat.le_refl _)⟩
theorem tk_sim {P : Nat → Option (Nat × Nat)} {ty : Nat → Nat → Int32} {o : Nat} {y : Int32} {g : Nat → Int32} {st : List Int32} (ho : opok o) (ha : arty o ≤ st.length) (hg : Pt g st) : (ck1 P ty (nI o, y) g st.length).1 = (tk1 P ty (nI o, y) st).1 ∧ (ck1 P ty (nI o, y) g st.length).2.1 = (tk1 P ty (nI o, y) st).2.1 ∧ ((tk1 P ty (nI o, y) st).1 = nI 0 → Pt (ck1 P ty (nI o, y) g st.length).2.2.1 (tk1 P ty (nI o, y) st).2.2 ∧ (ck1 P ty (nI o, y) g st.length).2.2.2 = (tk1 P ty (nI o, y) st).2.2.length) := by
  unfold ck1 tk1
  simp only
  by_cases h50 : nI o = nI 50
  · simp only [h50, reduceIte]
    cases hp : P y.toNatClampNeg with
    | none => exact ⟨rfl, rfl, fun z => absurd (show (-1001 : Int32) = nI 0 from z) (by decide)⟩
    | some q => exact ⟨(by first | rfl | trivial), (by first | rfl | trivial), fun _ => ⟨Pt_push hg, (by first | rfl | trivial)⟩⟩
  by_cases h1 : nI o = nI 1
  · simp only [h1, reduceIte, show ¬ nI 1 = nI 50 by decide]
    exact ⟨(by first | rfl | trivial), (by first | rfl | trivial), fun _ => ⟨Pt_push hg, (by first | rfl | trivial)⟩⟩
  by_cases h2 : nI o = nI 2
  · simp only [h2, reduceIte, show ¬ nI 2 = nI 50 by decide, show ¬ nI 2 = nI 1 by decide]
    exact ⟨(by first | rfl | trivial), (by first | rfl | trivial), fun _ => ⟨Pt_push hg, (by first | rfl | trivial)⟩⟩
  by_cases h3 : nI o = nI 3
  · simp only [h3, reduceIte, show ¬ nI 3 = nI 50 by decide, show ¬ nI 3 = nI 1 by decide, show ¬ nI 3 = nI 2 by decide]
    exact ⟨(by first | rfl | trivial), (by first | rfl | trivial), fun _ => ⟨Pt_push hg, (by first | rfl | trivial)⟩⟩
  simp only [h50, h1, h2, h3, reduceIte]
  have hbig : 6 ≤ o ∧ o ≤ 20 := by
    rcases ho with h | h | h
    · have : o = 1 ∨ o = 2 ∨ o = 3 := by omega
      rcases this with rfl | rfl | rfl <;> contradiction
    · exact h
    · subst h; contradiction
  cases st with
  | nil =>
    exfalso
    unfold arty at ha
    rw [if_neg (by omega)] at ha
    split at ha <;> simp at ha
  | cons r st1 =>
    obtain ⟨hr, hg1⟩ := hg
    simp only [List.length_cons, Nat.add_sub_cancel]
    rw [hr]
    by_cases h6 : nI o = nI 6
    · simp only [h6, reduceIte]
      exact ⟨(by first | rfl | trivial), (by first | rfl | trivial), fun _ => ⟨Pt_push hg1, (by first | rfl | trivial)⟩⟩
    by_cases h17 : nI o = nI 17
    · simp only [h17, reduceIte, show ¬ nI 17 = nI 6 by decide]
      exact ⟨(by first | rfl | trivial), (by first | rfl | trivial), fun _ => ⟨Pt_push hg1, (by first | rfl | trivial)⟩⟩
    by_cases h18 : nI o = nI 18
    · simp only [h18, reduceIte, show ¬ nI 18 = nI 6 by decide, show ¬ nI 18 = nI 17 by decide]
      exact ⟨(by first | rfl | trivial), (by first | rfl | trivial), fun _ => ⟨Pt_push hg1, (by first | rfl | trivial)⟩⟩
    simp only [h6, h17, h18, reduceIte]
    cases st1 with
    | nil =>
      exfalso
      have : o ≠ 6 ∧ o ≠ 17 ∧ o ≠ 18 := ⟨fun e => h6 (by rw [e]), fun e => h17 (by rw [e]), fun e => h18 (by rw [e])⟩
      unfold arty at ha
      rw [if_neg (by omega), if_neg (by omega)] at ha
      simp at ha
    | cons l st2 =>
      obtain ⟨hl, hg2⟩ := hg1
      simp only [List.length_cons, Nat.add_sub_cancel]
      rw [hl]
      by_cases h10 : nI 10 < nI o
      · simp only [h10, reduceIte]
        exact ⟨(by first | rfl | trivial), (by first | rfl | trivial), fun _ => ⟨Pt_push hg2, (by first | rfl | trivial)⟩⟩
      · simp only [h10, reduceIte]
        exact ⟨(by first | rfl | trivial), (by first | rfl | trivial), fun _ => ⟨Pt_push hg2, (by first | rfl | trivial)⟩⟩
theorem tks_sim {P : Nat → Option (Nat × Nat)} {ty : Nat → Nat → Int32} : ∀ {ws : WL} {g : Nat → Int32} {st : List Int32} {m : Nat}, WH ws st.length → Pt g st → (ckWs P ty ws g st.length m).1 = (tks P ty ws st m).1 ∧ (ckWs P ty ws g st.length m).2.1 = (tks P ty ws st m).2.1 ∧ ((tks P ty ws st m).1 = nI 0 → Pt (ckWs P ty ws g st.length m).2.2.1 (tks P ty ws st m).2.2.1 ∧ (ckWs P ty ws g st.length m).2.2.2.1 = (tks P ty ws st m).2.2.1.length ∧ (ckWs P ty ws g st.length m).2.2.2.2 = (tks P ty ws st m).2.2.2) := by
  intro ws
  induction ws with
  | nil => intro g st m hw hg; exact ⟨rfl, rfl, fun _ => ⟨hg, rfl, rfl⟩⟩
  | cons w ws ih =>
    intro g st m hw hg
    obtain ⟨w1, y⟩ := w
    obtain ⟨o, rfl, ho, h50, ha, hw2⟩ := hw
    have hs := tk_sim (P := P) (ty := ty) (y := y) ho ha hg
    rw [ckWs, tks]
    by_cases hf : (tk1 P ty (nI o, y) st).1 = nI 0
    · have hl := (hs.2.2 hf).2
      have hlen : (tk1 P ty (nI o, y) st).2.2.length = st.length - arty o + 1 := by
        rw [← hl]
        exact ck1_n ho (by rw [hs.1]; exact hf) ha
      rw [if_pos (by rw [hs.1]; exact hf), if_pos hf]
      have hi := ih (m := max m (tk1 P ty (nI o, y) st).2.2.length) (by rw [hlen]; exact hw2) (hs.2.2 hf).1
      rw [hl]
      simp only
      rw [hs.2.1]
      exact ⟨hi.1, by rw [hi.2.1], hi.2.2⟩
    · rw [if_neg (by rw [hs.1]; exact hf), if_neg hf]
      simp only
      rw [hs.2.1]
      exact ⟨hs.1, rfl, fun z => absurd z hf⟩
theorem tks_app {P : Nat → Option (Nat × Nat)} {ty : Nat → Nat → Int32} : ∀ (x y : WL) (st : List Int32) (m : Nat), ((tks P ty x st m).1 = nI 0 → tks P ty (x ++ y) st m = ((tks P ty y (tks P ty x st m).2.2.1 (tks P ty x st m).2.2.2).1, (tks P ty x st m).2.1 ++ (tks P ty y (tks P ty x st m).2.2.1 (tks P ty x st m).2.2.2).2.1, (tks P ty y (tks P ty x st m).2.2.1 (tks P ty x st m).2.2.2).2.2)) ∧ (¬ (tks P ty x st m).1 = nI 0 → (tks P ty (x ++ y) st m).1 = (tks P ty x st m).1) := by
  intro x
  induction x with
  | nil => intro y st m; exact ⟨fun _ => rfl, fun h => absurd rfl h⟩
  | cons w x ih =>
    intro y st m
    rw [List.cons_append, tks, tks]
    by_cases hf : (tk1 P ty w st).1 = nI 0
    · simp only [hf, reduceIte]
      have := ih y (tk1 P ty w st).2.2 (max m (tk1 P ty w st).2.2.length)
      refine ⟨fun h => ?_, fun h => this.2 h⟩
      rw [this.1 h]
      rfl
    · simp only [hf, reduceIte]
      exact ⟨fun h => absurd h (by simp), fun _ => trivial⟩
/-- words of a checked expression or condition: b tells which; how many columns the tables have -/
def YX (K : Nat → Option Nat) : Nat → WL → Prop
  | 0, _ => False
  | f + 1, x => (∃ y, x = [(nI 1, y)]) ∨ (∃ y, x = [(nI 2, y)]) ∨ x = [(nI 3, nI 0)] ∨ (∃ i c n, x = [(nI (4 + i), nI c)] ∧ i < 2 ∧ K i = some n ∧ c < n) ∨ (∃ a o, YX K f a ∧ (o = 6 ∨ o = 17 ∨ o = 18) ∧ x = a ++ [(nI o, nI 0)]) ∨ (∃ a b o, YX K f a ∧ YX K f b ∧ ((7 ≤ o ∧ o ≤ 16) ∨ o = 19 ∨ o = 20) ∧ x = a ++ b ++ [(nI o, nI 0)])
theorem YX_up {K : Nat → Option Nat} : ∀ {f : Nat} {x : WL}, YX K f x → YX K (f + 1) x := by
  intro f
  induction f with
  | zero => intro x h; exact h.elim
  | succ f ih =>
    intro x h
    rcases h with h | h | h | h | ⟨a, o, ha, e⟩ | ⟨a, b, o, ha, hb, ho, e⟩
    · exact Or.inl h
    · exact Or.inr (Or.inl h)
    · exact Or.inr (Or.inr (Or.inl h))
    · exact Or.inr (Or.inr (Or.inr (Or.inl h)))
    · exact Or.inr (Or.inr (Or.inr (Or.inr (Or.inl ⟨a, o, ih ha, e⟩))))
    · exact Or.inr (Or.inr (Or.inr (Or.inr (Or.inr ⟨a, b, o, ih ha, ih hb, ho, e⟩))))
theorem YX_mono {K : Nat → Option Nat} {f g : Nat} {x : WL} (h : YX K f x) (hg : f ≤ g) : YX K g x := by
  induction hg with
  | refl => exact h
  | step _ ih => exact YX_up ih
def isY (K : Nat → Option Nat) (x : WL) : Prop := ∃ f, YX K f x
/-- what checking words comes to: the fault or 0, the words then, their type, how high the pile grows -/
def TX (P : Nat → Option (Nat × Nat)) (ty : Nat → Nat → Int32) (K : Nat → Option Nat) (x : WL) (f : Int32) (x' : WL) (τ : Int32) (hg : Nat) : Prop :=
  (f = nI 0 ∨ f = -1001 ∨ f = -1002) ∧ 1 ≤ hg ∧ hg ≤ x.length ∧ (f = nI 0 → x'.length = x.length ∧ isY K x') ∧ ∀ (st : List Int32) (m : Nat), (¬ f = nI 0 → (tks P ty x st m).1 = f) ∧ (f = nI 0 → tks P ty x st m = (nI 0, x', τ :: st, max m (st.length + hg)))
section
variable {P : Nat → Option (Nat × Nat)} {ty : Nat → Nat → Int32} {K : Nat → Option Nat}
theorem TX_one {x : WL} {f1 f2 τ1 τ2 : Int32} {x1 x2 : WL} {h1 h2 : Nat} (a : TX P ty K x f1 x1 τ1 h1) (b : TX P ty K x f2 x2 τ2 h2) : f1 = f2 ∧ (f1 = nI 0 → x1 = x2 ∧ τ1 = τ2 ∧ h1 = h2) := by
  have ha := a.2.2.2.2 [] 0
  have hb := b.2.2.2.2 [] 0
  by_cases q1 : f1 = nI 0
  · have e1 := ha.2 q1
    by_cases q2 : f2 = nI 0
    · have e2 := hb.2 q2
      rw [e1] at e2
      simp only [Prod.mk.injEq, List.cons.injEq, true_and, and_true, List.length_nil, Nat.zero_add] at e2
      exact ⟨q1.trans q2.symm, fun _ => ⟨e2.1, e2.2.1, by have := e2.2.2; omega⟩⟩
    · have e2 := hb.1 q2
      rw [e1] at e2
      exact absurd e2.symm q2
  · have e1 := ha.1 q1
    by_cases q2 : f2 = nI 0
    · have e2 := hb.2 q2
      rw [e2] at e1
      exact absurd e1.symm q1
    · exact ⟨e1.symm.trans (hb.1 q2), fun z => absurd z q1⟩
theorem TX_num (y : Int32) : TX P ty K [(nI 1, y)] (nI 0) [(nI 1, y)] (nI 1) 1 :=
  ⟨Or.inl rfl, Nat.le_refl _, by simp, fun _ => ⟨rfl, 1, Or.inl ⟨y, rfl⟩⟩, fun st m => ⟨fun h => absurd rfl h, fun _ => by simp [tks, tk1, show ¬ nI 1 = nI 50 by decide]⟩⟩
theorem TX_txt (y : Int32) : TX P ty K [(nI 2, y)] (nI 0) [(nI 2, y)] (nI 2) 1 :=
  ⟨Or.inl rfl, Nat.le_refl _, by simp, fun _ => ⟨rfl, 1, Or.inr (Or.inl ⟨y, rfl⟩)⟩, fun st m => ⟨fun h => absurd rfl h, fun _ => by simp [tks, tk1, show ¬ nI 2 = nI 50 by decide, show ¬ nI 2 = nI 1 by decide]⟩⟩
theorem TX_nul : TX P ty K [(nI 3, nI 0)] (nI 0) [(nI 3, nI 0)] (nI 0) 1 :=
  ⟨Or.inl rfl, Nat.le_refl _, by simp, fun _ => ⟨rfl, 1, Or.inr (Or.inr (Or.inl rfl))⟩, fun st m => ⟨fun h => absurd rfl h, fun _ => by simp [tks, tk1, show ¬ nI 3 = nI 50 by decide, show ¬ nI 3 = nI 1 by decide, show ¬ nI 3 = nI 2 by decide]⟩⟩
theorem TX_plN (p : Nat) (hp : p < 1000) (h : P p = none) : TX P ty K [(nI 50, nI p)] (-1001) [(nI 50, nI p)] (nI 0) 1 :=
  ⟨Or.inr (Or.inl rfl), Nat.le_refl _, by simp, fun z => absurd z (by decide), fun st m => ⟨fun _ => by simp [tks, tk1, nI_clamp (show p < 2 ^ 31 by omega), h, show ¬ ((-1001 : Int32) = nI 0) by decide], fun z => absurd z (by decide)⟩⟩
theorem TX_plS (p i c n : Nat) (hp : p < 1000) (h : P p = some (i, c)) (hi : i < 2) (hK : K i = some n) (hc : c < n) : TX P ty K [(nI 50, nI p)] (nI 0) [(nI (4 + i), nI c)] (ty i c) 1 :=
  ⟨Or.inl rfl, Nat.le_refl _, by simp, fun _ => ⟨rfl, 1, Or.inr (Or.inr (Or.inr (Or.inl ⟨i, c, n, rfl, hi, hK, hc⟩)))⟩, fun st m => ⟨fun h => absurd rfl h, fun _ => by simp [tks, tk1, nI_clamp (show p < 2 ^ 31 by omega), h]⟩⟩
/-- the fault and the type behind a word with one operand -/
def uF (o : Nat) (f τ : Int32) : Int32 := if f = nI 0 then (if o = 6 ∧ τ = nI 2 then -1002 else nI 0) else f
def uT (o : Nat) : Int32 := if o = 6 then nI 1 else nI 0
def bF (o : Nat) (f1 τ1 f2 τ2 : Int32) : Int32 := if f1 = nI 0 then (if f2 = nI 0 then (if o ≤ 10 then (if τ1 = nI 2 ∨ τ2 = nI 2 then -1002 else nI 0) else (if clashB τ1 τ2 = true then -1002 else nI 0)) else f2) else f1
def bT (o : Nat) : Int32 := if o ≤ 10 then nI 1 else nI 0
theorem uF_3 {o : Nat} {f τ : Int32} (h : f = nI 0 ∨ f = -1001 ∨ f = -1002) : uF o f τ = nI 0 ∨ uF o f τ = -1001 ∨ uF o f τ = -1002 := by
  unfold uF
  (repeat' split) <;> simp_all
theorem bF_3 {o : Nat} {f τ f2 τ2 : Int32} (h : f = nI 0 ∨ f = -1001 ∨ f = -1002) (h2 : f2 = nI 0 ∨ f2 = -1001 ∨ f2 = -1002) : bF o f τ f2 τ2 = nI 0 ∨ bF o f τ f2 τ2 = -1001 ∨ bF o f τ f2 τ2 = -1002 := by
  unfold bF
  (repeat' split) <;> simp_all
theorem TX_un {o : Nat} {a a' : WL} {f τ : Int32} {hg : Nat} (ho : o = 6 ∨ o = 17 ∨ o = 18) (h : TX P ty K a f a' τ hg) : TX P ty K (a ++ [(nI o, nI 0)]) (uF o f τ) (a' ++ [(nI o, nI 0)]) (uT o) hg := by
  obtain ⟨h3, h1, h2, hy, hs⟩ := h
  refine ⟨uF_3 h3, h1, by simp; omega, ?_, ?_⟩
  · intro h0
    have hf : f = nI 0 := by
      by_cases q : f = nI 0
      · exact q
      · rw [uF, if_neg q] at h0; exact h0
    obtain ⟨e, k, hk⟩ := hy hf
    exact ⟨by simp [e], k + 1, Or.inr (Or.inr (Or.inr (Or.inr (Or.inl ⟨a', o, hk, ho, rfl⟩))))⟩
  · intro st m
    have ht := tks_app (P := P) (ty := ty) a [(nI o, nI 0)] st m
    by_cases q : f = nI 0
    · have hq := (hs st m).2 q
      have ht1 := ht.1 (by rw [hq])
      rw [hq] at ht1
      simp only [tks, tk1] at ht1
      unfold uF uT
      rcases ho with rfl | rfl | rfl
      · simp only [show ¬ nI 6 = nI 50 by decide, show ¬ nI 6 = nI 1 by decide, show ¬ nI 6 = nI 2 by decide, show ¬ nI 6 = nI 3 by decide, reduceIte] at ht1
        rw [ht1]
        by_cases q2 : τ = nI 2
        · simp [q, q2, show ¬ ((-1002 : Int32) = nI 0) by decide]
        · simp [q, q2]
          omega
      · simp only [show ¬ nI 17 = nI 50 by decide, show ¬ nI 17 = nI 1 by decide, show ¬ nI 17 = nI 2 by decide, show ¬ nI 17 = nI 3 by decide, show ¬ nI 17 = nI 6 by decide, reduceIte] at ht1
        rw [ht1]
        simp [q]
        omega
      · simp only [show ¬ nI 18 = nI 50 by decide, show ¬ nI 18 = nI 1 by decide, show ¬ nI 18 = nI 2 by decide, show ¬ nI 18 = nI 3 by decide, show ¬ nI 18 = nI 6 by decide, show ¬ nI 18 = nI 17 by decide, reduceIte] at ht1
        rw [ht1]
        simp [q]
        omega
    · have hq := (hs st m).1 q
      have ht2 := ht.2 (by rw [hq]; exact q)
      have e : uF o f τ = f := by rw [uF, if_neg q]
      rw [e]
      exact ⟨fun _ => by rw [ht2, hq], fun z => absurd z q⟩
theorem TX_bin {o : Nat} {a a' b b' : WL} {f τ f2 τ2 : Int32} {hg hg2 : Nat} (ho : (7 ≤ o ∧ o ≤ 16) ∨ o = 19 ∨ o = 20) (h : TX P ty K a f a' τ hg) (g : TX P ty K b f2 b' τ2 hg2) : TX P ty K (a ++ b ++ [(nI o, nI 0)]) (bF o f τ f2 τ2) (a' ++ b' ++ [(nI o, nI 0)]) (bT o) (max hg (hg2 + 1)) := by
  obtain ⟨h3, h1, h2, hy, hs⟩ := h
  obtain ⟨g3, g1, g2, gy, gs⟩ := g
  have hne : ∀ k, k < 7 ∨ k = 17 ∨ k = 18 ∨ k = 50 → ¬ nI o = nI k := by
    intro k hk e
    rw [n_eqE (by omega) (by omega)] at e
    omega
  refine ⟨bF_3 h3 g3, by omega, by simp; omega, ?_, ?_⟩
  · intro h0
    have hf : f = nI 0 := by
      by_cases q : f = nI 0
      · exact q
      · rw [bF, if_neg q] at h0; exact h0
    have hf2 : f2 = nI 0 := by
      by_cases q : f2 = nI 0
      · exact q
      · rw [bF, if_pos hf, if_neg q] at h0; exact h0
    obtain ⟨e, k, hk⟩ := hy hf
    obtain ⟨e2, k2, hk2⟩ := gy hf2
    exact ⟨by simp [e, e2], max k k2 + 1, Or.inr (Or.inr (Or.inr (Or.inr (Or.inr ⟨a', b', o, YX_mono hk (by omega), YX_mono hk2 (by omega), ho, rfl⟩))))⟩
  · intro st m
    rw [List.append_assoc]
    have ht := tks_app (P := P) (ty := ty) a (b ++ [(nI o, nI 0)]) st m
    by_cases q : f = nI 0
    · have hq := (hs st m).2 q
      have ht1 := ht.1 (by rw [hq])
      rw [hq] at ht1
      simp only at ht1
      have hu := tks_app (P := P) (ty := ty) b [(nI o, nI 0)] (τ :: st) (max m (st.length + hg))
      by_cases q2 : f2 = nI 0
      · have hq2 := (gs (τ :: st) (max m (st.length + hg))).2 q2
        have hu1 := hu.1 (by rw [hq2])
        rw [hq2] at hu1
        simp only [tks, tk1, hne 50 (by omega), hne 1 (by omega), hne 2 (by omega), hne 3 (by omega), hne 6 (by omega), hne 17 (by omega), hne 18 (by omega), reduceIte] at hu1
        rw [hu1] at ht1
        rw [ht1]
        have h10 : (nI 10 < nI o) = (10 < o) := n_ltE (by decide) (by omega)
        unfold bF bT
        rw [if_pos q, if_pos q2]
        by_cases q10 : o ≤ 10
        · have n10 : ¬ 10 < o := by omega
          simp only [h10, n10, q10, reduceIte]
          by_cases qt : τ = nI 2 ∨ τ2 = nI 2
          · simp only [qt, reduceIte]
            exact ⟨fun _ => rfl, fun z => absurd z (by decide)⟩
          · simp only [qt, reduceIte]
            refine ⟨fun z => (z (by first | rfl | trivial)).elim, fun _ => ?_⟩
            simp only [List.length_cons, List.append_assoc, Prod.mk.injEq, true_and]
            omega
        · have n10 : 10 < o := by omega
          simp only [h10, n10, q10, reduceIte]
          by_cases qt : clashB τ τ2 = true
          · simp only [qt, reduceIte]
            exact ⟨fun _ => rfl, fun z => absurd z (by decide)⟩
          · simp only [qt, Bool.false_eq_true, reduceIte]
            refine ⟨fun z => (z (by first | rfl | trivial)).elim, fun _ => ?_⟩
            simp only [List.length_cons, List.append_assoc, Prod.mk.injEq, true_and]
            omega
      · have hq2 := (gs (τ :: st) (max m (st.length + hg))).1 q2
        have hu2 := hu.2 (by rw [hq2]; exact q2)
        have e : bF o f τ f2 τ2 = f2 := by rw [bF, if_pos q, if_neg q2]
        rw [e, ht1]
        exact ⟨fun _ => by rw [hu2, hq2], fun z => absurd z q2⟩
    · have hq := (hs st m).1 q
      have ht2 := ht.2 (by rw [hq]; exact q)
      have e : bF o f τ f2 τ2 = f := by rw [bF, if_neg q]
      rw [e]
      exact ⟨fun _ => by rw [ht2, hq], fun z => absurd z q⟩
theorem isX_TX {T : WL} (hT : T.length ≤ 200) (hP : ∀ p i c, P p = some (i, c) → i < 2 ∧ ∃ n, K i = some n ∧ c < n) : ∀ (fu : Nat) (x : WL), XW T fu x → ∃ f x' τ hg, TX P ty K x f x' τ hg := by
  intro fu
  induction fu with
  | zero => intro x h; exact h.elim
  | succ fu ih =>
    intro x h
    rcases h with ⟨y, rfl⟩ | ⟨y, rfl⟩ | rfl | ⟨p, rfl, hp, -⟩ | ⟨a, ha, rfl⟩ | ⟨a, b, o, ha, hb, ho, rfl⟩
    · exact ⟨_, _, _, _, TX_num y⟩
    · exact ⟨_, _, _, _, TX_txt y⟩
    · exact ⟨_, _, _, _, TX_nul⟩
    · have hp2 := kd_in hp (by decide)
      cases hq : P p with
      | none => exact ⟨_, _, _, _, TX_plN p (by omega) hq⟩
      | some ic =>
        obtain ⟨hi, n, hK, hc⟩ := hP p ic.1 ic.2 hq
        exact ⟨_, _, _, _, TX_plS p ic.1 ic.2 n (by omega) hq hi hK hc⟩
    · obtain ⟨f, x', τ, hg, h⟩ := ih a ha
      exact ⟨_, _, _, _, TX_un (Or.inl rfl) h⟩
    · obtain ⟨f, x', τ, hg, h⟩ := ih a ha
      obtain ⟨f2, x2, τ2, hg2, h2⟩ := ih b hb
      exact ⟨_, _, _, _, TX_bin (by omega) h h2⟩
theorem isC_TX {T : WL} (hT : T.length ≤ 200) (hP : ∀ p i c, P p = some (i, c) → i < 2 ∧ ∃ n, K i = some n ∧ c < n) : ∀ (fu : Nat) (x : WL), XC T fu x → ∃ f x' τ hg, TX P ty K x f x' τ hg := by
  intro fu
  induction fu with
  | zero => intro x h; exact h.elim
  | succ fu ih =>
    intro x h
    rcases h with ⟨a, ha, rfl⟩ | ⟨a, b, o, ha, hb, ho, rfl⟩ | ⟨a, ha, rfl⟩ | ⟨a, b, o, ha, hb, ho, rfl⟩
    · obtain ⟨f, x', τ, hg, h⟩ := isX_TX (ty := ty) hT hP fu a ha
      exact ⟨_, _, _, _, TX_un (Or.inr (Or.inl rfl)) h⟩
    · obtain ⟨f, x', τ, hg, h⟩ := isX_TX (ty := ty) hT hP fu a ha
      obtain ⟨f2, x2, τ2, hg2, h2⟩ := isX_TX (ty := ty) hT hP fu b hb
      exact ⟨_, _, _, _, TX_bin (by omega) h h2⟩
    · obtain ⟨f, x', τ, hg, h⟩ := ih a ha
      exact ⟨_, _, _, _, TX_un (Or.inr (Or.inr rfl)) h⟩
    · obtain ⟨f, x', τ, hg, h⟩ := ih a ha
      obtain ⟨f2, x2, τ2, hg2, h2⟩ := ih b hb
      exact ⟨_, _, _, _, TX_bin (by omega) h h2⟩
end
