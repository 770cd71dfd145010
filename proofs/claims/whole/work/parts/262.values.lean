-- deps: 261
-- piles as lists: values
abbrev VN : Type := Int32 × Bool
def calL (o l r : Int32) (z : Bool) : Int32 × VN :=
  if z = true then (nI 0, (nI 0, true))
  else if o = nI 10 ∧ r.toInt64 = lN 0 then (-1004, (nI 0, false))
  else if fitsB (calcN o l.toInt64 r.toInt64) = true then (nI 0, ((calcN o l.toInt64 r.toInt64).toInt32, false))
  else (-1005, (nI 0, false))
/-- a word with one operand, with two -/
def uE (o : Int32) (b : VN) : Int32 × VN := if o = nI 6 then calL (nI 6) (nI 0) b.1 b.2 else if o = nI 17 then (nI 0, (if b.2 = true then nI 2 else nI 0, false)) else (nI 0, (nI 2 - b.1, false))
def bE (o : Int32) (a b : VN) : Int32 × VN := if o ≤ nI 10 then calL o a.1 b.1 (b.2 || a.2) else if o ≤ nI 16 then (nI 0, (cmpV o a.1 b.1 (b.2 || a.2), false)) else if o = nI 19 then (nI 0, (if b.1 < a.1 then b.1 else a.1, false)) else (nI 0, (if a.1 < b.1 then b.1 else a.1, false))
def el1 (ld : Nat → Nat → VN) (w : Int32 × Int32) (st : List VN) : Int32 × List VN :=
  if w.1 = nI 1 then (nI 0, (w.2, false) :: st)
  else if w.1 = nI 2 then (nI 0, (w.2, false) :: st)
  else if w.1 = nI 3 then (nI 0, (nI 0, true) :: st)
  else if w.1 = nI 4 then (nI 0, ld 0 w.2.toNatClampNeg :: st)
  else if w.1 = nI 5 then (nI 0, ld 1 w.2.toNatClampNeg :: st)
  else match st with
    | [] => (nI 0, [])
    | b :: st1 =>
      if w.1 = nI 6 ∨ w.1 = nI 17 ∨ w.1 = nI 18 then ((uE w.1 b).1, (uE w.1 b).2 :: st1)
      else match st1 with
        | [] => (nI 0, [])
        | a :: st2 => ((bE w.1 a b).1, (bE w.1 a b).2 :: st2)
def els (ld : Nat → Nat → VN) : WL → List VN → Int32 × List VN
  | [], st => (nI 0, st)
  | w :: ws, st => if (el1 ld w st).1 = nI 0 then els ld ws (el1 ld w st).2 else el1 ld w st
def Pl (v : Nat → Int32) (m : Nat → Bool) : List VN → Prop
  | [] => True
  | x :: st => (v st.length = x.1 ∧ m st.length = x.2) ∧ Pl v m st
section
variable {v : Nat → Int32} {m : Nat → Bool}
theorem Pl_up : ∀ {st : List VN} {i : Nat} {x : Int32} {z : Bool}, Pl v m st → st.length ≤ i → Pl (up1 v i x) (up1 m i z) st := by
  intro st
  induction st with
  | nil => intro i x z h hi; trivial
  | cons y st ih =>
    intro i x z h hi
    rw [List.length_cons] at hi
    exact ⟨⟨by rw [up1_n (by omega)]; exact h.1.1, by rw [up1_n (by omega)]; exact h.1.2⟩, ih h.2 (by omega)⟩
theorem Pl_push {st : List VN} {x : VN} (h : Pl v m st) : Pl (up1 v st.length x.1) (up1 m st.length x.2) (x :: st) := ⟨⟨up1_s .., up1_s ..⟩, Pl_up h (Nat.le_refl _)⟩
theorem cal_sim {st : List VN} {o l r : Int32} {z : Bool} (h : Pl v m st) : (calV v m st.length o l r z).1 = (calL o l r z).1 ∧ ((calL o l r z).1 = nI 0 → Pl (calV v m st.length o l r z).2.1 (calV v m st.length o l r z).2.2.1 ((calL o l r z).2 :: st) ∧ (calV v m st.length o l r z).2.2.2 = st.length + 1) := by
  unfold calV calL
  split
  · exact ⟨rfl, fun _ => ⟨Pl_push (x := (nI 0, true)) h, rfl⟩⟩
  split
  · exact ⟨rfl, fun z => absurd (show (-1004 : Int32) = nI 0 from z) (by decide)⟩
  split
  · exact ⟨rfl, fun _ => ⟨Pl_push (x := (_, false)) h, rfl⟩⟩
  · exact ⟨rfl, fun z => absurd (show (-1005 : Int32) = nI 0 from z) (by decide)⟩
theorem ev_sim {ld : Nat → Nat → VN} {o : Nat} {y : Int32} {st : List VN} (h1 : 1 ≤ o) (h20 : o ≤ 20) (ha : arty o ≤ st.length) (h : Pl v m st) : (ev1 ld (nI o, y) v m st.length).1 = (el1 ld (nI o, y) st).1 ∧ ((el1 ld (nI o, y) st).1 = nI 0 → Pl (ev1 ld (nI o, y) v m st.length).2.1 (ev1 ld (nI o, y) v m st.length).2.2.1 (el1 ld (nI o, y) st).2 ∧ (ev1 ld (nI o, y) v m st.length).2.2.2 = (el1 ld (nI o, y) st).2.length) := by
  have q : ∀ k, k < 100 → (nI o = nI k) = (o = k) := fun k hk => n_eqE (by omega) (by omega)
  have q10 : (nI o ≤ nI 10) = (o ≤ 10) := n_leE (by omega) (by decide)
  have q16 : (nI o ≤ nI 16) = (o ≤ 16) := n_leE (by omega) (by decide)
  unfold ev1 el1
  simp only [q 1 (by decide), q 2 (by decide), q 3 (by decide), q 4 (by decide), q 5 (by decide), q 6 (by decide), q 17 (by decide), q 18 (by decide), q 19 (by decide), q10, q16]
  by_cases c1 : o = 1
  · simp only [c1, reduceIte]; exact ⟨by first | rfl | trivial, fun _ => ⟨Pl_push (x := (y, false)) h, by first | rfl | trivial⟩⟩
  by_cases c2 : o = 2
  · simp only [c2, reduceIte, show ¬ 2 = 1 by decide]; exact ⟨by first | rfl | trivial, fun _ => ⟨Pl_push (x := (y, false)) h, by first | rfl | trivial⟩⟩
  by_cases c3 : o = 3
  · simp only [c3, reduceIte, show ¬ 3 = 1 by decide, show ¬ 3 = 2 by decide]; exact ⟨by first | rfl | trivial, fun _ => ⟨Pl_push (x := (nI 0, true)) h, by first | rfl | trivial⟩⟩
  by_cases c4 : o = 4
  · simp only [c4, reduceIte, show ¬ 4 = 1 by decide, show ¬ 4 = 2 by decide, show ¬ 4 = 3 by decide]; exact ⟨by first | rfl | trivial, fun _ => ⟨Pl_push (x := ld 0 y.toNatClampNeg) h, by first | rfl | trivial⟩⟩
  by_cases c5 : o = 5
  · simp only [c5, reduceIte, show ¬ 5 = 1 by decide, show ¬ 5 = 2 by decide, show ¬ 5 = 3 by decide, show ¬ 5 = 4 by decide]; exact ⟨by first | rfl | trivial, fun _ => ⟨Pl_push (x := ld 1 y.toNatClampNeg) h, by first | rfl | trivial⟩⟩
  simp only [c1, c2, c3, c4, c5, reduceIte]
  cases st with
  | nil =>
    exfalso
    unfold arty at ha
    rw [if_neg (by omega)] at ha
    split at ha <;> simp at ha
  | cons b st1 =>
    obtain ⟨⟨hb1, hb2⟩, hp⟩ := h
    simp only [List.length_cons, Nat.add_sub_cancel]
    by_cases c6 : o = 6
    · subst c6
      simp only [reduceIte, true_or, hb1, hb2, uE]
      exact cal_sim hp
    by_cases c17 : o = 17
    · subst c17
      simp only [show ¬ 17 = 6 by decide, show ¬ 17 ≤ 10 by decide, show ¬ 17 ≤ 16 by decide, show ¬ nI 17 = nI 6 by decide, reduceIte, true_or, or_true, hb2, uE]
      exact ⟨by first | rfl | trivial, fun _ => ⟨Pl_push (x := (_, false)) hp, by first | rfl | trivial⟩⟩
    by_cases c18 : o = 18
    · subst c18
      simp only [show ¬ 18 = 6 by decide, show ¬ 18 = 17 by decide, show ¬ 18 ≤ 10 by decide, show ¬ 18 ≤ 16 by decide, show ¬ nI 18 = nI 6 by decide, show ¬ nI 18 = nI 17 by decide, reduceIte, true_or, or_true, hb1, uE]
      exact ⟨by first | rfl | trivial, fun _ => ⟨Pl_push (x := (_, false)) hp, by first | rfl | trivial⟩⟩
    simp only [c6, c17, c18, or_self, reduceIte]
    cases st1 with
    | nil =>
      exfalso
      unfold arty at ha
      rw [if_neg (by omega), if_neg (by omega)] at ha
      simp at ha
    | cons a st2 =>
      obtain ⟨⟨ha1, ha2⟩, h2⟩ := hp
      simp only [List.length_cons] at hb1 hb2
      simp only [List.length_cons, show st2.length + 1 + 1 - 2 = st2.length by omega, hb1, hb2, ha1, ha2, bE, q10, q16, q 19 (by decide)]
      by_cases c10 : o ≤ 10
      · simp only [c10, reduceIte]
        exact cal_sim h2
      by_cases c16 : o ≤ 16
      · simp only [c10, c16, reduceIte]
        exact ⟨by first | rfl | trivial, fun _ => ⟨Pl_push (x := (_, false)) h2, by first | rfl | trivial⟩⟩
      by_cases c19 : o = 19
      · simp only [c10, c16, c19, reduceIte]
        exact ⟨by first | rfl | trivial, fun _ => ⟨Pl_push (x := (_, false)) h2, by first | rfl | trivial⟩⟩
      · simp only [c10, c16, c19, reduceIte]
        exact ⟨by first | rfl | trivial, fun _ => ⟨Pl_push (x := (_, false)) h2, by first | rfl | trivial⟩⟩
end
def WA : WL → Nat → Prop
  | [], _ => True
  | w :: ws, n => ∃ o, w.1 = nI o ∧ 1 ≤ o ∧ o ≤ 20 ∧ arty o ≤ n ∧ WA ws (n - arty o + 1)
theorem el1_len {ld : Nat → Nat → VN} {o : Nat} {y : Int32} {st : List VN} (h1 : 1 ≤ o) (h20 : o ≤ 20) (ha : arty o ≤ st.length) : (el1 ld (nI o, y) st).2.length = st.length - arty o + 1 := by
  have q : ∀ k, k < 100 → (nI o = nI k) = (o = k) := fun k hk => n_eqE (by omega) (by omega)
  unfold el1
  simp only [q 1 (by decide), q 2 (by decide), q 3 (by decide), q 4 (by decide), q 5 (by decide), q 6 (by decide), q 17 (by decide), q 18 (by decide)]
  by_cases c5 : o ≤ 5
  · have e : arty o = 0 := by unfold arty; rw [if_pos (Or.inl c5)]
    rw [e]
    (repeat' split) <;> first | rfl | (exfalso; omega) | simp
  · rw [if_neg (by omega), if_neg (by omega), if_neg (by omega), if_neg (by omega), if_neg (by omega)]
    cases st with
    | nil =>
      exfalso
      unfold arty at ha
      rw [if_neg (by omega)] at ha
      split at ha <;> simp at ha
    | cons b st1 =>
      simp only
      by_cases c6 : o = 6 ∨ o = 17 ∨ o = 18
      · have e : arty o = 1 := by unfold arty; rw [if_neg (by omega), if_pos c6]
        rw [if_pos c6, e]
        simp
      · have e : arty o = 2 := by unfold arty; rw [if_neg (by omega), if_neg c6]
        rw [if_neg c6, e]
        cases st1 with
        | nil => rw [e] at ha; simp at ha
        | cons a st2 => simp
theorem evs_sim {ld : Nat → Nat → VN} : ∀ {ws : WL} {v : Nat → Int32} {m : Nat → Bool} {st : List VN}, WA ws st.length → Pl v m st → (evs ld ws v m st.length).1 = (els ld ws st).1 ∧ ((els ld ws st).1 = nI 0 → Pl (evs ld ws v m st.length).2.1 (evs ld ws v m st.length).2.2.1 (els ld ws st).2 ∧ (evs ld ws v m st.length).2.2.2 = (els ld ws st).2.length) := by
  intro ws
  induction ws with
  | nil => intro v m st hw hg; exact ⟨rfl, fun _ => ⟨hg, rfl⟩⟩
  | cons w ws ih =>
    intro v m st hw hg
    obtain ⟨w1, y⟩ := w
    obtain ⟨o, rfl, h1, h20, ha, hw2⟩ := hw
    have hs := ev_sim (ld := ld) (y := y) h1 h20 ha hg
    have hl := el1_len (ld := ld) (y := y) h1 h20 ha
    rw [evs, els]
    by_cases hf : (el1 ld (nI o, y) st).1 = nI 0
    · rw [if_pos (by rw [hs.1]; exact hf), if_pos hf, (hs.2 hf).2]
      exact ih (by rw [hl]; exact hw2) (hs.2 hf).1
    · rw [if_neg (by rw [hs.1]; exact hf), if_neg hf]
      exact ⟨hs.1, fun z => absurd z hf⟩
theorem els_app {ld : Nat → Nat → VN} : ∀ (x y : WL) (st : List VN), ((els ld x st).1 = nI 0 → els ld (x ++ y) st = els ld y (els ld x st).2) ∧ (¬ (els ld x st).1 = nI 0 → (els ld (x ++ y) st).1 = (els ld x st).1) := by
  intro x
  induction x with
  | nil => intro y st; exact ⟨fun _ => rfl, fun h => absurd rfl h⟩
  | cons w x ih =>
    intro y st
    rw [List.cons_append, els, els]
    by_cases hf : (el1 ld w st).1 = nI 0
    · simp only [hf, reduceIte]
      exact ih y (el1 ld w st).2
    · simp only [hf, reduceIte]
      exact ⟨fun h => absurd h (by simp), fun _ => trivial⟩
/-- what the words come to: the fault or 0, the value -/
def EX (ld : Nat → Nat → VN) (x : WL) (f : Int32) (r : VN) : Prop := (f = nI 0 ∨ f = -1004 ∨ f = -1005) ∧ ∀ st : List VN, (¬ f = nI 0 → (els ld x st).1 = f) ∧ (f = nI 0 → els ld x st = (nI 0, r :: st))
section
variable {ld : Nat → Nat → VN}
theorem EX_one {x : WL} {f1 f2 : Int32} {r1 r2 : VN} (a : EX ld x f1 r1) (b : EX ld x f2 r2) : f1 = f2 ∧ (f1 = nI 0 → r1 = r2) := by
  have ha := a.2 []
  have hb := b.2 []
  by_cases q1 : f1 = nI 0
  · have e1 := ha.2 q1
    by_cases q2 : f2 = nI 0
    · have e2 := hb.2 q2
      rw [e1] at e2
      simp only [Prod.mk.injEq, List.cons.injEq, true_and, and_true] at e2
      exact ⟨q1.trans q2.symm, fun _ => e2⟩
    · have e2 := hb.1 q2
      rw [e1] at e2
      exact absurd e2.symm q2
  · have e1 := ha.1 q1
    by_cases q2 : f2 = nI 0
    · have e2 := hb.2 q2
      rw [e2] at e1
      exact absurd e1.symm q1
    · exact ⟨e1.symm.trans (hb.1 q2), fun z => absurd z q1⟩
theorem EX_num (y : Int32) : EX ld [(nI 1, y)] (nI 0) (y, false) := ⟨Or.inl rfl, fun st => ⟨fun h => absurd rfl h, fun _ => by simp [els, el1]⟩⟩
theorem EX_txt (y : Int32) : EX ld [(nI 2, y)] (nI 0) (y, false) := ⟨Or.inl rfl, fun st => ⟨fun h => absurd rfl h, fun _ => by simp [els, el1, show ¬ nI 2 = nI 1 by decide]⟩⟩
theorem EX_nul : EX ld [(nI 3, nI 0)] (nI 0) (nI 0, true) := ⟨Or.inl rfl, fun st => ⟨fun h => absurd rfl h, fun _ => by simp [els, el1, show ¬ nI 3 = nI 1 by decide, show ¬ nI 3 = nI 2 by decide]⟩⟩
theorem EX_ld (i c : Nat) (hi : i < 2) (hc : c < 1000) : EX ld [(nI (4 + i), nI c)] (nI 0) (ld i c) := by
  refine ⟨Or.inl rfl, fun st => ⟨fun h => absurd rfl h, fun _ => ?_⟩⟩
  have : i = 0 ∨ i = 1 := by omega
  rcases this with rfl | rfl
  · simp [els, el1, show ¬ nI 4 = nI 1 by decide, show ¬ nI 4 = nI 2 by decide, show ¬ nI 4 = nI 3 by decide, nI_clamp (show c < 2 ^ 31 by omega)]
  · simp [els, el1, show ¬ nI 5 = nI 1 by decide, show ¬ nI 5 = nI 2 by decide, show ¬ nI 5 = nI 3 by decide, show ¬ nI 5 = nI 4 by decide, nI_clamp (show c < 2 ^ 31 by omega)]
theorem calL_3 (o l r : Int32) (z : Bool) : (calL o l r z).1 = nI 0 ∨ (calL o l r z).1 = -1004 ∨ (calL o l r z).1 = -1005 := by
  unfold calL
  (repeat' split) <;> simp
theorem uE_3 (o : Int32) (b : VN) : (uE o b).1 = nI 0 ∨ (uE o b).1 = -1004 ∨ (uE o b).1 = -1005 := by
  unfold uE
  split
  · exact calL_3 ..
  split <;> simp
theorem bE_3 (o : Int32) (a b : VN) : (bE o a b).1 = nI 0 ∨ (bE o a b).1 = -1004 ∨ (bE o a b).1 = -1005 := by
  unfold bE
  split
  · exact calL_3 ..
  (repeat' split) <;> simp
theorem EX_un {o : Nat} {a : WL} {f : Int32} {r : VN} (ho : o = 6 ∨ o = 17 ∨ o = 18) (h : EX ld a f r) : EX ld (a ++ [(nI o, nI 0)]) (if f = nI 0 then (uE (nI o) r).1 else f) (uE (nI o) r).2 := by
  have q : ∀ k, k < 6 → ¬ nI o = nI k := by
    intro k hk e
    rw [n_eqE (by omega) (by omega)] at e
    omega
  have qq : nI o = nI 6 ∨ nI o = nI 17 ∨ nI o = nI 18 := by rcases ho with rfl | rfl | rfl <;> simp
  refine ⟨?_, fun st => ?_⟩
  · split
    · exact uE_3 ..
    · exact h.1
  · have hs := h.2 st
    have ht := els_app (ld := ld) a [(nI o, nI 0)] st
    by_cases q1 : f = nI 0
    · have ht1 := ht.1 (by rw [hs.2 q1])
      rw [hs.2 q1] at ht1
      simp only [els, el1, q 1 (by decide), q 2 (by decide), q 3 (by decide), q 4 (by decide), q 5 (by decide), qq, reduceIte] at ht1
      rw [ht1, if_pos q1]
      by_cases q2 : (uE (nI o) r).1 = nI 0
      · rw [if_pos q2]
        exact ⟨fun z => absurd q2 z, fun _ => rfl⟩
      · rw [if_neg q2]
        exact ⟨fun _ => rfl, fun z => absurd z q2⟩
    · rw [if_neg q1]
      exact ⟨fun _ => (ht.2 (by rw [hs.1 q1]; exact q1)).trans (hs.1 q1), fun z => absurd z q1⟩
theorem EX_bin {o : Nat} {a b : WL} {f f2 : Int32} {r r2 : VN} (ho : (7 ≤ o ∧ o ≤ 16) ∨ o = 19 ∨ o = 20) (h : EX ld a f r) (g : EX ld b f2 r2) : EX ld (a ++ b ++ [(nI o, nI 0)]) (if f = nI 0 then (if f2 = nI 0 then (bE (nI o) r r2).1 else f2) else f) (bE (nI o) r r2).2 := by
  have q : ∀ k, k < 7 ∨ k = 17 ∨ k = 18 → ¬ nI o = nI k := by
    intro k hk e
    rw [n_eqE (by omega) (by omega)] at e
    omega
  refine ⟨?_, fun st => ?_⟩
  · split
    · split
      · exact bE_3 ..
      · exact g.1
    · exact h.1
  · have hs := h.2 st
    rw [List.append_assoc]
    have ht := els_app (ld := ld) a (b ++ [(nI o, nI 0)]) st
    by_cases q1 : f = nI 0
    · have ht1 := ht.1 (by rw [hs.2 q1])
      rw [hs.2 q1] at ht1
      simp only at ht1
      have gs := g.2 (r :: st)
      have hu := els_app (ld := ld) b [(nI o, nI 0)] (r :: st)
      rw [ht1, if_pos q1]
      by_cases q3 : f2 = nI 0
      · have hu1 := hu.1 (by rw [gs.2 q3])
        rw [gs.2 q3] at hu1
        simp only [els, el1, q 1 (by decide), q 2 (by decide), q 3 (by decide), q 4 (by decide), q 5 (by decide), q 6 (by decide), q 17 (by decide), q 18 (by decide), or_self, reduceIte] at hu1
        rw [hu1, if_pos q3]
        by_cases q2 : (bE (nI o) r r2).1 = nI 0
        · rw [if_pos q2]
          exact ⟨fun z => absurd q2 z, fun _ => rfl⟩
        · rw [if_neg q2]
          exact ⟨fun _ => rfl, fun z => absurd z q2⟩
      · rw [if_neg q3]
        exact ⟨fun _ => (hu.2 (by rw [gs.1 q3]; exact q3)).trans (gs.1 q3), fun z => absurd z q3⟩
    · rw [if_neg q1]
      exact ⟨fun _ => (ht.2 (by rw [hs.1 q1]; exact q1)).trans (hs.1 q1), fun z => absurd z q1⟩
theorem isY_EX {K : Nat → Option Nat} (hK : ∀ i n, K i = some n → n ≤ 4) : ∀ (fu : Nat) (x : WL), YX K fu x → ∃ f r, EX ld x f r := by
  intro fu
  induction fu with
  | zero => intro x h; exact h.elim
  | succ fu ih =>
    intro x h
    rcases h with ⟨y, rfl⟩ | ⟨y, rfl⟩ | rfl | ⟨i, c, n, rfl, hi, hk, hc⟩ | ⟨a, o, ha, ho, rfl⟩ | ⟨a, b, o, ha, hb, ho, rfl⟩
    · exact ⟨_, _, EX_num y⟩
    · exact ⟨_, _, EX_txt y⟩
    · exact ⟨_, _, EX_nul⟩
    · have := hK i n hk
      exact ⟨_, _, EX_ld i c hi (by omega)⟩
    · obtain ⟨f, r, h⟩ := ih a ha
      exact ⟨_, _, EX_un ho h⟩
    · obtain ⟨f, r, h⟩ := ih a ha
      obtain ⟨f2, r2, h2⟩ := ih b hb
      exact ⟨_, _, EX_bin ho h h2⟩
end
