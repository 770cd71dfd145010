-- deps: 272
-- what holds as rows are gathered: how many rows, how great the counts
def col (d : DB) (t c ρ : Nat) : VN := (dV d t (ρ * 4 + c), dM d t (ρ * 4 + c))
def alk (A : AR) (r : Nat) (u : VN) : Prop := A.2.1 (r * 4 + 0) = u.2 ∧ (u.2 = true ∨ A.1 (r * 4 + 0) = u.1)
/-- a select's way, and its first item -/
def Mode (its : IL) (sm gb0 : Bool) (i0 c0 : Nat) : Prop := 1 ≤ its.length ∧ its.length ≤ 4 ∧ ((sm = false ∧ gb0 = false ∧ (∀ i, agI its i = -1)) ∨ (sm = true ∧ gb0 = false ∧ (∀ y, y ∈ its → isAgg y.1)) ∨ (sm = true ∧ gb0 = true ∧ i0 < 2 ∧ c0 < 4 ∧ ∃ l, its = (-1, [(nI (4 + i0), nI c0)]) :: l ∧ ∀ y, y ∈ l → isAgg y.1))
def JK (d : DB) (t c : Nat) (k : Nat) (A : AR) : Prop := (∃ ρ : Nat → Nat, ∀ r, r < k → ρ r < 24 ∧ alk A r (col d t c (ρ r))) ∧ ∀ r r', r < r' → r' < k → ¬ (A.2.1 (r * 4 + 0) = A.2.1 (r' * 4 + 0) ∧ (A.2.1 (r' * 4 + 0) = true ∨ A.1 (r * 4 + 0) = A.1 (r' * 4 + 0)))
def JS (sm gb0 : Bool) (d : DB) (t c p : Nat) (σ : Nat × AR) : Prop := (sm = false → σ.1 ≤ p) ∧ (sm = true → gb0 = false → σ.1 = 1) ∧ (gb0 = true → JK d t c σ.1 σ.2) ∧ ∀ q, q < σ.1 * 4 → σ.2.2.2.2 q ≤ p ∧ (σ.2.2.2.2 q = 0 → σ.2.2.2.1 q = lN 0) ∧ SBw σ.2 q
theorem JK_24 {d : DB} {t c k : Nat} {A : AR} (h : JK d t c k A) : k ≤ 24 := by
  obtain ⟨⟨ρ, hρ⟩, hd⟩ := h
  refine pigeon 24 k ρ (fun i hi => (hρ i hi).1) (fun i j hij hj e => ?_)
  have h1 := (hρ i (by omega)).2
  have h2 := (hρ j hj).2
  rw [e] at h1
  refine hd i j hij hj ⟨h1.1.trans h2.1.symm, ?_⟩
  rcases h2.2 with e2 | e2
  · left; rw [h2.1]; exact e2
  · rcases h1.2 with e1 | e1
    · left; rw [h2.1]; exact e1
    · right; rw [e1, e2]
section
variable {ld : Nat → Nat → VN}
theorem comes_out : ∀ {l : IL} {i r : Nat} {A : AR} {q : Nat}, q < r * 4 + i ∨ r * 4 + i + l.length ≤ q → (comes ld l i r A).1 q = A.1 q ∧ (comes ld l i r A).2.1 q = A.2.1 q ∧ (comes ld l i r A).2.2.1 q = A.2.2.1 q ∧ (comes ld l i r A).2.2.2 q = A.2.2.2 q := by
  intro l
  induction l with
  | nil => intro i r A q h; exact ⟨rfl, rfl, rfl, rfl⟩
  | cons x l ih =>
    intro i r A q h
    rw [List.length_cons] at h
    rw [comes]
    have h1 := ih (i := i + 1) (r := r) (A := come1 x.1 (r * 4 + i) (evX ld x.2).2 A) (q := q) (by omega)
    have h2 := come1_n (A := A) (v := (evX ld x.2).2) (a := x.1) (show q ≠ r * 4 + i by omega)
    exact ⟨h1.1.trans h2.1, h1.2.1.trans h2.2.1, h1.2.2.1.trans h2.2.2.1, h1.2.2.2.trans h2.2.2.2⟩
theorem come1_cn {a : Int32} {q q' : Nat} {v : VN} {A : AR} : (come1 a q v A).2.2.2 q' ≤ A.2.2.2 q' + 1 ∧ ((A.2.2.2 q' = 0 → A.2.2.1 q' = lN 0) → (come1 a q v A).2.2.2 q' = 0 → (come1 a q v A).2.2.1 q' = lN 0) := by
  unfold come1
  split
  · exact ⟨by simp, fun h => h⟩
  split
  · exact ⟨by omega, fun h => h⟩
  · simp only [up1]
    by_cases e : q' = q
    · simp [e]
    · simp [e]
theorem come1_SB {a : Int32} {q q' : Nat} {v : VN} {A : AR} (h : SBw A q') : SBw (come1 a q v A) q' := by
  by_cases e : q' = q
  · subst e
    unfold SBw at *
    unfold come1
    split
    · exact h
    split
    · exact h
    · simp only [up1_s]
      intro hc
      have h1 := h (by omega)
      have hv := i32_lo v.1
      have hv2 : v.1.toInt < 2147483648 := by have := v.1.toInt_lt; omega
      have e2 : (A.2.2.1 q' + v.1.toInt64).toInt = (A.2.2.1 q').toInt + v.1.toInt := by
        rw [Int64.toInt_add, Int32.toInt_toInt64]
        exact Int.bmod_eq_of_le (by omega) (by omega)
      rw [e2]
      omega
  · have e2 := come1_n (A := A) (v := v) (a := a) e
    unfold SBw at *
    rw [e2.2.2.1, e2.2.2.2]
    exact h
theorem comes_SB : ∀ {l : IL} {i r : Nat} {A : AR} {q : Nat}, SBw A q → SBw (comes ld l i r A) q := by
  intro l
  induction l with
  | nil => intro i r A q h; exact h
  | cons x l ih =>
    intro i r A q h
    rw [comes]
    exact ih (come1_SB h)
theorem comes_cn : ∀ {l : IL} {i r : Nat} {A : AR} {q : Nat}, (comes ld l i r A).2.2.2 q ≤ A.2.2.2 q + 1 ∧ ((A.2.2.2 q = 0 → A.2.2.1 q = lN 0) → (comes ld l i r A).2.2.2 q = 0 → (comes ld l i r A).2.2.1 q = lN 0) := by
  intro l
  induction l with
  | nil => intro i r A q; exact ⟨Nat.le_succ _, fun h => h⟩
  | cons x l ih =>
    intro i r A q
    rw [comes]
    have h1 := ih (i := i + 1) (r := r) (A := come1 x.1 (r * 4 + i) (evX ld x.2).2 A) (q := q)
    have h2 := come1_cn (a := x.1) (q := r * 4 + i) (q' := q) (v := (evX ld x.2).2) (A := A)
    refine ⟨?_, fun h => h1.2 (h2.2 h)⟩
    by_cases e : q = r * 4 + i
    · have h3 := (comes_out (ld := ld) (l := l) (i := i + 1) (r := r) (A := come1 x.1 (r * 4 + i) (evX ld x.2).2 A) (q := q) (by omega)).2.2.2
      rw [h3]
      exact h2.1
    · have h3 := (come1_n (A := A) (v := (evX ld x.2).2) (a := x.1) e).2.2.2
      rw [h3] at h1
      exact h1.1
end
theorem evX_ld {d : DB} {tj rw : Nat → Nat} {i c : Nat} (hi : i < 2) (hc : c < 4) : evX (ldE d tj rw) [(nI (4 + i), nI c)] = (nI 0, col d (tj i) c (rw i)) := by
  have := evX_EX (EX_ld (ld := ldE d tj rw) i c hi (by omega))
  exact Prod.ext this.1 (this.2 rfl)
section
variable {its : IL} {sm gb0 : Bool} {i0 c0 : Nat} {d : DB} {tj rw : Nat → Nat} {p : Nat} {σ : Nat × AR}
theorem JS_way (hM : Mode its sm gb0 i0 c0) (hJ : JS sm gb0 d (tj i0) c0 p σ) (hp : p < 576) : Way its sm gb0 σ.1 := by
  obtain ⟨h1, h4, hm⟩ := hM
  refine ⟨h1, h4, ?_⟩
  rcases hm with ⟨rfl, rfl, ha⟩ | ⟨rfl, rfl, ha⟩ | ⟨rfl, rfl, hi, hc, l, rfl, ha⟩
  · exact Or.inl ⟨rfl, rfl, ha, by have := hJ.1 rfl; omega⟩
  · exact Or.inr (Or.inl ⟨rfl, rfl, ha, hJ.2.1 rfl rfl⟩)
  · exact Or.inr (Or.inr ⟨rfl, rfl, ⟨_, l, rfl, ha⟩, JK_24 (hJ.2.2.1 rfl)⟩)
theorem JS_acc (hM : Mode its sm gb0 i0 c0) (hJ : JS sm gb0 d (tj i0) c0 p σ) (hrw : gb0 = true → rw i0 < 24) : JS sm gb0 d (tj i0) c0 (p + 1) (acc sm gb0 its (ldE d tj rw) σ) ∧ (gb0 = true → (accR sm gb0 σ.1 σ.2 (evX (ldE d tj rw) (hdI its)).2).2.1 ≤ 24) := by
  obtain ⟨k, A⟩ := σ
  obtain ⟨h1, h4, hm⟩ := hM
  have cnt : ∀ (r k' : Nat) (A' : AR), (∀ q, q < k' * 4 → A'.2.2.2 q ≤ p ∧ (A'.2.2.2 q = 0 → A'.2.2.1 q = lN 0) ∧ SBw A' q) → ∀ q, q < k' * 4 → (comes (ldE d tj rw) its 0 r A').2.2.2 q ≤ p + 1 ∧ ((comes (ldE d tj rw) its 0 r A').2.2.2 q = 0 → (comes (ldE d tj rw) its 0 r A').2.2.1 q = lN 0) ∧ SBw (comes (ldE d tj rw) its 0 r A') q := by
    intro r k' A' h q hq
    have := comes_cn (ld := ldE d tj rw) (l := its) (i := 0) (r := r) (A := A') (q := q)
    have h2 := h q hq
    exact ⟨by omega, this.2 h2.2.1, comes_SB h2.2.2⟩
  have bg : ∀ q, q < (k + 1) * 4 → (beg A k).2.2.2 q ≤ p ∧ ((beg A k).2.2.2 q = 0 → (beg A k).2.2.1 q = lN 0) ∧ SBw (beg A k) q := by
    intro q hq
    by_cases e : q < k * 4
    · have e2 : q < k * 4 ∨ k * 4 + 4 ≤ q := Or.inl e
      show zr4 A.2.2.2 k 0 q ≤ p ∧ (zr4 A.2.2.2 k 0 q = 0 → zr4 A.2.2.1 k (lN 0) q = lN 0) ∧ (zr4 A.2.2.2 k 0 q ≤ 600 → -(2147483648 * ((zr4 A.2.2.2 k 0 q : Nat) : Int)) ≤ (zr4 A.2.2.1 k (lN 0) q).toInt ∧ (zr4 A.2.2.1 k (lN 0) q).toInt ≤ 2147483648 * ((zr4 A.2.2.2 k 0 q : Nat) : Int))
      rw [zr4_out _ _ _ e2, zr4_out _ _ _ e2]
      exact hJ.2.2.2 q e
    · obtain ⟨b, rfl⟩ : ∃ b, q = k * 4 + b := ⟨q - k * 4, by omega⟩
      have hb4 : b < 4 := by omega
      refine ⟨?_, fun _ => zr4_in _ _ _ hb4, (SBd_beg hb4).2⟩
      show zr4 A.2.2.2 k 0 _ ≤ p
      rw [zr4_in _ _ _ hb4]
      omega
  rcases hm with ⟨rfl, rfl, ha⟩ | ⟨rfl, rfl, ha⟩ | ⟨rfl, rfl, hi, hc, l, rfl, ha⟩
  · refine ⟨⟨fun _ => by have := hJ.1 rfl; show k + 1 ≤ p + 1; simp only at this; omega, fun e => absurd e (by decide), fun e => absurd e (by decide), ?_⟩, fun e => absurd e (by decide)⟩
    exact cnt k (k + 1) (beg A k) bg
  · refine ⟨⟨fun e => absurd e (by decide), fun _ _ => hJ.2.1 rfl rfl, fun e => absurd e (by decide), ?_⟩, fun e => absurd e (by decide)⟩
    exact cnt 0 k A hJ.2.2.2
  · have eV := evX_ld (d := d) (tj := tj) (rw := rw) hi hc
    have hK := hJ.2.2.1 rfl
    simp only at hK
    have hd0 : hdI ((-1, [(nI (4 + i0), nI c0)]) :: l) = [(nI (4 + i0), nI c0)] := rfl
    rw [hd0, eV]
    simp only
    -- the first cell of a row behind the other items
    have fst : ∀ (r q : Nat) (A' : AR), (comes (ldE d tj rw) l 1 r A').1 (q * 4 + 0) = A'.1 (q * 4 + 0) ∧ (comes (ldE d tj rw) l 1 r A').2.1 (q * 4 + 0) = A'.2.1 (q * 4 + 0) := by
      intro r q A'
      have hl : l.length ≤ 3 := by simp at h4; omega
      have := comes_out (ld := ldE d tj rw) (l := l) (i := 1) (r := r) (A := A') (q := q * 4 + 0) (by omega)
      exact ⟨this.1, this.2.1⟩
    have eC : ∀ (r : Nat) (A' : AR), comes (ldE d tj rw) ((-1, [(nI (4 + i0), nI c0)]) :: l) 0 r A' = comes (ldE d tj rw) l 1 r (come1 (-1) (r * 4 + 0) (col d (tj i0) c0 (rw i0)) A') := by
      intro r A'
      rw [comes, eV]
    have hc1 : ∀ (r q : Nat) (A' : AR), (come1 (-1) (r * 4 + 0) (col d (tj i0) c0 (rw i0)) A').1 (q * 4 + 0) = (if q = r then (col d (tj i0) c0 (rw i0)).1 else A'.1 (q * 4 + 0)) ∧ (come1 (-1) (r * 4 + 0) (col d (tj i0) c0 (rw i0)) A').2.1 (q * 4 + 0) = (if q = r then (col d (tj i0) c0 (rw i0)).2 else A'.2.1 (q * 4 + 0)) := by
      intro r q A'
      simp only [come1, reduceIte, up1]
      by_cases e : q = r
      · simp [e]
      · have : ¬ q * 4 + 0 = r * 4 + 0 := by omega
        rw [if_neg this, if_neg this, if_neg e, if_neg e]
        exact ⟨rfl, rfl⟩
    cases hq : fGr A (col d (tj i0) c0 (rw i0)) k 0 with
    | some r0 =>
      have hs := fGr_some hq
      have eR : accR true true k A (col d (tj i0) c0 (rw i0)) = (r0, k, A) := by simp [accR, hq]
      have eA : acc true true ((-1, [(nI (4 + i0), nI c0)]) :: l) (ldE d tj rw) (k, A) = (k, comes (ldE d tj rw) ((-1, [(nI (4 + i0), nI c0)]) :: l) 0 r0 A) := by
        unfold acc
        simp only [hd0, eV, eR]
      rw [eA, eR]
      refine ⟨⟨fun e => absurd e (by decide), fun _ e => absurd e (by decide), fun _ => ?_, cnt r0 k A hJ.2.2.2⟩, fun _ => JK_24 hK⟩
      obtain ⟨⟨ρ, hρ⟩, hdis⟩ := hK
      -- the keys stay alike
      have keep : ∀ q, q < k → (comes (ldE d tj rw) ((-1, [(nI (4 + i0), nI c0)]) :: l) 0 r0 A).2.1 (q * 4 + 0) = A.2.1 (q * 4 + 0) ∧ (A.2.1 (q * 4 + 0) = true ∨ (comes (ldE d tj rw) ((-1, [(nI (4 + i0), nI c0)]) :: l) 0 r0 A).1 (q * 4 + 0) = A.1 (q * 4 + 0)) := by
        intro q _
        rw [eC, (fst ..).1, (fst ..).2, (hc1 ..).1, (hc1 ..).2]
        by_cases e : q = r0
        · subst e
          rw [if_pos rfl, if_pos rfl, hs.2.2.1]
          refine ⟨rfl, ?_⟩
          rcases hs.2.2.2 with e | e
          · exact Or.inl e
          · exact Or.inr e.symm
        · rw [if_neg e, if_neg e]
          exact ⟨rfl, Or.inr rfl⟩
      refine ⟨⟨ρ, fun r hr => ⟨(hρ r hr).1, ?_⟩⟩, ?_⟩
      · have h2 := (hρ r hr).2
        have h3 := keep r hr
        refine ⟨h3.1.trans h2.1, ?_⟩
        rcases h2.2 with e | e
        · exact Or.inl e
        · rcases h3.2 with e3 | e3
          · left; rw [← h2.1]; exact e3
          · right; exact e3.trans e
      · intro r r' hrr hr' hh
        have h3 := keep r (by omega)
        have h4 := keep r' hr'
        rw [h3.1, h4.1] at hh
        refine hdis r r' hrr hr' ⟨hh.1, ?_⟩
        rcases hh.2 with e | e
        · exact Or.inl e
        · rcases h4.2 with e4 | e4
          · exact Or.inl e4
          · rcases h3.2 with e3 | e3
            · left; rw [← hh.1]; exact e3
            · right; rw [← e3, e, e4]
    | none =>
      have hno := fGr_none hq
      have eR : accR true true k A (col d (tj i0) c0 (rw i0)) = (k, k + 1, beg A k) := by simp [accR, hq]
      have eA : acc true true ((-1, [(nI (4 + i0), nI c0)]) :: l) (ldE d tj rw) (k, A) = (k + 1, comes (ldE d tj rw) ((-1, [(nI (4 + i0), nI c0)]) :: l) 0 k (beg A k)) := by
        unfold acc
        simp only [hd0, eV, eR]
      rw [eA, eR]
      obtain ⟨⟨ρ, hρ⟩, hdis⟩ := hK
      have old : ∀ q, q < k → (comes (ldE d tj rw) ((-1, [(nI (4 + i0), nI c0)]) :: l) 0 k (beg A k)).2.1 (q * 4 + 0) = A.2.1 (q * 4 + 0) ∧ (comes (ldE d tj rw) ((-1, [(nI (4 + i0), nI c0)]) :: l) 0 k (beg A k)).1 (q * 4 + 0) = A.1 (q * 4 + 0) := by
        intro q hq'
        rw [eC, (fst ..).1, (fst ..).2, (hc1 ..).1, (hc1 ..).2, if_neg (by omega), if_neg (by omega)]
        exact ⟨zr4_out _ _ _ (by omega), zr4_out _ _ _ (by omega)⟩
      have new : (comes (ldE d tj rw) ((-1, [(nI (4 + i0), nI c0)]) :: l) 0 k (beg A k)).2.1 (k * 4 + 0) = (col d (tj i0) c0 (rw i0)).2 ∧ (comes (ldE d tj rw) ((-1, [(nI (4 + i0), nI c0)]) :: l) 0 k (beg A k)).1 (k * 4 + 0) = (col d (tj i0) c0 (rw i0)).1 := by
        rw [eC, (fst ..).1, (fst ..).2, (hc1 ..).1, (hc1 ..).2, if_pos rfl, if_pos rfl]
        exact ⟨rfl, rfl⟩
      have hJK : JK d (tj i0) c0 (k + 1) (comes (ldE d tj rw) ((-1, [(nI (4 + i0), nI c0)]) :: l) 0 k (beg A k)) := by
        refine ⟨⟨fun r => if r = k then rw i0 else ρ r, fun r hr => ?_⟩, ?_⟩
        · by_cases e : r = k
          · subst e
            simp only [reduceIte]
            exact ⟨hrw rfl, new.1, Or.inr new.2⟩
          · simp only [e, reduceIte]
            have h2 := hρ r (by omega)
            have h3 := old r (by omega)
            refine ⟨h2.1, h3.1.trans h2.2.1, ?_⟩
            rw [h3.2]
            exact h2.2.2
        · intro r r' hrr hr' hh
          have h3 := old r (by omega)
          by_cases e : r' = k
          · subst e
            rw [h3.1, h3.2, new.1, new.2] at hh
            exact hno r (by omega) (by omega) hh
          · have h4 := old r' (by omega)
            rw [h3.1, h3.2, h4.1, h4.2] at hh
            exact hdis r r' hrr (by omega) hh
      exact ⟨⟨fun e => absurd e (by decide), fun _ e => absurd e (by decide), fun _ => hJK, cnt k (k + 1) (beg A k) bg⟩, fun _ => JK_24 hJK⟩
theorem JS_mono {p' : Nat} (hJ : JS sm gb0 d (tj i0) c0 p σ) (h : p ≤ p') : JS sm gb0 d (tj i0) c0 p' σ := ⟨fun e => by have := hJ.1 e; omega, hJ.2.1, hJ.2.2.1, fun q hq => ⟨by have := (hJ.2.2.2 q hq).1; omega, (hJ.2.2.2 q hq).2⟩⟩
theorem JS_pr (cnd : Option WL) (hM : Mode its sm gb0 i0 c0) (hJ : JS sm gb0 d (tj i0) c0 p σ) (hrw : gb0 = true → rw i0 < 24) : JS sm gb0 d (tj i0) c0 (p + 1) (prS sm gb0 its cnd (ldE d tj rw) σ).2 := by
  unfold prS
  have h1 := (JS_acc (rw := rw) hM hJ hrw).1
  have h2 := JS_mono hJ (Nat.le_succ p)
  (repeat' split) <;> first | exact h1 | exact h2
end
