-- deps: 295
-- act: select, its check
section
variable (P : Nat → Option (Nat × Nat)) (ty : Nat → Nat → Int32)
/-- the items, checked: the fault, the items then, how high the pile grows -/
def isF : IL → Int32
  | [] => nI 0
  | y :: l => if txF P ty y.2 = nI 0 then (if y.1 = nI 218 ∧ txT P ty y.2 = nI 2 then -1002 else isF l) else txF P ty y.2
def isW (its : IL) : IL := its.map (fun y => (y.1, txW P ty y.2))
def isH : IL → Nat
  | [] => 0
  | y :: l => max (txH P ty y.2) (isH l)
end
section
variable {P : Nat → Option (Nat × Nat)} {ty : Nat → Nat → Int32} {K : Nat → Option Nat}
theorem it_tx : ∀ {its : IL} {g : Nat → Int32} {n m : Nat}, (∀ y, y ∈ its → WH y.2 0 ∧ ∃ f x' τ hg, TX P ty K y.2 f x' τ hg) → (ckIt P ty its g n m).1 = isF P ty its ∧ (isF P ty its = nI 0 → (ckIt P ty its g n m).2.1 = isW P ty its ∧ (ckIt P ty its g n m).2.2.2.2 = max m (isH P ty its)) := by
  intro its
  induction its with
  | nil => intro g n m h; exact ⟨rfl, fun _ => ⟨rfl, by simp [ckIt, isH]⟩⟩
  | cons y l ih =>
    intro g n m h
    have hy := h y (by simp)
    have hck := ck_tx (g := g) (m := m) hy.1 hy.2
    rw [ckIt, isF, hck.1]
    by_cases q : txF P ty y.2 = nI 0
    · obtain ⟨w1, w2, w3⟩ := hck.2 q
      rw [if_pos q, if_pos q, w2]
      by_cases q2 : y.1 = nI 218 ∧ txT P ty y.2 = nI 2
      · rw [if_pos q2, if_pos q2]
        exact ⟨rfl, fun z => absurd z (by decide)⟩
      · rw [if_neg q2, if_neg q2]
        have hi := ih (g := (ckWs P ty y.2 g 0 m).2.2.1) (n := (ckWs P ty y.2 g 0 m).2.2.2.1) (m := (ckWs P ty y.2 g 0 m).2.2.2.2) (fun z hz => h z (by simp [hz]))
        refine ⟨hi.1, fun h0 => ?_⟩
        have h2 := hi.2 h0
        simp only
        rw [h2.1, h2.2, w1, w3]
        refine ⟨rfl, ?_⟩
        simp only [isH]
        omega
    · rw [if_neg q, if_neg q]
      exact ⟨rfl, fun z => absurd z q⟩
theorem isF_all : ∀ {its : IL}, isF P ty its = nI 0 → ∀ y, y ∈ its → txF P ty y.2 = nI 0 ∧ txH P ty y.2 ≤ isH P ty its := by
  intro its
  induction its with
  | nil => intro h y hy; exact absurd hy (by simp)
  | cons z l ih =>
    intro h y hy
    rw [isF] at h
    by_cases q : txF P ty z.2 = nI 0
    · rw [if_pos q] at h
      by_cases q2 : z.1 = nI 218 ∧ txT P ty z.2 = nI 2
      · rw [if_pos q2] at h; exact absurd h (by decide)
      · rw [if_neg q2] at h
        rcases List.mem_cons.mp hy with rfl | hy
        · exact ⟨q, by simp only [isH]; omega⟩
        · have := ih h y hy
          exact ⟨this.1, by simp only [isH]; omega⟩
    · rw [if_neg q] at h
      exact absurd h q
end
abbrev SLT : Type := IL × Int32 × Option Int32 × Option WL × Option Nat × Int32 × Bool
def tcS (y : SLT) : Nat := match y.2.2.1 with
  | none => 1
  | some _ => 2
def nmS (y : SLT) (i : Nat) : Int32 := if i = 0 then y.2.1 else y.2.2.1.getD (nI 0)
def plS (d : DB) (T : WL) (y : SLT) : Nat → Option (Nat × Nat) := plc d T (nmS y) (tno d (nmS y)) (tcS y)
def tyS (d : DB) (y : SLT) : Nat → Nat → Int32 := fun i c => dCT d (tno d (nmS y) i) c
/-- what the check of a select answers -/
def skF (d : DB) (T : WL) (y : SLT) : Int32 :=
  if isF (plS d T y) (tyS d y) y.1 = nI 0 then
    (if cdF (plS d T y) (tyS d y) y.2.2.2.1 = nI 0 then fin5 (tlS (plS d T y) y.2.2.2.2.1 y.2.2.2.2.2.1 (isW (plS d T y) (tyS d y) y.1)) (max (isH (plS d T y) (tyS d y) y.1) (cdH (plS d T y) (tyS d y) y.2.2.2.1))
     else cdF (plS d T y) (tyS d y) y.2.2.2.1)
  else isF (plS d T y) (tyS d y) y.1
def grB (y : SLT) : Bool := y.2.2.2.2.1.isSome
def smB (d : DB) (T : WL) (y : SLT) : Bool := decide (0 < agN (isW (plS d T y) (tyS d y) y.1)) || grB y
def slR (A : AR) (T : WL) (d : DB) (y : SLT) : Int32 × Nat × AR := selO (smB d T y) (grB y) (isW (plS d T y) (tyS d y) y.1) (cdW (plS d T y) (tyS d y) y.2.2.2.1) d (tno d (nmS y)) (if tcS y = 2 then dR d (tno d (nmS y) 1) else 1) (dR d (tno d (nmS y) 0)) 0 (sel0 (smB d T y) (grB y) A)
noncomputable def aSe (A : AR) (T : WL) (d : DB) (y : SLT) : OUT :=
  @ite _ (allT d (nmS y) (tcS y)) (Classical.propDecidable _)
    (if skF d T y = nI 0 then
      (if (slR A T d y).1 = nI 0 then @ite _ (OVF (isW (plS d T y) (tyS d y) y.1) (slR A T d y).2.1 (slR A T d y).2.2) (Classical.propDecidable _) (-1005, d, none) (nI (slR A T d y).2.1, d, some (isW (plS d T y) (tyS d y) y.1, y.2.2.2.2.2.1, y.2.2.2.2.2.2, (slR A T d y).2.1, (slR A T d y).2.2))
       else ((slR A T d y).1, d, none))
     else (skF d T y, d, none))
    (-1001, d, none)
theorem aSe_n {A : AR} {T : WL} {d : DB} {y : SLT} (h : ¬ allT d (nmS y) (tcS y)) : aSe A T d y = (-1001, d, none) := if_neg h
theorem aSe_f {A : AR} {T : WL} {d : DB} {y : SLT} (h : allT d (nmS y) (tcS y)) (h2 : ¬ skF d T y = nI 0) : aSe A T d y = (skF d T y, d, none) := by
  unfold aSe
  rw [if_pos h, if_neg h2]
theorem aSe_r {A : AR} {T : WL} {d : DB} {y : SLT} (h : allT d (nmS y) (tcS y)) (h2 : skF d T y = nI 0) (h3 : ¬ (slR A T d y).1 = nI 0) : aSe A T d y = ((slR A T d y).1, d, none) := by
  unfold aSe
  rw [if_pos h, if_pos h2, if_neg h3]
theorem aSe_o {A : AR} {T : WL} {d : DB} {y : SLT} (h : allT d (nmS y) (tcS y)) (h2 : skF d T y = nI 0) (h3 : (slR A T d y).1 = nI 0) (h4 : OVF (isW (plS d T y) (tyS d y) y.1) (slR A T d y).2.1 (slR A T d y).2.2) : aSe A T d y = (-1005, d, none) := by
  unfold aSe
  rw [if_pos h, if_pos h2, if_pos h3, if_pos h4]
theorem aSe_s {A : AR} {T : WL} {d : DB} {y : SLT} (h : allT d (nmS y) (tcS y)) (h2 : skF d T y = nI 0) (h3 : (slR A T d y).1 = nI 0) (h4 : ¬ OVF (isW (plS d T y) (tyS d y) y.1) (slR A T d y).2.1 (slR A T d y).2.2) : aSe A T d y = (nI (slR A T d y).2.1, d, some (isW (plS d T y) (tyS d y) y.1, y.2.2.2.2.2.1, y.2.2.2.2.2.2, (slR A T d y).2.1, (slR A T d y).2.2)) := by
  unfold aSe
  rw [if_pos h, if_pos h2, if_pos h3, if_neg h4]
/-- the items of a statement that was read -/
def ItR (T : WL) (its : IL) : Prop := 1 ≤ its.length ∧ its.length ≤ 4 ∧ ∀ y, y ∈ its → isX T y.2 ∧ (y.1 = -1 ∨ isAgg y.1)
theorem agN_0 : ∀ {its : IL}, agN its = 0 → ∀ y, y ∈ its → y.1 = -1 := by
  intro its h y hy
  unfold agN at h
  rw [List.length_eq_zero_iff, List.filter_eq_nil_iff] at h
  have := h y hy
  simpa using this
theorem agN_all : ∀ {its : IL}, agN its = its.length → ∀ y, y ∈ its → ¬ y.1 = -1 := by
  intro its
  induction its with
  | nil => intro h y hy; exact absurd hy (by simp)
  | cons z l ih =>
    intro h y hy
    have hle : agN l ≤ l.length := List.length_filter_le _ _
    by_cases q : z.1 = -1
    · exfalso
      have : agN (z :: l) = agN l := by simp [agN, q]
      rw [this, List.length_cons] at h
      omega
    · have : agN (z :: l) = agN l + 1 := by simp [agN, q]
      rw [this, List.length_cons] at h
      rcases List.mem_cons.mp hy with rfl | hy
      · exact q
      · exact ih (by omega) y hy
/-- a select that was checked goes one of the three ways -/
theorem sel_mode {its : IL} {P : Nat → Option (Nat × Nat)} {grp : Option Nat} {on : Int32} {m : Nat} (h1 : 1 ≤ its.length) (h4 : its.length ≤ 4) (hk : ∀ y, y ∈ its → y.1 = -1 ∨ isAgg y.1) (hP : ∀ p i c, P p = some (i, c) → i < 2 ∧ c < 4) (h : fin5 (tlS P grp on its) m = nI 0) : m ≤ 10 ∧ (on = -1 ∨ ∃ q, on = nI q ∧ 1 ≤ q ∧ q ≤ its.length) ∧ ∃ i0 c0, Mode its (decide (0 < agN its) || grp.isSome) grp.isSome i0 c0 ∧ (grp.isSome = true → ∃ p, P p = some (i0, c0)) := by
  have h0 : tlS P grp on its = nI 0 ∧ m ≤ 10 := by
    unfold fin5 at h
    split at h
    · exact absurd h (by decide)
    · rename_i q
      exact ⟨h, Nat.le_of_not_lt (fun z => q ⟨h, z⟩)⟩
  obtain ⟨ht, hm⟩ := h0
  have hon : ∀ pc : Nat, pc ≤ 4 → ¬ (¬ on = -1 ∧ (on < nI 1 ∨ ¬ on ≤ nI pc)) → on = -1 ∨ ∃ q, on = nI q ∧ 1 ≤ q ∧ q ≤ pc := by
    intro pc hpc hh
    by_cases q : on = -1
    · exact Or.inl q
    · right
      have h1 : ¬ on < nI 1 := fun z => hh ⟨q, Or.inl z⟩
      have h2 : on ≤ nI pc := Classical.byContradiction (fun z => hh ⟨q, Or.inr z⟩)
      obtain ⟨k, hk⟩ := nI_surj on
      have hlt : on.toNatClampNeg < 2 ^ 31 := by
        show on.toInt.toNat < 2 ^ 31
        have := on.toInt_lt
        omega
      have hge : nI 1 ≤ on := Int32.not_lt.mp h1
      have hge2 : (1 : Int) ≤ on.toInt := by
        have := Int32.le_iff_toInt_le.mp hge
        have e : (nI 1).toInt = 1 := by decide
        rw [e] at this
        exact this
      have e : on = nI on.toNatClampNeg := by
        have : on.toInt = (nI on.toNatClampNeg).toInt := by
          have e2 : (nI on.toNatClampNeg).toInt = (on.toNatClampNeg : Int) := Int32.toInt_ofNat_of_lt hlt
          rw [e2]
          show on.toInt = ((on.toInt.toNat : Nat) : Int)
          omega
        exact Int32.toInt.inj this
      refine ⟨on.toNatClampNeg, e, ?_, ?_⟩
      · show 1 ≤ on.toInt.toNat
        omega
      · rw [e] at h2
        rw [n_leE hlt (by omega)] at h2
        exact h2
  refine ⟨hm, ?_⟩
  unfold tlS tlF at ht
  cases grp with
  | none =>
    simp only [Option.map_none] at ht
    split at ht
    · exact absurd ht (by decide)
    · rename_i q
      split at ht
      · rename_i q2
        refine ⟨hon its.length h4 q, 0, 0, ?_, fun e => absurd e (by simp)⟩
        by_cases q3 : agN its = 0
        · refine ⟨h1, h4, Or.inl ⟨by simp [q3], rfl, fun i => ?_⟩⟩
          by_cases hi : i < its.length
          · have e : agI its i = (its[i]).1 := by simp [agI, List.getD, hi]
            rw [e]
            exact agN_0 q3 _ (List.getElem_mem hi)
          · simp [agI, List.getD, hi]
        · have q4 : agN its = its.length := by rcases q2 with e | e; exact absurd e q3; exact e
          refine ⟨h1, h4, Or.inr (Or.inl ⟨by simp; omega, rfl, fun y hy => ?_⟩)⟩
          rcases hk y hy with e | e
          · exact absurd e (agN_all q4 y hy)
          · exact e
      · exact absurd ht (by decide)
  | some w =>
    simp only [Option.map_some] at ht
    cases hp : P w with
    | none => rw [hp] at ht; exact absurd (show (-1001 : Int32) = nI 0 from ht) (by decide)
    | some ic =>
      obtain ⟨i, c⟩ := ic
      rw [hp] at ht
      simp only at ht
      split at ht
      · exact absurd ht (by decide)
      · rename_i q
        split at ht
        · rename_i q2
          refine ⟨hon its.length h4 q, i, c, ?_, fun _ => ⟨w, hp⟩⟩
          have hic := hP w i c hp
          cases its with
          | nil => simp at h1
          | cons z l =>
            obtain ⟨za, zw⟩ := z
            have hf := q2.1
            have hz : za = -1 ∧ zw = [(nI (4 + i), nI c)] := by
              unfold fst1 at hf
              split at hf
              · rename_i a w' l' heq
                simp only [decide_eq_true_eq] at hf
                simp only [List.cons.injEq, Prod.mk.injEq] at heq
                obtain ⟨⟨rfl, rfl⟩, rfl⟩ := heq
                exact ⟨hf.1, by rw [hf.2]⟩
              · exact absurd hf (by simp)
            obtain ⟨rfl, rfl⟩ := hz
            refine ⟨h1, h4, Or.inr (Or.inr ⟨by simp, rfl, hic.1, hic.2, l, rfl, fun y hy => ?_⟩)⟩
            have hag : agN l = l.length := by
              have e1 : agN ((-1, [(nI (4 + i), nI c)]) :: l) = agN l := by simp [agN]
              have := q2.2
              rw [e1, List.length_cons] at this
              omega
            rcases hk y (by simp [hy]) with e | e
            · exact absurd e (agN_all hag y hy)
            · exact e
        · exact absurd ht (by decide)
