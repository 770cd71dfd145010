-- deps: 241
-- words of an expression, one after the other
def evs (ld : Nat → Nat → Int32 × Bool) : List (Int32 × Int32) → (Nat → Int32) → (Nat → Bool) → Nat → Int32 × (Nat → Int32) × (Nat → Bool) × Nat
  | [], v, m, t => (nI 0, v, m, t)
  | w :: ws, v, m, t => if (ev1 ld w v m t).1 = nI 0 then evs ld ws (ev1 ld w v m t).2.1 (ev1 ld w v m t).2.2.1 (ev1 ld w v m t).2.2.2 else ev1 ld w v m t
def EH (d : DB) (tc : Nat) (tj : Nat → Nat) : List (Int32 × Int32) → Nat → Prop
  | [], _ => True
  | w :: ws, t => ∃ o, EW d tc tj w o ∧ arty o ≤ t ∧ t - arty o + 1 ≤ 10 ∧ EH d tc tj ws (t - arty o + 1)
theorem calV_t {v : Nat → Int32} {m : Nat → Bool} {i : Nat} {o l r : Int32} {z : Bool} (h : (calV v m i o l r z).1 = nI 0) : (calV v m i o l r z).2.2.2 = i + 1 := by
  have h1 : ¬ ((-1004 : Int32) = nI 0) := by decide
  have h2 : ¬ ((-1005 : Int32) = nI 0) := by decide
  unfold calV at *
  (repeat' split) <;> simp_all
theorem ev1_t {ld : Nat → Nat → Int32 × Bool} {d : DB} {tc : Nat} {tj : Nat → Nat} {w : Int32 × Int32} {o : Nat} {v : Nat → Int32} {m : Nat → Bool} {t : Nat} (hw : EW d tc tj w o) (ha : arty o ≤ t) (h : (ev1 ld w v m t).1 = nI 0) : (ev1 ld w v m t).2.2.2 = t - arty o + 1 := by
  obtain ⟨w1, y⟩ := w
  obtain ⟨rfl, ho1, ho2, _, _⟩ := hw
  have qe_o_1 : (nI o = nI 1) = (o = 1) := n_eqE (by omega) (by omega)
  have ql_o_1 : (nI o < nI 1) = (o < 1) := n_ltE (by omega) (by omega)
  have qg_o_1 : (nI 1 < nI o) = (1 < o) := n_ltE (by omega) (by omega)
  have qle_o_1 : (nI o ≤ nI 1) = (o ≤ 1) := n_leE (by omega) (by omega)
  have qge_o_1 : (nI 1 ≤ nI o) = (1 ≤ o) := n_leE (by omega) (by omega)
  have qe_o_2 : (nI o = nI 2) = (o = 2) := n_eqE (by omega) (by omega)
  have ql_o_2 : (nI o < nI 2) = (o < 2) := n_ltE (by omega) (by omega)
  have qg_o_2 : (nI 2 < nI o) = (2 < o) := n_ltE (by omega) (by omega)
  have qle_o_2 : (nI o ≤ nI 2) = (o ≤ 2) := n_leE (by omega) (by omega)
  have qge_o_2 : (nI 2 ≤ nI o) = (2 ≤ o) := n_leE (by omega) (by omega)
  have qe_o_3 : (nI o = nI 3) = (o = 3) := n_eqE (by omega) (by omega)
  have ql_o_3 : (nI o < nI 3) = (o < 3) := n_ltE (by omega) (by omega)
  have qg_o_3 : (nI 3 < nI o) = (3 < o) := n_ltE (by omega) (by omega)
  have qle_o_3 : (nI o ≤ nI 3) = (o ≤ 3) := n_leE (by omega) (by omega)
  have qge_o_3 : (nI 3 ≤ nI o) = (3 ≤ o) := n_leE (by omega) (by omega)
  have qe_o_4 : (nI o = nI 4) = (o = 4) := n_eqE (by omega) (by omega)
  have ql_o_4 : (nI o < nI 4) = (o < 4) := n_ltE (by omega) (by omega)
  have qg_o_4 : (nI 4 < nI o) = (4 < o) := n_ltE (by omega) (by omega)
  have qle_o_4 : (nI o ≤ nI 4) = (o ≤ 4) := n_leE (by omega) (by omega)
  have qge_o_4 : (nI 4 ≤ nI o) = (4 ≤ o) := n_leE (by omega) (by omega)
  have qe_o_5 : (nI o = nI 5) = (o = 5) := n_eqE (by omega) (by omega)
  have ql_o_5 : (nI o < nI 5) = (o < 5) := n_ltE (by omega) (by omega)
  have qg_o_5 : (nI 5 < nI o) = (5 < o) := n_ltE (by omega) (by omega)
  have qle_o_5 : (nI o ≤ nI 5) = (o ≤ 5) := n_leE (by omega) (by omega)
  have qge_o_5 : (nI 5 ≤ nI o) = (5 ≤ o) := n_leE (by omega) (by omega)
  have qe_o_6 : (nI o = nI 6) = (o = 6) := n_eqE (by omega) (by omega)
  have ql_o_6 : (nI o < nI 6) = (o < 6) := n_ltE (by omega) (by omega)
  have qg_o_6 : (nI 6 < nI o) = (6 < o) := n_ltE (by omega) (by omega)
  have qle_o_6 : (nI o ≤ nI 6) = (o ≤ 6) := n_leE (by omega) (by omega)
  have qge_o_6 : (nI 6 ≤ nI o) = (6 ≤ o) := n_leE (by omega) (by omega)
  have qe_o_10 : (nI o = nI 10) = (o = 10) := n_eqE (by omega) (by omega)
  have ql_o_10 : (nI o < nI 10) = (o < 10) := n_ltE (by omega) (by omega)
  have qg_o_10 : (nI 10 < nI o) = (10 < o) := n_ltE (by omega) (by omega)
  have qle_o_10 : (nI o ≤ nI 10) = (o ≤ 10) := n_leE (by omega) (by omega)
  have qge_o_10 : (nI 10 ≤ nI o) = (10 ≤ o) := n_leE (by omega) (by omega)
  have qe_o_16 : (nI o = nI 16) = (o = 16) := n_eqE (by omega) (by omega)
  have ql_o_16 : (nI o < nI 16) = (o < 16) := n_ltE (by omega) (by omega)
  have qg_o_16 : (nI 16 < nI o) = (16 < o) := n_ltE (by omega) (by omega)
  have qle_o_16 : (nI o ≤ nI 16) = (o ≤ 16) := n_leE (by omega) (by omega)
  have qge_o_16 : (nI 16 ≤ nI o) = (16 ≤ o) := n_leE (by omega) (by omega)
  have qe_o_17 : (nI o = nI 17) = (o = 17) := n_eqE (by omega) (by omega)
  have ql_o_17 : (nI o < nI 17) = (o < 17) := n_ltE (by omega) (by omega)
  have qg_o_17 : (nI 17 < nI o) = (17 < o) := n_ltE (by omega) (by omega)
  have qle_o_17 : (nI o ≤ nI 17) = (o ≤ 17) := n_leE (by omega) (by omega)
  have qge_o_17 : (nI 17 ≤ nI o) = (17 ≤ o) := n_leE (by omega) (by omega)
  have qe_o_18 : (nI o = nI 18) = (o = 18) := n_eqE (by omega) (by omega)
  have ql_o_18 : (nI o < nI 18) = (o < 18) := n_ltE (by omega) (by omega)
  have qg_o_18 : (nI 18 < nI o) = (18 < o) := n_ltE (by omega) (by omega)
  have qle_o_18 : (nI o ≤ nI 18) = (o ≤ 18) := n_leE (by omega) (by omega)
  have qge_o_18 : (nI 18 ≤ nI o) = (18 ≤ o) := n_leE (by omega) (by omega)
  have qe_o_19 : (nI o = nI 19) = (o = 19) := n_eqE (by omega) (by omega)
  have ql_o_19 : (nI o < nI 19) = (o < 19) := n_ltE (by omega) (by omega)
  have qg_o_19 : (nI 19 < nI o) = (19 < o) := n_ltE (by omega) (by omega)
  have qle_o_19 : (nI o ≤ nI 19) = (o ≤ 19) := n_leE (by omega) (by omega)
  have qge_o_19 : (nI 19 ≤ nI o) = (19 ≤ o) := n_leE (by omega) (by omega)
  simp only [ev1, qe_o_1, qe_o_2, qe_o_3, qe_o_4, qe_o_5, qe_o_6, qle_o_10, qle_o_16, qe_o_17, qe_o_18, qe_o_19] at h ⊢
  have hz : arty o = if o ≤ 5 then 0 else if o = 6 ∨ o = 17 ∨ o = 18 then 1 else 2 := by unfold arty; by_cases hq : o ≤ 5 <;> simp [hq]; omega
  rw [hz] at ha ⊢
  by_cases c1 : o = 1
  · simp [c1]
  by_cases c2 : o = 2
  · simp [c2]
  by_cases c3 : o = 3
  · simp [c3]
  by_cases c4 : o = 4
  · simp [c4]
  by_cases c5 : o = 5
  · simp [c5]
  have n5 : ¬ o ≤ 5 := by omega
  simp only [c1, c2, c3, c4, c5, n5, reduceIte] at h ha ⊢
  by_cases c6 : o = 6
  · simp only [c6, reduceIte, true_or] at h ha ⊢
    exact calV_t h
  simp only [c6, reduceIte, false_or] at h ha ⊢
  by_cases c10 : o ≤ 10
  · have e17 : ¬ (o = 17 ∨ o = 18) := by omega
    simp only [c10, e17, reduceIte] at h ha ⊢
    exact calV_t h
  by_cases c16 : o ≤ 16
  · have e17 : ¬ (o = 17 ∨ o = 18) := by omega
    simp only [c10, c16, e17, reduceIte]
  by_cases c17 : o = 17
  · simp [c17]
  by_cases c18 : o = 18
  · simp [c18]
  by_cases c19 : o = 19
  · simp [c19]
  · simp [c10, c16, c17, c18, c19]
section
variable {ld : Nat → Nat → Int32 × Bool} {w : Int32 × Int32} {ws : List (Int32 × Int32)} {v v' : Nat → Int32} {m m' : Nat → Bool} {t t' : Nat} {f : Int32}
theorem evs_ok (h : ev1 ld w v m t = (f, v', m', t')) (hf : f = nI 0) : evs ld (w :: ws) v m t = evs ld ws v' m' t' := by simp only [evs, h, hf, reduceIte]
theorem evs_f (h : ev1 ld w v m t = (f, v', m', t')) (hf : ¬ f = nI 0) : evs ld (w :: ws) v m t = (f, v', m', t') := by simp only [evs, h, hf, reduceIte]
end
theorem EnvC_rg {S : ST} {d : DB} {tc : Nat} {tj rw : Nat → Nat} (h : EnvC S d tc tj rw) (a n : Nat) : EnvC (rg S a n) d tc tj rw := by
  refine ⟨DbC_same h.1 (by rw [rg_gi8]) (by intro k t; rw [rg_gi7]) (by intro t; rw [rg_ga29, rg_ga30, rg_gb31]; exact ⟨rfl, rfl, rfl, rfl⟩), h.2.1, fun i hi => ?_⟩
  have := h.2.2 i hi
  have h2 := h.2.1
  rw [rg_gr2, rg_i _ _ _ _ (by omega)]
  exact this
theorem PrC_mp {S : ST} {P : List (Int32 × Int32)} (h : PrC S P) (a n : Nat) (v : Nat → Int32) (m : Nat → Bool) (t : Nat) : PrC (mp (rg S a n) v m t) P := by
  unfold PrC at *
  rw [mp_gi1, rg_gi1, mp_ga13, rg_ga13, mp_ga14, rg_ga14]
  exact h
/-- what a word makes of the kinds of what lies on the pile: true is a truth value -/
def kw1 (w : Int32) (ks : List Bool) : Option (List Bool) :=
  if w = nI 1 ∨ w = nI 2 ∨ w = nI 3 ∨ w = nI 4 ∨ w = nI 5 ∨ w = nI 50 then some (false :: ks)
  else match ks with
    | [] => none
    | b :: ks1 =>
      if w = nI 6 then some (false :: ks1)
      else if w = nI 17 then some (true :: ks1)
      else if w = nI 18 then (if b = true then some (true :: ks1) else none)
      else match ks1 with
        | [] => none
        | a :: ks2 => if w ≤ nI 10 then some (false :: ks2) else if w ≤ nI 16 then some (true :: ks2) else if a = true ∧ b = true then some (true :: ks2) else none
def kws : List (Int32 × Int32) → List Bool → Option (List Bool)
  | [], ks => some ks
  | w :: ws, ks => match kw1 w.1 ks with
    | none => none
    | some ks' => kws ws ks'
theorem kws_app : ∀ (a b : List (Int32 × Int32)) (ks ks' : List Bool), kws a ks = some ks' → kws (a ++ b) ks = kws b ks' := by
  intro a
  induction a with
  | nil => intro b ks ks' h; simp only [kws, Option.some.injEq] at h; rw [List.nil_append, h]
  | cons w a ih =>
    intro b ks ks' h
    rw [List.cons_append, kws]
    rw [kws] at h
    cases e : kw1 w.1 ks with
    | none => rw [e] at h; exact absurd h (by simp)
    | some k1 => rw [e] at h; exact ih b k1 ks' h
/-- the pile is of these kinds, from its top down -/
def PT : List Bool → (Nat → Int32) → (Nat → Bool) → Nat → Prop
  | [], _, _, _ => True
  | b :: ks, v, m, t => 1 ≤ t ∧ (b = true → isT v m (t - 1)) ∧ PT ks v m (t - 1)
theorem PT_cg : ∀ {ks : List Bool} {v v' : Nat → Int32} {m m' : Nat → Bool} {t : Nat}, (∀ i, i < t → v' i = v i ∧ m' i = m i) → PT ks v m t → PT ks v' m' t := by
  intro ks
  induction ks with
  | nil => intro v v' m m' t _ _; trivial
  | cons b ks ih =>
    intro v v' m m' t h hp
    obtain ⟨h1, h2, h3⟩ := hp
    refine ⟨h1, fun hb => ?_, ih (fun i hi => h i (by omega)) h3⟩
    have hh := h (t - 1) (by omega)
    have ht := h2 hb
    unfold isT at *
    rw [hh.1, hh.2]
    exact ht
theorem PT_put {ks : List Bool} {v : Nat → Int32} {m : Nat → Bool} {i : Nat} {b : Bool} (x : Int32) (y : Bool) (h : PT ks v m i) (hb : b = true → y = false ∧ (x = nI 0 ∨ x = nI 1 ∨ x = nI 2)) : PT (b :: ks) (up1 v i x) (up1 m i y) (i + 1) := by
  refine ⟨by omega, fun e => ?_, ?_⟩
  · have := hb e
    unfold isT
    rw [Nat.add_sub_cancel, up1_s, up1_s]
    exact this
  · rw [Nat.add_sub_cancel]
    exact PT_cg (fun q hq => ⟨up1_n (by omega), up1_n (by omega)⟩) h
theorem calV_put {v : Nat → Int32} {m : Nat → Bool} {i : Nat} {o l r : Int32} {z : Bool} (h : (calV v m i o l r z).1 = nI 0) : ∃ x y, calV v m i o l r z = (nI 0, up1 v i x, up1 m i y, i + 1) := by
  have h1 : ¬ ((-1004 : Int32) = nI 0) := by decide
  have h2 : ¬ ((-1005 : Int32) = nI 0) := by decide
  unfold calV at *
  split
  · exact ⟨_, _, rfl⟩
  · rename_i c1
    rw [if_neg c1] at h
    split
    · rename_i c2
      rw [if_pos c2] at h
      exact absurd h h1
    · rename_i c2
      rw [if_neg c2] at h
      split
      · exact ⟨_, _, rfl⟩
      · rename_i c3
        rw [if_neg c3] at h
        exact absurd h h2
theorem cmpV_3 (o l r : Int32) (z : Bool) : cmpV o l r z = nI 0 ∨ cmpV o l r z = nI 1 ∨ cmpV o l r z = nI 2 := by
  unfold cmpV
  (repeat' split) <;> simp
/-- the kinds of the pile behind a word -/
theorem ev1_PT {ld : Nat → Nat → Int32 × Bool} {d : DB} {tc : Nat} {tj : Nat → Nat} {w : Int32 × Int32} {o : Nat} {v : Nat → Int32} {m : Nat → Bool} {t : Nat} {ks ks' : List Bool} (hw : EW d tc tj w o) (hk : kw1 w.1 ks = some ks') (hp : PT ks v m t) (h : (ev1 ld w v m t).1 = nI 0) : PT ks' (ev1 ld w v m t).2.1 (ev1 ld w v m t).2.2.1 (ev1 ld w v m t).2.2.2 ∧ (18 ≤ o → isT v m (t - 1)) ∧ (19 ≤ o → isT v m (t - 2)) := by
  obtain ⟨w1, y⟩ := w
  obtain ⟨rfl, ho1, ho2, _, _⟩ := hw
  have qe_o_1 : (nI o = nI 1) = (o = 1) := n_eqE (by omega) (by omega)
  have ql_o_1 : (nI o < nI 1) = (o < 1) := n_ltE (by omega) (by omega)
  have qg_o_1 : (nI 1 < nI o) = (1 < o) := n_ltE (by omega) (by omega)
  have qle_o_1 : (nI o ≤ nI 1) = (o ≤ 1) := n_leE (by omega) (by omega)
  have qge_o_1 : (nI 1 ≤ nI o) = (1 ≤ o) := n_leE (by omega) (by omega)
  have qe_o_2 : (nI o = nI 2) = (o = 2) := n_eqE (by omega) (by omega)
  have ql_o_2 : (nI o < nI 2) = (o < 2) := n_ltE (by omega) (by omega)
  have qg_o_2 : (nI 2 < nI o) = (2 < o) := n_ltE (by omega) (by omega)
  have qle_o_2 : (nI o ≤ nI 2) = (o ≤ 2) := n_leE (by omega) (by omega)
  have qge_o_2 : (nI 2 ≤ nI o) = (2 ≤ o) := n_leE (by omega) (by omega)
  have qe_o_3 : (nI o = nI 3) = (o = 3) := n_eqE (by omega) (by omega)
  have ql_o_3 : (nI o < nI 3) = (o < 3) := n_ltE (by omega) (by omega)
  have qg_o_3 : (nI 3 < nI o) = (3 < o) := n_ltE (by omega) (by omega)
  have qle_o_3 : (nI o ≤ nI 3) = (o ≤ 3) := n_leE (by omega) (by omega)
  have qge_o_3 : (nI 3 ≤ nI o) = (3 ≤ o) := n_leE (by omega) (by omega)
  have qe_o_4 : (nI o = nI 4) = (o = 4) := n_eqE (by omega) (by omega)
  have ql_o_4 : (nI o < nI 4) = (o < 4) := n_ltE (by omega) (by omega)
  have qg_o_4 : (nI 4 < nI o) = (4 < o) := n_ltE (by omega) (by omega)
  have qle_o_4 : (nI o ≤ nI 4) = (o ≤ 4) := n_leE (by omega) (by omega)
  have qge_o_4 : (nI 4 ≤ nI o) = (4 ≤ o) := n_leE (by omega) (by omega)
  have qe_o_5 : (nI o = nI 5) = (o = 5) := n_eqE (by omega) (by omega)
  have ql_o_5 : (nI o < nI 5) = (o < 5) := n_ltE (by omega) (by omega)
  have qg_o_5 : (nI 5 < nI o) = (5 < o) := n_ltE (by omega) (by omega)
  have qle_o_5 : (nI o ≤ nI 5) = (o ≤ 5) := n_leE (by omega) (by omega)
  have qge_o_5 : (nI 5 ≤ nI o) = (5 ≤ o) := n_leE (by omega) (by omega)
  have qe_o_6 : (nI o = nI 6) = (o = 6) := n_eqE (by omega) (by omega)
  have ql_o_6 : (nI o < nI 6) = (o < 6) := n_ltE (by omega) (by omega)
  have qg_o_6 : (nI 6 < nI o) = (6 < o) := n_ltE (by omega) (by omega)
  have qle_o_6 : (nI o ≤ nI 6) = (o ≤ 6) := n_leE (by omega) (by omega)
  have qge_o_6 : (nI 6 ≤ nI o) = (6 ≤ o) := n_leE (by omega) (by omega)
  have qe_o_10 : (nI o = nI 10) = (o = 10) := n_eqE (by omega) (by omega)
  have ql_o_10 : (nI o < nI 10) = (o < 10) := n_ltE (by omega) (by omega)
  have qg_o_10 : (nI 10 < nI o) = (10 < o) := n_ltE (by omega) (by omega)
  have qle_o_10 : (nI o ≤ nI 10) = (o ≤ 10) := n_leE (by omega) (by omega)
  have qge_o_10 : (nI 10 ≤ nI o) = (10 ≤ o) := n_leE (by omega) (by omega)
  have qe_o_16 : (nI o = nI 16) = (o = 16) := n_eqE (by omega) (by omega)
  have ql_o_16 : (nI o < nI 16) = (o < 16) := n_ltE (by omega) (by omega)
  have qg_o_16 : (nI 16 < nI o) = (16 < o) := n_ltE (by omega) (by omega)
  have qle_o_16 : (nI o ≤ nI 16) = (o ≤ 16) := n_leE (by omega) (by omega)
  have qge_o_16 : (nI 16 ≤ nI o) = (16 ≤ o) := n_leE (by omega) (by omega)
  have qe_o_17 : (nI o = nI 17) = (o = 17) := n_eqE (by omega) (by omega)
  have ql_o_17 : (nI o < nI 17) = (o < 17) := n_ltE (by omega) (by omega)
  have qg_o_17 : (nI 17 < nI o) = (17 < o) := n_ltE (by omega) (by omega)
  have qle_o_17 : (nI o ≤ nI 17) = (o ≤ 17) := n_leE (by omega) (by omega)
  have qge_o_17 : (nI 17 ≤ nI o) = (17 ≤ o) := n_leE (by omega) (by omega)
  have qe_o_18 : (nI o = nI 18) = (o = 18) := n_eqE (by omega) (by omega)
  have ql_o_18 : (nI o < nI 18) = (o < 18) := n_ltE (by omega) (by omega)
  have qg_o_18 : (nI 18 < nI o) = (18 < o) := n_ltE (by omega) (by omega)
  have qle_o_18 : (nI o ≤ nI 18) = (o ≤ 18) := n_leE (by omega) (by omega)
  have qge_o_18 : (nI 18 ≤ nI o) = (18 ≤ o) := n_leE (by omega) (by omega)
  have qe_o_19 : (nI o = nI 19) = (o = 19) := n_eqE (by omega) (by omega)
  have ql_o_19 : (nI o < nI 19) = (o < 19) := n_ltE (by omega) (by omega)
  have qg_o_19 : (nI 19 < nI o) = (19 < o) := n_ltE (by omega) (by omega)
  have qle_o_19 : (nI o ≤ nI 19) = (o ≤ 19) := n_leE (by omega) (by omega)
  have qge_o_19 : (nI 19 ≤ nI o) = (19 ≤ o) := n_leE (by omega) (by omega)
  have qe_o_50 : (nI o = nI 50) = (o = 50) := n_eqE (by omega) (by omega)
  have ql_o_50 : (nI o < nI 50) = (o < 50) := n_ltE (by omega) (by omega)
  have qg_o_50 : (nI 50 < nI o) = (50 < o) := n_ltE (by omega) (by omega)
  have qle_o_50 : (nI o ≤ nI 50) = (o ≤ 50) := n_leE (by omega) (by omega)
  have qge_o_50 : (nI 50 ≤ nI o) = (50 ≤ o) := n_leE (by omega) (by omega)
  simp only [kw1, qe_o_1, qe_o_2, qe_o_3, qe_o_4, qe_o_5, qe_o_50, qe_o_6, qe_o_17, qe_o_18, qle_o_10, qle_o_16] at hk
  simp only [ev1, qe_o_1, qe_o_2, qe_o_3, qe_o_4, qe_o_5, qe_o_6, qle_o_10, qle_o_16, qe_o_17, qe_o_18, qe_o_19] at h ⊢
  by_cases c5 : o ≤ 5
  · have c5' : o = 1 ∨ o = 2 ∨ o = 3 ∨ o = 4 ∨ o = 5 ∨ o = 50 := by omega
    rw [if_pos c5'] at hk
    simp only [Option.some.injEq] at hk
    subst hk
    refine ⟨?_, fun z => by omega, fun z => by omega⟩
    have : o = 1 ∨ o = 2 ∨ o = 3 ∨ o = 4 ∨ o = 5 := by omega
    rcases this with rfl | rfl | rfl | rfl | rfl
    all_goals simp only [Nat.reduceEqDiff, reduceIte]
    all_goals exact PT_put _ _ hp (fun e => absurd e (by decide))
  have c5' : ¬ (o = 1 ∨ o = 2 ∨ o = 3 ∨ o = 4 ∨ o = 5 ∨ o = 50) := by omega
  rw [if_neg c5'] at hk
  have n1 : ¬ o = 1 := by omega
  have n2 : ¬ o = 2 := by omega
  have n3 : ¬ o = 3 := by omega
  have n4 : ¬ o = 4 := by omega
  have n5 : ¬ o = 5 := by omega
  simp only [n1, n2, n3, n4, n5, reduceIte] at h ⊢
  cases ks with
  | nil => exact absurd hk (by simp)
  | cons b ks1 =>
    obtain ⟨p1, p2, p3⟩ := hp
    simp only at hk
    by_cases c6 : o = 6
    · simp only [c6, reduceIte, Option.some.injEq] at hk h ⊢
      subst hk
      obtain ⟨x, y', e⟩ := calV_put h
      rw [e]
      exact ⟨PT_put _ _ p3 (fun e => absurd e (by decide)), fun z => by omega, fun z => by omega⟩
    rw [if_neg c6] at hk
    simp only [c6, reduceIte] at h ⊢
    by_cases c17 : o = 17
    · rw [if_pos c17] at hk
      simp only [Option.some.injEq] at hk
      subst hk
      have a1 : ¬ o ≤ 10 := by omega
      have a2 : ¬ o ≤ 16 := by omega
      simp only [a1, a2, c17, reduceIte]
      refine ⟨PT_put _ _ p3 (fun _ => ⟨rfl, ?_⟩), fun z => by omega, fun z => by omega⟩
      split <;> simp
    rw [if_neg c17] at hk
    by_cases c18 : o = 18
    · rw [if_pos c18] at hk
      have a1 : ¬ o ≤ 10 := by omega
      have a2 : ¬ o ≤ 16 := by omega
      simp only [a1, a2, c17, c18, reduceIte]
      by_cases hb : b = true
      · rw [if_pos hb] at hk
        simp only [Option.some.injEq] at hk
        subst hk
        have hT := p2 hb
        refine ⟨PT_put _ _ p3 (fun _ => ⟨rfl, ?_⟩), fun _ => hT, fun z => by omega⟩
        rcases hT.2 with e | e | e <;> rw [e]
        · exact Or.inr (Or.inr (by decide))
        · exact Or.inr (Or.inl (by decide))
        · exact Or.inl (by decide)
      · rw [if_neg hb] at hk
        exact absurd hk (by simp)
    rw [if_neg c18] at hk
    cases ks1 with
    | nil => exact absurd hk (by simp)
    | cons a ks2 =>
      obtain ⟨r1, r2, r3⟩ := p3
      rw [show t - 1 - 1 = t - 2 by omega] at r2 r3
      simp only at hk
      by_cases c10 : o ≤ 10
      · simp only [c10, reduceIte, Option.some.injEq] at hk h ⊢
        subst hk
        obtain ⟨x, y', e⟩ := calV_put h
        rw [e]
        exact ⟨PT_put _ _ r3 (fun e => absurd e (by decide)), fun z => by omega, fun z => by omega⟩
      rw [if_neg c10] at hk
      simp only [c10, reduceIte]
      by_cases c16 : o ≤ 16
      · rw [if_pos c16] at hk
        simp only [Option.some.injEq] at hk
        subst hk
        simp only [c16, reduceIte]
        exact ⟨PT_put _ _ r3 (fun _ => ⟨rfl, cmpV_3 ..⟩), fun z => by omega, fun z => by omega⟩
      rw [if_neg c16] at hk
      simp only [c16, c17, c18, reduceIte]
      by_cases hab : a = true ∧ b = true
      · rw [if_pos hab] at hk
        simp only [Option.some.injEq] at hk
        subst hk
        have hA := r2 hab.1
        have hB := p2 hab.2
        have eB : t - 2 + 1 = t - 1 := by omega
        have hB2 : v (t - 2 + 1) = nI 0 ∨ v (t - 2 + 1) = nI 1 ∨ v (t - 2 + 1) = nI 2 := by rw [eB]; exact hB.2
        refine ⟨?_, fun _ => hB, fun _ => hA⟩
        split
        · refine PT_put _ _ r3 (fun _ => ⟨rfl, ?_⟩)
          split
          · exact hB2
          · exact hA.2
        · refine PT_put _ _ r3 (fun _ => ⟨rfl, ?_⟩)
          split
          · exact hB2
          · exact hA.2
      · rw [if_neg hab] at hk
        exact absurd hk (by simp)
/-- for the operands alone -/
theorem kw1_T {d : DB} {tc : Nat} {tj : Nat → Nat} {w : Int32 × Int32} {o : Nat} {v : Nat → Int32} {m : Nat → Bool} {t : Nat} {ks ks' : List Bool} (hw : EW d tc tj w o) (hk : kw1 w.1 ks = some ks') (hp : PT ks v m t) : (18 ≤ o → isT v m (t - 1)) ∧ (19 ≤ o → isT v m (t - 2)) := by
  by_cases h18 : 18 ≤ o
  · have h0 : (ev1 (fun _ _ => (nI 0, false)) w v m t).1 = nI 0 := by
      obtain ⟨w1, y⟩ := w
      obtain ⟨rfl, ho1, ho2, _, _⟩ := hw
      have qe_o_1 : (nI o = nI 1) = (o = 1) := n_eqE (by omega) (by omega)
      have ql_o_1 : (nI o < nI 1) = (o < 1) := n_ltE (by omega) (by omega)
      have qg_o_1 : (nI 1 < nI o) = (1 < o) := n_ltE (by omega) (by omega)
      have qle_o_1 : (nI o ≤ nI 1) = (o ≤ 1) := n_leE (by omega) (by omega)
      have qge_o_1 : (nI 1 ≤ nI o) = (1 ≤ o) := n_leE (by omega) (by omega)
      have qe_o_2 : (nI o = nI 2) = (o = 2) := n_eqE (by omega) (by omega)
      have ql_o_2 : (nI o < nI 2) = (o < 2) := n_ltE (by omega) (by omega)
      have qg_o_2 : (nI 2 < nI o) = (2 < o) := n_ltE (by omega) (by omega)
      have qle_o_2 : (nI o ≤ nI 2) = (o ≤ 2) := n_leE (by omega) (by omega)
      have qge_o_2 : (nI 2 ≤ nI o) = (2 ≤ o) := n_leE (by omega) (by omega)
      have qe_o_3 : (nI o = nI 3) = (o = 3) := n_eqE (by omega) (by omega)
      have ql_o_3 : (nI o < nI 3) = (o < 3) := n_ltE (by omega) (by omega)
      have qg_o_3 : (nI 3 < nI o) = (3 < o) := n_ltE (by omega) (by omega)
      have qle_o_3 : (nI o ≤ nI 3) = (o ≤ 3) := n_leE (by omega) (by omega)
      have qge_o_3 : (nI 3 ≤ nI o) = (3 ≤ o) := n_leE (by omega) (by omega)
      have qe_o_4 : (nI o = nI 4) = (o = 4) := n_eqE (by omega) (by omega)
      have ql_o_4 : (nI o < nI 4) = (o < 4) := n_ltE (by omega) (by omega)
      have qg_o_4 : (nI 4 < nI o) = (4 < o) := n_ltE (by omega) (by omega)
      have qle_o_4 : (nI o ≤ nI 4) = (o ≤ 4) := n_leE (by omega) (by omega)
      have qge_o_4 : (nI 4 ≤ nI o) = (4 ≤ o) := n_leE (by omega) (by omega)
      have qe_o_5 : (nI o = nI 5) = (o = 5) := n_eqE (by omega) (by omega)
      have ql_o_5 : (nI o < nI 5) = (o < 5) := n_ltE (by omega) (by omega)
      have qg_o_5 : (nI 5 < nI o) = (5 < o) := n_ltE (by omega) (by omega)
      have qle_o_5 : (nI o ≤ nI 5) = (o ≤ 5) := n_leE (by omega) (by omega)
      have qge_o_5 : (nI 5 ≤ nI o) = (5 ≤ o) := n_leE (by omega) (by omega)
      have qe_o_6 : (nI o = nI 6) = (o = 6) := n_eqE (by omega) (by omega)
      have ql_o_6 : (nI o < nI 6) = (o < 6) := n_ltE (by omega) (by omega)
      have qg_o_6 : (nI 6 < nI o) = (6 < o) := n_ltE (by omega) (by omega)
      have qle_o_6 : (nI o ≤ nI 6) = (o ≤ 6) := n_leE (by omega) (by omega)
      have qge_o_6 : (nI 6 ≤ nI o) = (6 ≤ o) := n_leE (by omega) (by omega)
      have qe_o_10 : (nI o = nI 10) = (o = 10) := n_eqE (by omega) (by omega)
      have ql_o_10 : (nI o < nI 10) = (o < 10) := n_ltE (by omega) (by omega)
      have qg_o_10 : (nI 10 < nI o) = (10 < o) := n_ltE (by omega) (by omega)
      have qle_o_10 : (nI o ≤ nI 10) = (o ≤ 10) := n_leE (by omega) (by omega)
      have qge_o_10 : (nI 10 ≤ nI o) = (10 ≤ o) := n_leE (by omega) (by omega)
      have qe_o_16 : (nI o = nI 16) = (o = 16) := n_eqE (by omega) (by omega)
      have ql_o_16 : (nI o < nI 16) = (o < 16) := n_ltE (by omega) (by omega)
      have qg_o_16 : (nI 16 < nI o) = (16 < o) := n_ltE (by omega) (by omega)
      have qle_o_16 : (nI o ≤ nI 16) = (o ≤ 16) := n_leE (by omega) (by omega)
      have qge_o_16 : (nI 16 ≤ nI o) = (16 ≤ o) := n_leE (by omega) (by omega)
      have qe_o_17 : (nI o = nI 17) = (o = 17) := n_eqE (by omega) (by omega)
      have ql_o_17 : (nI o < nI 17) = (o < 17) := n_ltE (by omega) (by omega)
      have qg_o_17 : (nI 17 < nI o) = (17 < o) := n_ltE (by omega) (by omega)
      have qle_o_17 : (nI o ≤ nI 17) = (o ≤ 17) := n_leE (by omega) (by omega)
      have qge_o_17 : (nI 17 ≤ nI o) = (17 ≤ o) := n_leE (by omega) (by omega)
      have qe_o_18 : (nI o = nI 18) = (o = 18) := n_eqE (by omega) (by omega)
      have ql_o_18 : (nI o < nI 18) = (o < 18) := n_ltE (by omega) (by omega)
      have qg_o_18 : (nI 18 < nI o) = (18 < o) := n_ltE (by omega) (by omega)
      have qle_o_18 : (nI o ≤ nI 18) = (o ≤ 18) := n_leE (by omega) (by omega)
      have qge_o_18 : (nI 18 ≤ nI o) = (18 ≤ o) := n_leE (by omega) (by omega)
      have qe_o_19 : (nI o = nI 19) = (o = 19) := n_eqE (by omega) (by omega)
      have ql_o_19 : (nI o < nI 19) = (o < 19) := n_ltE (by omega) (by omega)
      have qg_o_19 : (nI 19 < nI o) = (19 < o) := n_ltE (by omega) (by omega)
      have qle_o_19 : (nI o ≤ nI 19) = (o ≤ 19) := n_leE (by omega) (by omega)
      have qge_o_19 : (nI 19 ≤ nI o) = (19 ≤ o) := n_leE (by omega) (by omega)
      have n1 : ¬ o = 1 := by omega
      have n2 : ¬ o = 2 := by omega
      have n3 : ¬ o = 3 := by omega
      have n4 : ¬ o = 4 := by omega
      have n5 : ¬ o = 5 := by omega
      have n6 : ¬ o = 6 := by omega
      have n7 : ¬ o ≤ 10 := by omega
      have n8 : ¬ o ≤ 16 := by omega
      have n9 : ¬ o = 17 := by omega
      simp only [ev1, qe_o_1, qe_o_2, qe_o_3, qe_o_4, qe_o_5, qe_o_6, qle_o_10, qle_o_16, qe_o_17, qe_o_18, qe_o_19, n1, n2, n3, n4, n5, n6, n7, n8, n9, reduceIte]
      (repeat' split) <;> rfl
    exact (ev1_PT hw hk hp h0).2
  · exact ⟨fun z => absurd z h18, fun z => by omega⟩
theorem evs_PT {ld : Nat → Nat → Int32 × Bool} {d : DB} {tc : Nat} {tj : Nat → Nat} : ∀ {ws : List (Int32 × Int32)} {ks ks' : List Bool} {v : Nat → Int32} {m : Nat → Bool} {t : Nat}, EH d tc tj ws t → kws ws ks = some ks' → PT ks v m t → (evs ld ws v m t).1 = nI 0 → PT ks' (evs ld ws v m t).2.1 (evs ld ws v m t).2.2.1 (evs ld ws v m t).2.2.2 := by
  intro ws
  induction ws with
  | nil =>
    intro ks ks' v m t he hk hp h
    simp only [kws, Option.some.injEq] at hk
    subst hk
    exact hp
  | cons w ws ih =>
    intro ks ks' v m t he hk hp h
    obtain ⟨o, hw, ha, ht2, he2⟩ := he
    rw [kws] at hk
    cases hk1 : kw1 w.1 ks with
    | none => rw [hk1] at hk; exact absurd hk (by simp)
    | some ks1 =>
      rw [hk1] at hk
      simp only at hk
      have hPT := fun z => (ev1_PT (ld := ld) (v := v) (m := m) (t := t) hw hk1 hp z).1
      have hT := ev1_t (ld := ld) (v := v) (m := m) hw ha
      rcases hq : ev1 ld w v m t with ⟨f, v', m', t'⟩
      rw [hq] at hPT hT
      simp only at hPT hT
      by_cases hf : f = nI 0
      · rw [evs_ok hq hf] at h ⊢
        exact ih (by rw [hT hf]; exact he2) hk (hPT hf) h
      · rw [evs_f hq hf] at h
        exact absurd h hf
def limL (S : ST) (x : Int32) : Int64 := lN 400 * x.toInt64 * (gl S 2 16 0 + lN 1)
theorem run_words (h : Nat) (x : Int32) (S : ST) (d : DB) (tc : Nat) (tj rw : Nat → Nat) (Q : Option AV → ST → Prop) (P post : List (Int32 × Int32)) (hP : PrC S P) (hr : gz S 2 13 0 = true) (hE : EnvC S d tc tj rw) : ∀ (ws pre : List (Int32 × Int32)) (ks : List Bool) (v : Nat → Int32) (m : Nat → Bool) (t n : Nat), (∃ ks', kws ws ks = some ks') → PT ks v m t → P = pre ++ ws ++ post → EH d tc tj ws t → t ≤ 10 → n + ws.length < 1000000 → ((evs (ldE d tj rw) ws v m t).1 = nI 0 → RUN h x (n + ws.length) (mp (rg S (pre.length + ws.length) (n + ws.length)) (evs (ldE d tj rw) ws v m t).2.1 (evs (ldE d tj rw) ws v m t).2.2.1 (evs (ldE d tj rw) ws v m t).2.2.2) Q) → (¬ (evs (ldE d tj rw) ws v m t).1 = nI 0 → ∀ (a' n' : Nat) (v' : Nat → Int32) (m' : Nat → Bool) (t' : Nat), n' ≤ n + ws.length → Q (some (vI (evs (ldE d tj rw) ws v m t).1)) (sl (flS (mp (rg S a' n') v' m' t') (evs (ldE d tj rw) ws v m t).1) 2 17 0 (limL S x))) → RUN h x n (mp (rg S pre.length n) v m t) Q := by
  intro ws
  induction ws with
  | nil =>
    intro pre ks v m t n hks hpt hp he ht hn h1 h2
    exact h1 rfl
  | cons w ws ih =>
    intro pre ks v m t n hks hpt hp he ht hn h1 h2
    obtain ⟨o, hw, ha, ht2, he2⟩ := he
    obtain ⟨ks', hks⟩ := hks
    rw [kws] at hks
    cases hk1 : kw1 w.1 ks with
    | none => rw [hk1] at hks; exact absurd hks (by simp)
    | some ks1 =>
    rw [hk1] at hks
    simp only at hks
    have hTT := kw1_T (v := v) (m := m) (t := t) hw hk1 hpt
    have hPT := fun z => (ev1_PT (ld := ldE d tj rw) (v := v) (m := m) (t := t) hw hk1 hpt z).1
    have hs := c_stepE h (rg S (pre.length + 1) (n + 1)) d tc tj rw v m t w o (EnvC_rg hE _ _) hw ha ht ht2 hTT.1 hTT.2
    have hT := ev1_t (ld := ldE d tj rw) (v := v) (m := m) hw ha
    simp only [List.length_cons] at hn h1 h2
    rcases hk : ev1 (ldE d tj rw) w v m t with ⟨f, v', m', t'⟩
    rw [hk] at hs hT hPT
    simp only at hT hPT
    refine run_step h x n (mp (rg S pre.length n) v m t) _ Q P pre.length w (PrC_mp hP _ _ _ _ _) (by rw [mp_gz2, rg_gz2]; exact hr) (by rw [mp_i _ _ _ _ _ (by decide), rg_a]) (by rw [mp_gl2, rg_n]) (by rw [hp]; simp) (by omega) (by rw [rg_mp]; exact hs) ?_
    by_cases hf : f = nI 0
    · rw [evs_ok hk hf] at h1 h2
      rw [evS, if_pos (by exact hf)]
      have := ih (pre ++ [w]) ks1 v' m' t' (n + 1) ⟨ks', hks⟩ (hPT hf) (by rw [hp]; simp) (by rw [hT hf]; exact he2) (by rw [hT hf]; exact ht2) (by omega) (by
        intro z
        have := h1 z
        rw [List.length_append, List.length_cons, List.length_nil, show pre.length + (0 + 1) + ws.length = pre.length + (ws.length + 1) by omega, show n + 1 + ws.length = n + (ws.length + 1) by omega]
        exact this) (by
        intro z a' n' v'' m'' t'' hle
        exact h2 z a' n' v'' m'' t'' (by omega))
      rw [List.length_append] at this
      exact this
    · rw [evs_f hk hf] at h2
      rw [evS, if_neg (by exact hf)]
      refine run_exit h x (n + 1) _ Q (by simp only [flS, gi_si, gi_sl, gi_sz, gi_sr, gi_sa, gi_sb, gi_sy, gl_si, gl_sl, gl_sz, gl_sr, gl_sa, gl_sb, gl_sy, gz_si, gz_sl, gz_sz, gz_sr, gz_sa, gz_sb, gz_sy, gr_si, gr_sl, gr_sz, gr_sr, gr_sa, gr_sb, gr_sy, ga_si, ga_sl, ga_sz, ga_sr, ga_sa, ga_sb, ga_sy, gb_si, gb_sl, gb_sz, gb_sr, gb_sa, gb_sb, gb_sy, gy_si, gy_sl, gy_sz, gy_sr, gy_sa, gy_sb, gy_sy, reduceIte, Nat.reduceEqDiff, and_true, true_and, and_self, false_and, and_false]) (by omega) ?_
      have := h2 hf (pre.length + 1) (n + 1) v' m' t' (by omega)
      have e1 : gi (flS (mp (rg S (pre.length + 1) (n + 1)) v' m' t') f) 2 12 0 = f := by simp only [flS, gi_si, gi_sl, gi_sz, gi_sr, gi_sa, gi_sb, gi_sy, gl_si, gl_sl, gl_sz, gl_sr, gl_sa, gl_sb, gl_sy, gz_si, gz_sl, gz_sz, gz_sr, gz_sa, gz_sb, gz_sy, gr_si, gr_sl, gr_sz, gr_sr, gr_sa, gr_sb, gr_sy, ga_si, ga_sl, ga_sz, ga_sr, ga_sa, ga_sb, ga_sy, gb_si, gb_sl, gb_sz, gb_sr, gb_sa, gb_sb, gb_sy, gy_si, gy_sl, gy_sz, gy_sr, gy_sa, gy_sb, gy_sy, reduceIte, Nat.reduceEqDiff, and_true, true_and, and_self, false_and, and_false]
      have e2 : gl (flS (mp (rg S (pre.length + 1) (n + 1)) v' m' t') f) 2 16 0 = gl S 2 16 0 := by simp only [flS, mp, rg, gi_si, gi_sl, gi_sz, gi_sr, gi_sa, gi_sb, gi_sy, gl_si, gl_sl, gl_sz, gl_sr, gl_sa, gl_sb, gl_sy, gz_si, gz_sl, gz_sz, gz_sr, gz_sa, gz_sb, gz_sy, gr_si, gr_sl, gr_sz, gr_sr, gr_sa, gr_sb, gr_sy, ga_si, ga_sl, ga_sz, ga_sr, ga_sa, ga_sb, ga_sy, gb_si, gb_sl, gb_sz, gb_sr, gb_sa, gb_sb, gb_sy, gy_si, gy_sl, gy_sz, gy_sr, gy_sa, gy_sb, gy_sy, reduceIte, Nat.reduceEqDiff, and_true, true_and, and_self, false_and, and_false]
      simp only [e1, e2]
      exact this
