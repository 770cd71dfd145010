-- deps: 262
-- trees have their heights; checked words may be done
theorem WH_X {T : WL} (hT : T.length ≤ 200) : ∀ (f : Nat) (x : WL), XW T f x → ∀ (r : WL) (n : Nat), WH r (n + 1) → WH (x ++ r) n := by
  intro f
  induction f with
  | zero => intro x h; exact h.elim
  | succ f ih =>
    intro x h r n hr
    have a0 : ∀ o, o ≤ 5 ∨ o = 50 → arty o = 0 := fun o ho => by unfold arty; rw [if_pos ho]
    rcases h with ⟨y, rfl⟩ | ⟨y, rfl⟩ | rfl | ⟨p, rfl, hp, -⟩ | ⟨a, ha, rfl⟩ | ⟨a, b, o, ha, hb, ho, rfl⟩
    · exact ⟨1, rfl, Or.inl (by decide), fun z => absurd z (by decide), by rw [a0 1 (by decide)]; omega, by rw [a0 1 (by decide)]; exact hr⟩
    · exact ⟨2, rfl, Or.inl (by decide), fun z => absurd z (by decide), by rw [a0 2 (by decide)]; omega, by rw [a0 2 (by decide)]; exact hr⟩
    · exact ⟨3, rfl, Or.inl (by decide), fun z => absurd z (by decide), by rw [a0 3 (by decide)]; omega, by rw [a0 3 (by decide)]; exact hr⟩
    · have := kd_in hp (by decide)
      exact ⟨50, rfl, Or.inr (Or.inr rfl), fun _ => ⟨p, rfl, by omega⟩, by rw [a0 50 (by decide)]; omega, by rw [a0 50 (by decide)]; exact hr⟩
    · rw [List.append_assoc]
      refine ih a ha _ n ⟨6, rfl, Or.inr (Or.inl (by decide)), fun z => absurd z (by decide), ?_, ?_⟩
      · show 1 ≤ n + 1; omega
      · exact hr
    · rw [List.append_assoc, List.append_assoc]
      refine ih a ha _ n (ih b hb _ (n + 1) ⟨o, rfl, Or.inr (Or.inl (by omega)), fun z => absurd z (by omega), ?_, ?_⟩)
      · have e : arty o = 2 := by unfold arty; rw [if_neg (by omega), if_neg (by omega)]
        omega
      · have e : arty o = 2 := by unfold arty; rw [if_neg (by omega), if_neg (by omega)]
        rw [e]
        exact hr
theorem WH_C {T : WL} (hT : T.length ≤ 200) : ∀ (f : Nat) (x : WL), XC T f x → ∀ (r : WL) (n : Nat), WH r (n + 1) → WH (x ++ r) n := by
  intro f
  induction f with
  | zero => intro x h; exact h.elim
  | succ f ih =>
    intro x h r n hr
    rcases h with ⟨a, ha, rfl⟩ | ⟨a, b, o, ha, hb, ho, rfl⟩ | ⟨a, ha, rfl⟩ | ⟨a, b, o, ha, hb, ho, rfl⟩
    · rw [List.append_assoc]
      refine WH_X hT f a ha _ n ⟨17, rfl, Or.inr (Or.inl (by decide)), fun z => absurd z (by decide), ?_, ?_⟩
      · show 1 ≤ n + 1; omega
      · exact hr
    · rw [List.append_assoc, List.append_assoc]
      have e : arty o = 2 := by unfold arty; rw [if_neg (by omega), if_neg (by omega)]
      refine WH_X hT f a ha _ n (WH_X hT f b hb _ (n + 1) ⟨o, rfl, Or.inr (Or.inl (by omega)), fun z => absurd z (by omega), ?_, ?_⟩)
      · omega
      · rw [e]; exact hr
    · rw [List.append_assoc]
      refine ih a ha _ n ⟨18, rfl, Or.inr (Or.inl (by decide)), fun z => absurd z (by decide), ?_, ?_⟩
      · show 1 ≤ n + 1; omega
      · exact hr
    · rw [List.append_assoc, List.append_assoc]
      have e : arty o = 2 := by unfold arty; rw [if_neg (by omega), if_neg (by omega)]
      refine ih a ha _ n (ih b hb _ (n + 1) ⟨o, rfl, Or.inr (Or.inl (by omega)), fun z => absurd z (by omega), ?_, ?_⟩)
      · omega
      · rw [e]; exact hr
theorem WH_x {T x : WL} (hT : T.length ≤ 200) (h : isX T x) : WH x 0 := by
  obtain ⟨f, h⟩ := h
  have := WH_X hT f x h [] 0 trivial
  rwa [List.append_nil] at this
theorem WH_c {T x : WL} (hT : T.length ≤ 200) (h : isC T x) : WH x 0 := by
  obtain ⟨f, h⟩ := h
  have := WH_C hT f x h [] 0 trivial
  rwa [List.append_nil] at this
theorem ckWs_mm {P : Nat → Option (Nat × Nat)} {ty : Nat → Nat → Int32} : ∀ {ws : WL} {g : Nat → Int32} {n m : Nat}, m ≤ (ckWs P ty ws g n m).2.2.2.2 := by
  intro ws
  induction ws with
  | nil => intro g n m; exact Nat.le_refl _
  | cons w ws ih =>
    intro g n m
    rw [ckWs]
    split
    · exact Nat.le_trans (Nat.le_max_left _ _) ih
    · exact Nat.le_refl _
theorem EH_ck {P : Nat → Option (Nat × Nat)} {ty : Nat → Nat → Int32} {d : DB} {tc : Nat} {tj : Nat → Nat} (hP : ∀ p i c, P p = some (i, c) → i < tc ∧ i < 2 ∧ c < dK d (tj i)) : ∀ {ws : WL} {g : Nat → Int32} {n m : Nat}, WH ws n → (ckWs P ty ws g n m).1 = nI 0 → (ckWs P ty ws g n m).2.2.2.2 ≤ 10 → EH d tc tj (ckWs P ty ws g n m).2.1 n := by
  intro ws
  induction ws with
  | nil => intro g n m hw hf hm; trivial
  | cons w ws ih =>
    intro g n m hw hf hm
    obtain ⟨w1, y⟩ := w
    obtain ⟨o, rfl, ho, h50, ha, hw2⟩ := hw
    rw [ckWs] at hf hm ⊢
    by_cases h1 : (ck1 P ty (nI o, y) g n).1 = nI 0
    · rw [if_pos h1] at hf hm ⊢
      have hn := ck1_n ho h1 ha
      rw [hn] at hf hm
      have hi := ih hw2 hf hm
      rw [hn]
      have hle : n - arty o + 1 ≤ 10 := Nat.le_trans (Nat.le_trans (Nat.le_max_right m _) ckWs_mm) hm
      by_cases q50 : o = 50
      · subst q50
        obtain ⟨p, rfl, hp⟩ := h50 rfl
        have e0 : arty 50 = 0 := rfl
        rw [e0] at hi hle ha
        cases hq : P p with
        | none =>
          have e1 : ck1 P ty (nI 50, nI p) g n = (-1001, (nI 50, nI p), g, n) := by simp [ck1, nI_clamp (show p < 2 ^ 31 by omega), hq]
          rw [e1] at h1
          exact absurd (show (-1001 : Int32) = nI 0 from h1) (by decide)
        | some ic =>
          obtain ⟨i, c⟩ := ic
          have hb := hP p i c hq
          have : i = 0 ∨ i = 1 := by omega
          have e4 : arty (4 + i) = 0 := by unfold arty; rw [if_pos (by omega)]
          have e1 : ck1 P ty (nI 50, nI p) g n = (nI 0, (nI (4 + i), nI c), up1 g n (ty i c), n + 1) := by simp [ck1, nI_clamp (show p < 2 ^ 31 by omega), hq]
          rw [e1] at hi ⊢
          refine ⟨4 + i, ⟨rfl, by omega, by omega, fun z => ?_, fun z => ?_⟩, by omega, by rw [e4]; exact hle, by rw [e4]; exact hi⟩
          · have : i = 0 := by omega
            subst this
            exact ⟨hb.1, c, rfl, hb.2.2⟩
          · have : i = 1 := by omega
            subst this
            exact ⟨hb.1, c, rfl, hb.2.2⟩
      · have e1 : (ck1 P ty (nI o, y) g n).2.1 = (nI o, y) := by
          unfold ck1
          have : ¬ nI o = nI 50 := by rw [n_eqE (by rcases ho with h | h | h <;> omega) (by decide)]; exact q50
          simp only [this, reduceIte]
          (repeat' split) <;> rfl
        rw [e1]
        exact ⟨o, ⟨rfl, by rcases ho with h | h | h <;> omega, by rcases ho with h | h | h <;> omega, fun z => by rcases ho with h | h | h <;> omega, fun z => by rcases ho with h | h | h <;> omega⟩, ha, hle, hi⟩
    · rw [if_neg h1] at hf
      exact absurd hf h1
theorem WA_EH {d : DB} {tc : Nat} {tj : Nat → Nat} : ∀ {ws : WL} {n : Nat}, EH d tc tj ws n → WA ws n := by
  intro ws
  induction ws with
  | nil => intro n h; trivial
  | cons w ws ih =>
    intro n h
    obtain ⟨o, hw, ha, ht, hE⟩ := h
    exact ⟨o, hw.1, hw.2.1, hw.2.2.1, ha, ih hE⟩
