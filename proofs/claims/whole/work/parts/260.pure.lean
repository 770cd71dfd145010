-- deps: 232
-- the parser adds words behind what is there: trees, as words behind their operands
/-- words of an expression -/
def XW (T : WL) : Nat → WL → Prop
  | 0, _ => False
  | f + 1, x => (∃ y, x = [(nI 1, y)]) ∨ (∃ y, x = [(nI 2, y)]) ∨ x = [(nI 3, nI 0)] ∨ (∃ p, x = [(nI 50, nI p)] ∧ kd T p = nI 2 ∧ (kd T (p + 1) = nI 46 → kd T (p + 2) = nI 2)) ∨ (∃ a, XW T f a ∧ x = a ++ [(nI 6, nI 0)]) ∨ (∃ a b o, XW T f a ∧ XW T f b ∧ (7 ≤ o ∧ o ≤ 10) ∧ x = a ++ b ++ [(nI o, nI 0)])
/-- words of a condition -/
def XC (T : WL) : Nat → WL → Prop
  | 0, _ => False
  | f + 1, x => (∃ a, XW T f a ∧ x = a ++ [(nI 17, nI 0)]) ∨ (∃ a b o, XW T f a ∧ XW T f b ∧ (11 ≤ o ∧ o ≤ 16) ∧ x = a ++ b ++ [(nI o, nI 0)]) ∨ (∃ a, XC T f a ∧ x = a ++ [(nI 18, nI 0)]) ∨ (∃ a b o, XC T f a ∧ XC T f b ∧ (19 ≤ o ∧ o ≤ 20) ∧ x = a ++ b ++ [(nI o, nI 0)])
theorem XW_up {T : WL} : ∀ {f : Nat} {x : WL}, XW T f x → XW T (f + 1) x := by
  intro f
  induction f with
  | zero => intro x h; exact h.elim
  | succ f ih =>
    intro x h
    rcases h with h | h | h | h | ⟨a, ha, e⟩ | ⟨a, b, o, ha, hb, ho, e⟩
    · exact Or.inl h
    · exact Or.inr (Or.inl h)
    · exact Or.inr (Or.inr (Or.inl h))
    · exact Or.inr (Or.inr (Or.inr (Or.inl h)))
    · exact Or.inr (Or.inr (Or.inr (Or.inr (Or.inl ⟨a, ih ha, e⟩))))
    · exact Or.inr (Or.inr (Or.inr (Or.inr (Or.inr ⟨a, b, o, ih ha, ih hb, ho, e⟩))))
theorem XW_mono {T : WL} {f g : Nat} {x : WL} (h : XW T f x) (hg : f ≤ g) : XW T g x := by
  induction hg with
  | refl => exact h
  | step _ ih => exact XW_up ih
theorem XC_up {T : WL} : ∀ {f : Nat} {x : WL}, XC T f x → XC T (f + 1) x := by
  intro f
  induction f with
  | zero => intro x h; exact h.elim
  | succ f ih =>
    intro x h
    rcases h with ⟨a, ha, e⟩ | ⟨a, b, o, ha, hb, ho, e⟩ | ⟨a, ha, e⟩ | ⟨a, b, o, ha, hb, ho, e⟩
    · exact Or.inl ⟨a, XW_up ha, e⟩
    · exact Or.inr (Or.inl ⟨a, b, o, XW_up ha, XW_up hb, ho, e⟩)
    · exact Or.inr (Or.inr (Or.inl ⟨a, ih ha, e⟩))
    · exact Or.inr (Or.inr (Or.inr ⟨a, b, o, ih ha, ih hb, ho, e⟩))
theorem XC_mono {T : WL} {f g : Nat} {x : WL} (h : XC T f x) (hg : f ≤ g) : XC T g x := by
  induction hg with
  | refl => exact h
  | step _ ih => exact XC_up ih
def isX (T x : WL) : Prop := ∃ f, XW T f x
def isC (T x : WL) : Prop := ∃ f, XC T f x
section
variable {T a b : WL}
theorem isX_neg (h : isX T a) : isX T (a ++ [(nI 6, nI 0)]) := by
  obtain ⟨f, h⟩ := h
  exact ⟨f + 1, Or.inr (Or.inr (Or.inr (Or.inr (Or.inl ⟨a, h, rfl⟩))))⟩
theorem isX_bin {o : Nat} (h : isX T a) (h2 : isX T b) (h7 : 7 ≤ o) (h10 : o ≤ 10) : isX T (a ++ b ++ [(nI o, nI 0)]) := by
  obtain ⟨f, h⟩ := h
  obtain ⟨g, h2⟩ := h2
  exact ⟨max f g + 1, Or.inr (Or.inr (Or.inr (Or.inr (Or.inr ⟨a, b, o, XW_mono h (by omega), XW_mono h2 (by omega), ⟨h7, h10⟩, rfl⟩))))⟩
theorem isC_is (h : isX T a) : isC T (a ++ [(nI 17, nI 0)]) := by
  obtain ⟨f, h⟩ := h
  exact ⟨f + 1, Or.inl ⟨a, h, rfl⟩⟩
theorem isC_cmp {o : Nat} (h : isX T a) (h2 : isX T b) (h7 : 11 ≤ o) (h10 : o ≤ 16) : isC T (a ++ b ++ [(nI o, nI 0)]) := by
  obtain ⟨f, h⟩ := h
  obtain ⟨g, h2⟩ := h2
  exact ⟨max f g + 1, Or.inr (Or.inl ⟨a, b, o, XW_mono h (by omega), XW_mono h2 (by omega), ⟨h7, h10⟩, rfl⟩)⟩
theorem isC_not (h : isC T a) : isC T (a ++ [(nI 18, nI 0)]) := by
  obtain ⟨f, h⟩ := h
  exact ⟨f + 1, Or.inr (Or.inr (Or.inl ⟨a, h, rfl⟩))⟩
theorem isC_bin {o : Nat} (h : isC T a) (h2 : isC T b) (h7 : 19 ≤ o) (h10 : o ≤ 20) : isC T (a ++ b ++ [(nI o, nI 0)]) := by
  obtain ⟨f, h⟩ := h
  obtain ⟨g, h2⟩ := h2
  exact ⟨max f g + 1, Or.inr (Or.inr (Or.inr ⟨a, b, o, XC_mono h (by omega), XC_mono h2 (by omega), ⟨h7, h10⟩, rfl⟩))⟩
end
/-- what a reading function does, wherever it begins: well, where it stops, the words it adds -/
def PIat (T : WL) (G : WL → Prop) (F : PF) (a : Nat) (b : Bool) (a' : Nat) (x : WL) : Prop := a ≤ a' ∧ a' ≤ T.length ∧ x.length ≤ (a' - a) + 1 ∧ (b = true → x.length ≤ a' - a ∧ a < a' ∧ G x) ∧ ∀ ws : WL, ws.length + (T.length - a) < 255 → F (a, ws) = (b, (a', ws ++ x))
def PI (T : WL) (G : WL → Prop) (F : PF) : Prop := ∀ a, a ≤ T.length → ∃ (b : Bool) (a' : Nat) (x : WL), PIat T G F a b a' x
theorem kd_in {T : WL} {n k : Nat} (h : kd T n = nI k) (hk : ¬ nI k = nI 0) : n < T.length := by
  rcases Nat.lt_or_ge n T.length with q | q
  · exact q
  · rw [kd_out q] at h; exact absurd h.symm hk
theorem adw_ok {ws : WL} {w : Int32 × Int32} (h : ws.length < 256) : adw ws w = ws ++ [w] := if_pos h
section
variable {T : WL}
theorem PI_Fc (full : Bool) (E F : PF) (hE : full = false → PI T (isX T) E) (hF : full = false → PI T (isX T) F) : PI T (isX T) (pFc T full E F) := by
  intro a ha
  by_cases h0 : full = true ∧ (kd T a = nI 40 ∨ kd T a = nI 45)
  · exact ⟨false, a, [], Nat.le_refl _, ha, by simp, by simp, fun ws hw => by simp [pFc, h0]⟩
  by_cases h1 : kd T a = nI 40
  · have hlt : a < T.length := kd_in h1 (by decide)
    have hfl : full = false := by cases full; rfl; exact absurd ⟨rfl, Or.inl h1⟩ h0
    obtain ⟨b, a', x, g1, g2, g3, g4, g5⟩ := hE hfl (a + 1) (by omega)
    cases b with
    | false =>
      refine ⟨false, a', x, by omega, g2, by omega, by simp, fun ws hw => ?_⟩
      have e := g5 ws (by omega)
      simp [pFc, hfl, h1, e]
    | true =>
      obtain ⟨q1, q2, q3⟩ := g4 rfl
      by_cases hc : kd T a' = nI 41
      · have hlt2 : a' < T.length := kd_in hc (by decide)
        refine ⟨true, a' + 1, x, by omega, by omega, by omega, fun _ => ⟨by omega, by omega, q3⟩, fun ws hw => ?_⟩
        have e := g5 ws (by omega)
        simp [pFc, hfl, h1, e, pTk, hc]
      · refine ⟨false, a', x, by omega, g2, by omega, by simp, fun ws hw => ?_⟩
        have e := g5 ws (by omega)
        simp [pFc, hfl, h1, e, pTk, hc]
  by_cases h2 : kd T a = nI 45
  · have hlt : a < T.length := kd_in h2 (by decide)
    have hfl : full = false := by cases full; rfl; exact absurd ⟨rfl, Or.inr h2⟩ h0
    obtain ⟨b, a', x, g1, g2, g3, g4, g5⟩ := hF hfl (a + 1) (by omega)
    refine ⟨b, a', x ++ [(nI 6, nI 0)], by omega, g2, by simp; omega, fun hb => ?_, fun ws hw => ?_⟩
    · obtain ⟨q1, q2, q3⟩ := g4 hb
      exact ⟨by simp; omega, by omega, isX_neg q3⟩
    · have e := g5 ws (by omega)
      simp only [pFc, hfl, h2, e, reduceIte, Bool.false_eq_true, false_and, show ¬ nI 45 = nI 40 by decide]
      rw [adw_ok (by simp; omega), List.append_assoc]
  have one : ∀ (k : Nat) (w : Int32 × Int32), kd T a = nI k → ¬ nI k = nI 0 → isX T [w] → (∀ ws : WL, ws.length < 256 → pFc T full E F (a, ws) = (true, (a + 1, adw ws w))) → ∃ (b : Bool) (a' : Nat) (x : WL), PIat T (isX T) (pFc T full E F) a b a' x := by
    intro k w hk hn hX he
    have hlt := kd_in hk hn
    refine ⟨true, a + 1, [w], by omega, by omega, by simp, fun _ => ⟨by simp, by omega, hX⟩, fun ws hw => ?_⟩
    rw [he ws (by omega), adw_ok (by omega)]
  by_cases h3 : kd T a = nI 3
  · exact one 3 (nI 1, ct T a) h3 (by decide) ⟨1, Or.inl ⟨_, rfl⟩⟩ (fun ws _ => by
      have n1 : ¬ nI 3 = nI 40 := by decide
      have n2 : ¬ nI 3 = nI 45 := by decide
      simp [pFc, h3, n1, n2])
  by_cases h4 : kd T a = nI 4
  · exact one 4 (nI 2, ct T a) h4 (by decide) ⟨1, Or.inr (Or.inl ⟨_, rfl⟩)⟩ (fun ws _ => by
      have n1 : ¬ nI 4 = nI 40 := by decide
      have n2 : ¬ nI 4 = nI 45 := by decide
      have n3 : ¬ nI 4 = nI 3 := by decide
      simp [pFc, h4, n1, n2, n3])
  by_cases h5 : kd T a = nI 213
  · exact one 213 (nI 3, nI 0) h5 (by decide) ⟨1, Or.inr (Or.inr (Or.inl rfl))⟩ (fun ws _ => by
      have n1 : ¬ nI 213 = nI 40 := by decide
      have n2 : ¬ nI 213 = nI 45 := by decide
      have n3 : ¬ nI 213 = nI 3 := by decide
      have n4 : ¬ nI 213 = nI 4 := by decide
      simp [pFc, h5, n1, n2, n3, n4])
  have e0 : ∀ ws : WL, pFc T full E F (a, ws) = pPl T (a, adw ws (nI 50, nI a)) := by intro ws; simp only [pFc, h1, h2, h3, h4, h5, reduceIte, or_self, and_false]
  by_cases h6 : kd T a = nI 2
  · have hlt : a < T.length := kd_in h6 (by decide)
    by_cases h7 : kd T (a + 1) = nI 46
    · have hlt2 : a + 1 < T.length := kd_in h7 (by decide)
      by_cases h8 : kd T (a + 1 + 1) = nI 2
      · have hlt3 : a + 1 + 1 < T.length := kd_in h8 (by decide)
        refine ⟨true, a + 1 + 1 + 1, [(nI 50, nI a)], by omega, by omega, by simp, fun _ => ⟨by simp; omega, by omega, 1, Or.inr (Or.inr (Or.inr (Or.inl ⟨a, rfl, h6, fun _ => h8⟩)))⟩, fun ws hw => ?_⟩
        rw [e0, adw_ok (by omega)]
        simp [pPl, h6, h7, h8]
      · refine ⟨false, a + 1 + 1, [(nI 50, nI a)], by omega, by omega, by simp, by simp, fun ws hw => ?_⟩
        rw [e0, adw_ok (by omega)]
        simp [pPl, h6, h7, h8]
    · refine ⟨true, a + 1, [(nI 50, nI a)], by omega, by omega, by simp, fun _ => ⟨by simp, by omega, 1, Or.inr (Or.inr (Or.inr (Or.inl ⟨a, rfl, h6, fun z => absurd z h7⟩)))⟩, fun ws hw => ?_⟩
      rw [e0, adw_ok (by omega)]
      simp [pPl, h6, h7]
  · refine ⟨false, a, [(nI 50, nI a)], by omega, by omega, by simp, by simp, fun ws hw => ?_⟩
    rw [e0, adw_ok (by omega)]
    simp [pPl, h6]
theorem PI_Ch (G : WL → Prop) (k1 k2 o1 o2 : Nat) (hk1 : ¬ nI k1 = nI 0) (hk2 : ¬ nI k2 = nI 0) (hG : ∀ a b, G a → G b → G (a ++ b ++ [(nI o1, nI 0)]) ∧ G (a ++ b ++ [(nI o2, nI 0)])) (F : PF) (hF : PI T G F) : ∀ (n a0 a : Nat) (x : WL), a0 < a → a ≤ T.length → x.length ≤ a - a0 → G x → ∃ (b : Bool) (a' : Nat) (y : WL), a ≤ a' ∧ a' ≤ T.length ∧ y.length ≤ (a' - a0) + 1 ∧ (b = true → y.length ≤ a' - a0 ∧ G y) ∧ ∀ ws : WL, ws.length + (T.length - a0) < 255 → pCh T (nI k1) (nI k2) (nI o1) (nI o2) F n (true, (a, ws ++ x)) = (b, (a', ws ++ y)) := by
  intro n
  induction n with
  | zero => intro a0 a x h0 ha hx hg; exact ⟨true, a, x, Nat.le_refl _, ha, by omega, fun _ => ⟨hx, hg⟩, fun ws hw => rfl⟩
  | succ n ih =>
    intro a0 a x h0 ha hx hg
    by_cases hk : kd T a = nI k1 ∨ kd T a = nI k2
    · have hlt : a < T.length := by rcases hk with h | h; exact kd_in h hk1; exact kd_in h hk2
      obtain ⟨b, a', y, g1, g2, g3, g4, g5⟩ := hF (a + 1) (by omega)
      cases b with
      | false =>
        refine ⟨false, a', x ++ y ++ [(if kd T a = nI k1 then nI o1 else nI o2, nI 0)], by omega, g2, by simp; omega, by simp, fun ws hw => ?_⟩
        have e := g5 (ws ++ x) (by simp; omega)
        rw [pCh]
        simp only [hk, and_self, reduceIte, e]
        rw [adw_ok (by simp; omega)]
        have en : ∀ q : PS, pCh T (nI k1) (nI k2) (nI o1) (nI o2) F n (false, q) = (false, q) := by intro q; cases n <;> simp [pCh]
        rw [en]
        simp
      | true =>
        obtain ⟨q1, q2, q3⟩ := g4 rfl
        have hgy : G (x ++ y ++ [(if kd T a = nI k1 then nI o1 else nI o2, nI 0)]) := by
          have := hG x y hg q3
          split
          · exact this.1
          · exact this.2
        obtain ⟨b2, a2, z, r1, r2, r3, r4, r5⟩ := ih a0 a' (x ++ y ++ [(if kd T a = nI k1 then nI o1 else nI o2, nI 0)]) (by omega) g2 (by simp; omega) hgy
        refine ⟨b2, a2, z, by omega, r2, r3, r4, fun ws hw => ?_⟩
        have e := g5 (ws ++ x) (by simp; omega)
        rw [pCh]
        simp only [hk, and_self, reduceIte, e]
        rw [adw_ok (by simp; omega)]
        have := r5 ws hw
        rw [← this]
        simp
    · refine ⟨true, a, x, Nat.le_refl _, ha, by omega, fun _ => ⟨hx, hg⟩, fun ws hw => ?_⟩
      rw [pCh]
      simp only [hk, and_false, reduceIte]
theorem PI_chain (G : WL → Prop) (k1 k2 o1 o2 : Nat) (hk1 : ¬ nI k1 = nI 0) (hk2 : ¬ nI k2 = nI 0) (hG : ∀ a b, G a → G b → G (a ++ b ++ [(nI o1, nI 0)]) ∧ G (a ++ b ++ [(nI o2, nI 0)])) (F : PF) (hF : PI T G F) (n : Nat) : PI T G (fun s => pCh T (nI k1) (nI k2) (nI o1) (nI o2) F n (F s)) := by
  intro a ha
  obtain ⟨b, a', x, g1, g2, g3, g4, g5⟩ := hF a ha
  cases b with
  | false =>
    refine ⟨false, a', x, g1, g2, g3, by simp, fun ws hw => ?_⟩
    have e := g5 ws hw
    simp only [e]
    cases n <;> simp [pCh]
  | true =>
    obtain ⟨q1, q2, q3⟩ := g4 rfl
    obtain ⟨b2, a2, z, r1, r2, r3, r4, r5⟩ := PI_Ch G k1 k2 o1 o2 hk1 hk2 hG F hF n a a' x q2 g2 q1 q3
    refine ⟨b2, a2, z, by omega, r2, r3, fun h => ⟨(r4 h).1, by omega, (r4 h).2⟩, fun ws hw => ?_⟩
    have e := g5 ws hw
    simp only [e]
    exact r5 ws hw
theorem PI_Tm {F : PF} (hF : PI T (isX T) F) : PI T (isX T) (pTm T F) := PI_chain (isX T) 42 47 9 10 (by decide) (by decide) (fun a b ha hb => ⟨isX_bin ha hb (by decide) (by decide), isX_bin ha hb (by decide) (by decide)⟩) F hF 200
theorem PI_Ex {F : PF} (hF : PI T (isX T) F) : PI T (isX T) (pEx T F) := PI_chain (isX T) 43 45 7 8 (by decide) (by decide) (fun a b ha hb => ⟨isX_bin ha hb (by decide) (by decide), isX_bin ha hb (by decide) (by decide)⟩) F hF 200
theorem PI_F : ∀ d, PI T (isX T) (pF T d) := by
  intro d
  induction d with
  | zero => exact PI_Fc true _ _ (by simp) (by simp)
  | succ d ih => exact PI_Fc false _ _ (fun _ => PI_Ex (PI_Tm ih)) (fun _ => ih)
theorem PI_E (d : Nat) : PI T (isX T) (pE T d) := PI_Ex (PI_Tm (PI_F d))
theorem cmpOp_nI {k : Int32} (h : ¬ cmpOp k = -1) : ∃ o, cmpOp k = nI o ∧ 11 ≤ o ∧ o ≤ 16 := by
  unfold cmpOp at *
  split
  · exact ⟨11, rfl, by decide⟩
  split
  · exact ⟨13, rfl, by decide⟩
  split
  · exact ⟨14, rfl, by decide⟩
  split
  · exact ⟨12, rfl, by decide⟩
  split
  · exact ⟨15, rfl, by decide⟩
  split
  · exact ⟨16, rfl, by decide⟩
  simp_all
theorem cmpOp_lt' {a : Nat} (h : ¬ cmpOp (kd T a) = -1) : a < T.length := by
  rcases Nat.lt_or_ge a T.length with q | q
  · exact q
  · rw [kd_out q] at h; exact absurd (by decide) h
theorem PI_Sg (full : Bool) (E F C : PF) (hE : PI T (isX T) E) (hF : full = false → PI T (isC T) F) (hC : full = false → PI T (isC T) C) : PI T (isC T) (pSg T full E F C) := by
  intro a ha
  by_cases h0 : full = true ∧ (kd T a = nI 217 ∨ kd T a = nI 91)
  · exact ⟨false, a, [], Nat.le_refl _, ha, by simp, by simp, fun ws hw => by simp [pSg, h0]⟩
  by_cases h1 : kd T a = nI 217
  · have hlt : a < T.length := kd_in h1 (by decide)
    have hfl : full = false := by cases full; rfl; exact absurd ⟨rfl, Or.inl h1⟩ h0
    obtain ⟨b, a', x, g1, g2, g3, g4, g5⟩ := hF hfl (a + 1) (by omega)
    refine ⟨b, a', x ++ [(nI 18, nI 0)], by omega, g2, by simp; omega, fun hb => ?_, fun ws hw => ?_⟩
    · obtain ⟨q1, q2, q3⟩ := g4 hb
      exact ⟨by simp; omega, by omega, isC_not q3⟩
    · have e := g5 ws (by omega)
      simp only [pSg, hfl, h1, e, reduceIte, Bool.false_eq_true, false_and]
      rw [adw_ok (by simp; omega), List.append_assoc]
  by_cases h2 : kd T a = nI 91
  · have hlt : a < T.length := kd_in h2 (by decide)
    have hfl : full = false := by cases full; rfl; exact absurd ⟨rfl, Or.inr h2⟩ h0
    obtain ⟨b, a', x, g1, g2, g3, g4, g5⟩ := hC hfl (a + 1) (by omega)
    cases b with
    | false =>
      refine ⟨false, a', x, by omega, g2, by omega, by simp, fun ws hw => ?_⟩
      have e := g5 ws (by omega)
      simp only [pSg, hfl, h2, e, reduceIte, Bool.false_eq_true, false_and, show ¬ nI 91 = nI 217 by decide]
    | true =>
      obtain ⟨q1, q2, q3⟩ := g4 rfl
      by_cases hc : kd T a' = nI 93
      · have hlt2 : a' < T.length := kd_in hc (by decide)
        refine ⟨true, a' + 1, x, by omega, by omega, by omega, fun _ => ⟨by omega, by omega, q3⟩, fun ws hw => ?_⟩
        have e := g5 ws (by omega)
        simp only [pSg, hfl, h2, e, reduceIte, Bool.false_eq_true, false_and, show ¬ nI 91 = nI 217 by decide, pTk, hc]
      · refine ⟨false, a', x, by omega, g2, by omega, by simp, fun ws hw => ?_⟩
        have e := g5 ws (by omega)
        simp only [pSg, hfl, h2, e, reduceIte, Bool.false_eq_true, false_and, show ¬ nI 91 = nI 217 by decide, pTk, hc]
  obtain ⟨b, a', x, g1, g2, g3, g4, g5⟩ := hE a ha
  have e0 : ∀ ws : WL, ws.length + (T.length - a) < 255 → E (a, ws) = (b, a', ws ++ x) := g5
  cases b with
  | false =>
    refine ⟨false, a', x, by omega, g2, by omega, by simp, fun ws hw => ?_⟩
    simp only [pSg, h1, h2, or_self, and_false, e0 ws hw, reduceIte]
  | true =>
    obtain ⟨q1, q2, q3⟩ := g4 rfl
    by_cases h3 : kd T a' = nI 214
    · have hlt : a' < T.length := kd_in h3 (by decide)
      by_cases h4 : kd T (a' + 1) = nI 213
      · have hlt2 : a' + 1 < T.length := kd_in h4 (by decide)
        refine ⟨true, a' + 1 + 1, x ++ [(nI 17, nI 0)], by omega, by omega, by simp; omega, fun _ => ⟨by simp; omega, by omega, isC_is q3⟩, fun ws hw => ?_⟩
        simp only [pSg, h1, h2, or_self, and_false, e0 ws hw, h3, h4, pTk, reduceIte, Bool.true_eq_false]
        rw [adw_ok (by simp; omega), List.append_assoc]
      · refine ⟨false, a' + 1, x ++ [(nI 17, nI 0)], by omega, by omega, by simp; omega, by simp, fun ws hw => ?_⟩
        simp only [pSg, h1, h2, or_self, and_false, e0 ws hw, h3, h4, pTk, reduceIte, Bool.true_eq_false]
        rw [adw_ok (by simp; omega), List.append_assoc]
    by_cases h5 : cmpOp (kd T a') = -1
    · refine ⟨false, a', x, by omega, g2, by omega, by simp, fun ws hw => ?_⟩
      simp only [pSg, h1, h2, or_self, and_false, e0 ws hw, h3, h5, reduceIte, Bool.true_eq_false]
    · have hlt := cmpOp_lt' h5
      obtain ⟨o, ho, ho1, ho2⟩ := cmpOp_nI h5
      obtain ⟨b2, a2, y, r1, r2, r3, r4, r5⟩ := hE (a' + 1) (by omega)
      refine ⟨b2, a2, x ++ y ++ [(nI o, nI 0)], by omega, r2, by simp; omega, fun hb => ?_, fun ws hw => ?_⟩
      · obtain ⟨s1, s2, s3⟩ := r4 hb
        exact ⟨by simp; omega, by omega, isC_cmp q3 s3 ho1 ho2⟩
      · have e2 := r5 (ws ++ x) (by simp; omega)
        simp only [pSg, h1, h2, or_self, and_false, e0 ws hw, h3, h5, e2, reduceIte, Bool.true_eq_false]
        rw [adw_ok (by simp; omega), ho]
        simp
theorem PI_Bo {F : PF} (hF : PI T (isC T) F) : PI T (isC T) (pBo T F) := PI_chain (isC T) 215 215 19 19 (by decide) (by decide) (fun a b ha hb => ⟨isC_bin ha hb (by decide) (by decide), isC_bin ha hb (by decide) (by decide)⟩) F hF 200
theorem PI_Co {F : PF} (hF : PI T (isC T) F) : PI T (isC T) (pCo T F) := PI_chain (isC T) 216 216 20 20 (by decide) (by decide) (fun a b ha hb => ⟨isC_bin ha hb (by decide) (by decide), isC_bin ha hb (by decide) (by decide)⟩) F hF 200
theorem PI_S : ∀ d, PI T (isC T) (pS T d) := by
  intro d
  induction d with
  | zero => exact PI_Sg true _ _ _ (PI_E 0) (by simp) (by simp)
  | succ d ih => exact PI_Sg false _ _ _ (PI_E (d + 1)) (fun _ => ih) (fun _ => PI_Co (PI_Bo ih))
theorem PI_C (d : Nat) : PI T (isC T) (pC T d) := PI_Co (PI_Bo (PI_S d))
end
