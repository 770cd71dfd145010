-- deps: 372
-- what every statement keeps of the tables
def LimD (d : DB) : Prop := ∀ t, dC d ≤ t → dK d t = 0 ∧ dR d t = 0
theorem fcN_ne {g : Nat → Int32} {x : Int32} : ∀ {n i : Nat}, fcN g x n i = none → ∀ c, i ≤ c → c < i + n → ¬ g c = x := by
  intro n
  induction n with
  | zero => intro i _ c h1 h2; omega
  | succ n ih =>
    intro i h c h1 h2
    rw [fcN] at h
    by_cases q : g i = x
    · rw [if_pos q] at h; simp at h
    · rw [if_neg q] at h
      by_cases e : c = i
      · subst e; exact q
      · exact ih h c (by omega) (by omega)
theorem anyB_n {p : Nat → Bool} : ∀ {n : Nat}, anyB p n = false → ∀ i, i < n → p i = false := by
  intro n
  induction n with
  | zero => intro _ i hi; omega
  | succ n ih =>
    intro h i hi
    rw [anyB, Bool.or_eq_false_iff] at h
    by_cases e : i = n
    · subst e; first | exact h.1 | exact h.2
    · exact ih (by first | exact h.1 | exact h.2) i (by omega)
theorem IV_mv {n K i to : Nat} {v : Nat → Int32} {m : Nat → Bool} (hI : IV n K v m) (hi : i < n) (hto : to ≤ i) (hK : K ≤ 4) : IV n K (mvV v m i to K 0).1 (mvV v m i to K 0).2 := (Re_mv (t := 0) (g5 := fun j => v (j / 4 * 4 + j % 4)) (g6 := fun j => m (j / 4 * 4 + j % 4)) (fun q _ c hc => by
  simp only
  rw [show 96 * 0 + 4 * q + c = 4 * q + c by omega, show (4 * q + c) / 4 = q by omega, show (4 * q + c) % 4 = c by omega]
  exact ⟨rfl, rfl⟩) hI hi hto hK).2
theorem drp_IV {mk : Nat → Bool} {N K : Nat} (hK : K ≤ 4) : ∀ {k i to : Nat} {v : Nat → Int32} {m : Nat → Bool}, i + k = N → to ≤ i → IV N K v m → IV N K (drpV mk K k i to v m).1 (drpV mk K k i to v m).2.1 := by
  intro k
  induction k with
  | zero => intro i to v m _ _ h; exact h
  | succ k ih =>
    intro i to v m hi hto h
    rw [drpV]
    split
    · exact ih (by omega) (by omega) h
    · exact ih (by omega) (by omega) (IV_mv h (by omega) hto hK)
theorem chg_IV {mk nm : Nat → Bool} {nv : Nat → Int32} {b N K : Nat} (hb : b < K) (hK : K ≤ 4) : ∀ {k i e : Nat} {v : Nat → Int32} {m : Nat → Bool}, IV N K v m → IV N K (chgV mk nm nv b k i e v m).1 (chgV mk nm nv b k i e v m).2.1 := by
  intro k
  induction k with
  | zero => intro i e v m h; exact h
  | succ k ih =>
    intro i e v m h
    rw [chgV]
    split
    · exact ih (IV_up h hb hK (nv i) (nm i))
    · exact ih h
section
variable {d : DB}
theorem W_set {t n : Nat} {v : Nat → Int32} {m : Nat → Bool} (hW : DbW d) (hL : LimD d) (ht : t < dC d) (hI : IV n (dK d t) v m) : DbW (dset d t n v m) ∧ LimD (dset d t n v m) := by
  refine ⟨⟨hW.1, hW.2.1, fun u hu c hc => ⟨(hW.2.2 u hu c hc).1, fun r hr hz => ?_⟩⟩, fun u hu => ?_⟩
  · have eR : dR (dset d t n v m) u = up1 (dR d) t n u := rfl
    have eV : dV (dset d t n v m) u = up1 (dV d) t v u := rfl
    have eM : dM (dset d t n v m) u = up1 (dM d) t m u := rfl
    rw [eR] at hr
    rw [eM] at hz
    rw [eV]
    by_cases q : u = t
    · subst q
      simp only [up1, reduceIte] at hr hz ⊢
      exact hI r hr c hc hz
    · simp only [up1, q, reduceIte] at hr hz ⊢
      exact (hW.2.2 u hu c hc).2 r hr hz
  · have hu : dC d ≤ u := hu
    have eR : dR (dset d t n v m) u = up1 (dR d) t n u := rfl
    rw [eR]
    have q : ¬ u = t := by omega
    simp only [up1, q, reduceIte]
    exact hL u hu
theorem W_IV {t : Nat} (hW : DbW d) (ht : t < dC d) : IV (dR d t) (dK d t) (dV d t) (dM d t) := fun q hq c hc hz => (hW.2.2 t ht c hc).2 q hq hz
theorem W_de (T : WL) (y : Int32 × Option WL) (hW : DbW d) (hL : LimD d) (h4 : ∀ t, t < dC d → dK d t ≤ 4) : DbW (aDe T d y).2.1 ∧ LimD (aDe T d y).2.1 := by
  obtain ⟨x, c⟩ := y
  cases htf : tfd d x with
  | none =>
    have : aDe T d (x, c) = (-1001, d, none) := by unfold aDe; rw [htf]
    rw [this]
    exact ⟨hW, hL⟩
  | some t =>
    have ht := tfd_lt htf
    rw [aDe_s htf]
    split
    · split
      · exact ⟨hW, hL⟩
      · split
        · refine W_set hW hL ht ?_
          have hle := drp_le (fun i => (cndE (ld1 d t i) (cdW (pl1 d T x t) (ty1 d t) c)).2) (dK d t) (dR d t) 0 0 (dV d t) (dM d t)
          have := drp_IV (mk := fun i => (cndE (ld1 d t i) (cdW (pl1 d T x t) (ty1 d t) c)).2) (h4 t ht) (Nat.zero_add _) (Nat.le_refl 0) (W_IV hW ht)
          unfold delR
          exact fun q hq => this q (by omega)
        · exact ⟨hW, hL⟩
    · exact ⟨hW, hL⟩
theorem W_up (T : WL) (y : Int32 × (Int32 × WL) × Option WL) (hW : DbW d) (hL : LimD d) (h4 : ∀ t, t < dC d → dK d t ≤ 4) : DbW (aUp T d y).2.1 ∧ LimD (aUp T d y).2.1 := by
  obtain ⟨x, ⟨cn, sg⟩, c⟩ := y
  cases htf : tfd d x with
  | none =>
    have : aUp T d (x, (cn, sg), c) = (-1001, d, none) := by unfold aUp; rw [htf]
    rw [this]
    exact ⟨hW, hL⟩
  | some t =>
    have ht := tfd_lt htf
    cases hfc : fcN (dCN d t) cn (dK d t) 0 with
    | none =>
      have : aUp T d (x, (cn, sg), c) = (-1001, d, none) := by unfold aUp; rw [htf]; simp only; rw [hfc]
      rw [this]
      exact ⟨hW, hL⟩
    | some b =>
      have hb := fcN_lt hfc
      rw [aUp_s htf hfc]
      split
      · split
        · exact ⟨hW, hL⟩
        · split
          · split
            · exact ⟨hW, hL⟩
            · split
              · refine W_set hW hL ht ?_
                unfold updR
                exact chg_IV (by omega) (h4 t ht) (W_IV hW ht)
              · exact ⟨hW, hL⟩
          · exact ⟨hW, hL⟩
      · exact ⟨hW, hL⟩
theorem W_in (y : Int32 × List (Int32 × Int32)) (hW : DbW d) (hL : LimD d) : DbW (aIn d y).2.1 ∧ LimD (aIn d y).2.1 := by
  obtain ⟨x, l⟩ := y
  cases htf : tfd d x with
  | none =>
    have : aIn d (x, l) = (-1001, d, none) := by unfold aIn; rw [htf]
    rw [this]
    exact ⟨hW, hL⟩
  | some t =>
    have ht := tfd_lt htf
    by_cases hf : inF d t (l2 l) l.length = nI 0
    · have : aIn d (x, l) = (nI 1, inD d t (dK d t) (l2 l) (l1 l), none) := by unfold aIn; rw [htf]; simp only; rw [if_pos hf]
      rw [this]
      refine ⟨⟨hW.1, hW.2.1, fun u hu c hc => ⟨(hW.2.2 u hu c hc).1, fun r hr hz => ?_⟩⟩, fun u hu => ?_⟩
      · have hc : c < dK d u := hc
        have eR : dR (inD d t (dK d t) (l2 l) (l1 l)) u = up1 (dR d) t (dR d t + 1) u := rfl
        have eV : dV (inD d t (dK d t) (l2 l) (l1 l)) u = up1 (dV d) t (colO (inV (l2 l) (l1 l)) (dR d t) (dK d t) 0 (dV d t)) u := rfl
        have eM : dM (inD d t (dK d t) (l2 l) (l1 l)) u = up1 (dM d) t (colO (inM (l2 l)) (dR d t) (dK d t) 0 (dM d t)) u := rfl
        rw [eR] at hr
        rw [eM] at hz
        rw [eV]
        by_cases q : u = t
        · subst q
          simp only [up1, reduceIte] at hr hz ⊢
          by_cases qr : r = dR d u
          · subst qr
            rw [colO_in (by omega) (by omega)] at hz ⊢
            unfold inM at hz
            unfold inV
            rw [if_neg (of_decide_eq_true hz)]
          · have hk4 : dK d u ≤ 4 ∨ True := Or.inr trivial
            by_cases qo : ∃ e, e < dK d u ∧ r * 4 + c = dR d u * 4 + e
            · obtain ⟨e, he, eq⟩ := qo
              rw [eq, colO_in (by omega) (by omega)] at hz
              rw [eq, colO_in (by omega) (by omega)]
              unfold inM at hz
              unfold inV
              rw [if_neg (of_decide_eq_true hz)]
            · have no : ∀ e, 0 ≤ e → e < 0 + dK d u → r * 4 + c ≠ dR d u * 4 + e := fun e _ he z => qo ⟨e, by omega, z⟩
              rw [colO_out no] at hz ⊢
              exact (hW.2.2 u hu c hc).2 r (by omega) hz
        · simp only [up1, q, reduceIte] at hr hz ⊢
          exact (hW.2.2 u hu c hc).2 r hr hz
      · have hu : dC d ≤ u := hu
        have eR : dR (inD d t (dK d t) (l2 l) (l1 l)) u = up1 (dR d) t (dR d t + 1) u := rfl
        rw [eR]
        have q : ¬ u = t := by omega
        simp only [up1, q, reduceIte]
        exact hL u hu
    · have : aIn d (x, l) = (inF d t (l2 l) l.length, d, none) := by unfold aIn; rw [htf]; simp only; rw [if_neg hf]
      rw [this]
      exact ⟨hW, hL⟩
theorem W_cr (y : Int32 × List (Int32 × Int32)) (hW : DbW d) (hL : LimD d) : DbW (aCr d y).2.1 ∧ LimD (aCr d y).2.1 := by
  obtain ⟨x, l⟩ := y
  by_cases hf : crF d x (l1 l) l.length = nI 0
  · have : aCr d (x, l) = (nI 0, crD d x l.length (l1 l) (l2 l), none) := by unfold aCr; rw [if_pos hf]
    rw [this]
    have htf : tfd d x = none := by
      unfold crF at hf
      by_cases q : tfd d x = none
      · exact q
      · rw [if_neg q] at hf; exact absurd hf (by decide)
    have hdup : dupB (l1 l) l.length = false := by
      unfold crF at hf
      rw [if_pos htf] at hf
      split at hf
      · exact absurd hf (by decide)
      · split at hf
        · exact absurd hf (by decide)
        · rename_i z; exact Bool.eq_false_iff.mpr z
    have hnx : ∀ t, t < dC d → ¬ dN d t = x := fun t ht => fcN_ne htf t (Nat.zero_le _) (by omega)
    have hne : ∀ i j, j < i → i < l.length → ¬ l1 l i = l1 l j := by
      intro i j hj hi e
      have h1 := anyB_n hdup i hi
      have h2 := anyB_n h1 j hj
      exact absurd e (of_decide_eq_false h2)
    have eN : ∀ u, dN (crD d x l.length (l1 l) (l2 l)) u = up1 (dN d) (dC d) x u := fun u => rfl
    have eK : ∀ u, dK (crD d x l.length (l1 l) (l2 l)) u = up1 (dK d) (dC d) l.length u := fun u => rfl
    have eCN : ∀ u, dCN (crD d x l.length (l1 l) (l2 l)) u = up1 (dCN d) (dC d) (colA (l1 l) l.length 0 (dCN d (dC d))) u := fun u => rfl
    have eCT : ∀ u, dCT (crD d x l.length (l1 l) (l2 l)) u = up1 (dCT d) (dC d) (colA (fun i => ty12 (l2 l i)) l.length 0 (dCT d (dC d))) u := fun u => rfl
    have eR : ∀ u, dR (crD d x l.length (l1 l) (l2 l)) u = dR d u := fun u => rfl
    have eC : dC (crD d x l.length (l1 l) (l2 l)) = dC d + 1 := rfl
    refine ⟨⟨fun t u ht hu e => ?_, fun t ht c c' hc hc' e => ?_, fun t ht c hc => ?_⟩, fun t ht => ?_⟩
    · rw [eC] at ht hu
      rw [eN, eN] at e
      by_cases q1 : t = dC d
      · subst q1
        by_cases q2 : u = dC d
        · exact q2.symm
        · simp only [up1, q2, reduceIte] at e
          exact absurd e.symm (hnx u (by omega))
      · by_cases q2 : u = dC d
        · subst q2
          simp only [up1, q1, reduceIte] at e
          exact absurd e (hnx t (by omega))
        · simp only [up1, q1, q2, reduceIte] at e
          exact hW.1 t u (by omega) (by omega) e
    · rw [eC] at ht
      rw [eK] at hc hc'
      rw [eCN] at e
      by_cases q1 : t = dC d
      · subst q1
        simp only [up1, reduceIte] at hc hc' e
        rw [colA_in (by omega) (by omega), colA_in (by omega) (by omega)] at e
        apply Classical.byContradiction
        intro hh
        by_cases z : c < c'
        · exact hne c' c z hc' e.symm
        · exact hne c c' (by omega) hc e
      · simp only [up1, q1, reduceIte] at hc hc' e
        exact hW.2.1 t (by omega) c c' hc hc' e
    · rw [eC] at ht
      rw [eK] at hc
      rw [eCT, eR]
      by_cases q1 : t = dC d
      · subst q1
        simp only [up1, reduceIte] at hc ⊢
        rw [colA_in (by omega) (by omega)]
        refine ⟨?_, fun r hr => ?_⟩
        · unfold ty12
          split
          · exact Or.inl rfl
          · exact Or.inr rfl
        · have := (hL (dC d) (Nat.le_refl _)).2
          omega
      · simp only [up1, q1, reduceIte] at hc ⊢
        exact hW.2.2 t (by omega) c hc
    · rw [eC] at ht
      rw [eK, eR]
      have q1 : ¬ t = dC d := by omega
      simp only [up1, q1, reduceIte]
      exact hL t (by omega)
  · have : aCr d (x, l) = (crF d x (l1 l) l.length, d, none) := by unfold aCr; rw [if_neg hf]
    rw [this]
    exact ⟨hW, hL⟩
theorem W_se (A : AR) (T : WL) (y : SLT) (hW : DbW d) (hL : LimD d) : DbW (aSe A T d y).2.1 ∧ LimD (aSe A T d y).2.1 := by
  have : (aSe A T d y).2.1 = d := by
    by_cases h : allT d (nmS y) (tcS y)
    · by_cases h2 : skF d T y = nI 0
      · by_cases h3 : (slR A T d y).1 = nI 0
        · by_cases h4 : OVF (isW (plS d T y) (tyS d y) y.1) (slR A T d y).2.1 (slR A T d y).2.2
          · rw [aSe_o h h2 h3 h4]
          · rw [aSe_s h h2 h3 h4]
        · rw [aSe_r h h2 h3]
      · rw [aSe_f h h2]
    · rw [aSe_n h]
  rw [this]
  exact ⟨hW, hL⟩
theorem W_act (A : AR) (T : WL) (hW : DbW d) (hL : LimD d) (h4 : ∀ t, t < dC d → dK d t ≤ 4) : DbW (actF A T d).2.1 ∧ LimD (actF A T d).2.1 := by
  unfold actF
  split
  · cases (okE T (sCr T)).2 with
    | none => exact ⟨hW, hL⟩
    | some y => exact W_cr y hW hL
  · split
    · cases (okE T (sIn T)).2 with
      | none => exact ⟨hW, hL⟩
      | some y => exact W_in y hW hL
    · split
      · cases (okE T (sDe T)).2 with
        | none => exact ⟨hW, hL⟩
        | some y => exact W_de T y hW hL h4
      · split
        · cases (okE T (sUp T)).2 with
          | none => exact ⟨hW, hL⟩
          | some y => exact W_up T y hW hL h4
        · split
          · cases (okE T (sSe T)).2 with
            | none => exact ⟨hW, hL⟩
            | some y => exact W_se A T y hW hL
          · exact ⟨hW, hL⟩
end
