-- deps: 274
-- the words behind a select's rows
def fN (a : Int32) (A : AR) (q : Nat) : Bool := if a = -1 then A.2.1 q else if a = nI 219 then false else decide (A.2.2.2 q = 0)
def fV (a : Int32) (A : AR) (q : Nat) : Int32 := if a = -1 then nrm (A.2.1 q) (A.1 q) else if a = nI 219 then nI (A.2.2.2 q) else if A.2.2.2 q = 0 then nI 0 else if a = nI 218 then (A.2.2.1 q).toInt32 else A.1 q
/-- a sum that does not fit -/
def OVF (its : IL) (k : Nat) (A : AR) : Prop := ∃ i, i < its.length ∧ agI its i = nI 218 ∧ ∃ r, r < k ∧ A.2.2.2 (r * 4 + i) ≠ 0 ∧ fitsB (A.2.2.1 (r * 4 + i)) = false
theorem ecV_spec (b : Nat) (hb : b < 4) : ∀ (n i : Nat) (w : Nat → Int64), (∀ r, i ≤ r → r < i + n → ecV b n i w (r * 4 + b) = if w (r * 4 + b) = MS then lN 0 else w (r * 4 + b)) ∧ ∀ q', (∀ r, i ≤ r → r < i + n → q' ≠ r * 4 + b) → ecV b n i w q' = w q' := by
  intro n
  induction n with
  | zero =>
    intro i w
    exact ⟨fun r h1 h2 => absurd h2 (by omega), fun q' _ => rfl⟩
  | succ n ih =>
    intro i w
    rw [ecV]
    obtain ⟨h1, h2⟩ := ih (i + 1) (if w (i * 4 + b) = MS then up1 w (i * 4 + b) (lN 0) else w)
    refine ⟨fun r hr1 hr2 => ?_, fun q' hq' => ?_⟩
    · by_cases e : r = i
      · subst e
        rw [h2 (r * 4 + b) (fun r' h3 h4 => by omega)]
        split
        · rw [up1_s]
        · rfl
      · rw [h1 r (by omega) (by omega)]
        have e2 : (if w (i * 4 + b) = MS then up1 w (i * 4 + b) (lN 0) else w) (r * 4 + b) = w (r * 4 + b) := by
          split
          · exact up1_n (by omega)
          · rfl
        rw [e2]
    · rw [h2 q' (fun r h3 h4 => hq' r (by omega) (by omega))]
      split
      · exact up1_n (hq' i (by omega) (by omega))
      · rfl
theorem esB_spec (b : Nat) (w : Nat → Int64) : ∀ (n i : Nat), (esB b w n i = true → ∃ r, i ≤ r ∧ r < i + n ∧ ¬ w (r * 4 + b) = MS ∧ fitsB (w (r * 4 + b)) = false) ∧ (esB b w n i = false → ∀ r, i ≤ r → r < i + n → ¬ w (r * 4 + b) = MS → fitsB (w (r * 4 + b)) = true) := by
  intro n
  induction n with
  | zero =>
    intro i
    exact ⟨fun h => absurd h (by simp [esB]), fun _ r h1 h2 => absurd h2 (by omega)⟩
  | succ n ih =>
    intro i
    rw [esB]
    obtain ⟨h1, h2⟩ := ih (i + 1)
    refine ⟨fun h => ?_, fun h r hr1 hr2 hm => ?_⟩
    · rw [Bool.or_eq_true] at h
      rcases h with h | h
      · simp only [Bool.and_eq_true, decide_eq_true_eq, Bool.not_eq_true'] at h
        exact ⟨i, by omega, by omega, h.1, h.2⟩
      · obtain ⟨r, a1, a2, a3, a4⟩ := h1 h
        exact ⟨r, by omega, by omega, a3, a4⟩
    · rw [Bool.or_eq_false_iff] at h
      by_cases e : r = i
      · subst e
        have h3 := h.1
        simp only [hm, not_false_eq_true, decide_true, Bool.true_and, Bool.not_eq_false'] at h3
        exact h3
      · exact h2 h.2 r (by omega) (by omega) hm
/-- items before i are as they will be shown; the others are as they were gathered -/
def RelF (its : IL) (k : Nat) (A : AR) (w : Nat → Int64) (o : Nat → Int32) (i : Nat) : Prop := (∀ r, r < k → o r = nI r) ∧ ∀ r, r < k → ∀ b, b < its.length → (b < i → w (r * 4 + b) = hN (fN (agI its b) A (r * 4 + b)) (fV (agI its b) A (r * 4 + b))) ∧ (i ≤ b → RC (agI its b) A w (r * 4 + b))
theorem fits_nat {n : Nat} (h : n < 2 ^ 31) : fitsB (lN n) = true := by
  unfold fitsB
  have h1 : ¬ lN n < -2147483648 := by
    rw [Int64.lt_iff_toInt_lt, lN_toInt h]
    have : (-2147483648 : Int64).toInt = -2147483648 := by decide
    rw [this]
    omega
  have h2 : ¬ lN 2147483647 < lN n := by
    rw [lN_lt (by decide) h]
    omega
  simp [h1, h2]
/-- an item that no total belongs to is as it will be shown -/
theorem RC_fin {a : Int32} {A : AR} {w : Nat → Int64} {q : Nat} (ha : a = -1 ∨ isAgg a) (h1 : ¬ a = nI 219) (h2 : ¬ a = nI 218) (h : RC a A w q) : w q = hN (fN a A q) (fV a A q) := by
  unfold RC rcV at h
  rw [h]
  unfold fV fN
  rcases ha with rfl | ha
  · simp only [reduceIte, hN_nrm]
  · rw [if_neg (isAgg_ne ha), if_neg (isAgg_ne ha), if_neg (isAgg_ne ha), if_neg h1, if_neg h1, if_neg h1, if_neg h2, if_neg h2]
    by_cases e : A.2.2.2 q = 0
    · simp only [e, reduceIte, decide_true, hN_t]
    · simp only [e, reduceIte, decide_false, hN_f]
section
variable (h : Nat) (x : Int32) (S : ST) (Q : Option AV → ST → Prop) (P post : WL) (jf : Nat) (its : IL) (k : Nat) (A : AR) (o : Nat → Int32) (g : Int32) (v : Nat → Int32) (m : Nat → Bool)
theorem run_totals (hP : PrC S P) (hr : gz S 2 13 0 = true) (hj : jf < 2) (h6 : gr S 2 4 0 = jf) (hl4 : its.length ≤ 4) (hai : ∀ b, b < its.length → agI its b = -1 ∨ isAgg (agI its b)) (hk : k ≤ 576) (hsb : ∀ r, r < k → ∀ b, b < its.length → SBd A (r * 4 + b)) : ∀ (l : IL) (i a n : Nat) (pre : WL) (w : Nat → Int64), P = pre ++ toW l i ++ post → a = pre.length → TL its l i → RelF its k A w o i → n + (toW l i).length < 999999 →
    (OVF its k A → ∀ (w : Nat → Int64) (a' n' : Nat), n' ≤ n + (toW l i).length → Q (some (vI (-1005))) (sl (flS (cS S a' n' v m 0 jf w o k g) (-1005)) 2 17 0 (limL S x))) →
    ((∀ b, i ≤ b → b < its.length → agI its b = nI 218 → ∀ r, r < k → A.2.2.2 (r * 4 + b) ≠ 0 → fitsB (A.2.2.1 (r * 4 + b)) = true) → ∀ (w : Nat → Int64), RelF its k A w o its.length → RUN (h + 2) x (n + (toW l i).length) (cS S (a + (toW l i).length) (n + (toW l i).length) v m 0 jf w o k g) Q) →
    RUN (h + 2) x n (cS S a n v m 0 jf w o k g) Q := by
  intro l
  induction l with
  | nil =>
    intro i a n pre w hp ha hT hR hn hF hY
    have : i = its.length := by have := hT.1; simpa using this
    subst this
    exact hY (fun b h1 h2 => absurd h2 (by omega)) w hR
  | cons y l ih =>
    intro i a n pre w hp ha hT hR hn hF hY
    obtain ⟨hT2, hag⟩ := TL_s hT
    have hi4 : i < its.length := by have := hT.1; simp at this; omega
    -- what comes behind this item's word
    have go : ∀ (op : Nat) (w' : Nat → Int64), (∀ r, r < k → w' (r * 4 + i) = hN (fN (agI its i) A (r * 4 + i)) (fV (agI its i) A (r * 4 + i))) → (∀ q', (∀ r, r < k → q' ≠ r * 4 + i) → w' q' = w q') → toW (y :: l) i = (nI op, nI i) :: toW l (i + 1) → (agI its i = nI 218 → ∀ r, r < k → A.2.2.2 (r * 4 + i) ≠ 0 → fitsB (A.2.2.1 (r * 4 + i)) = true) → RUN (h + 2) x (n + 1) (cS S (a + 1) (n + 1) v m 0 jf w' o k g) Q := by
      intro op w' hw1 hw2 eW hfi
      rw [eW] at hp hn hF hY
      simp only [List.length_cons] at hn hF hY
      refine ih (i + 1) (a + 1) (n + 1) (pre ++ [(nI op, nI i)]) w' (by rw [hp]; simp) (by simp [ha]) hT2 ⟨hR.1, fun r hr' b hb4 => ?_⟩ (by omega) ?_ ?_
      · have hRr := hR.2 r hr' b hb4
        by_cases e : b = i
        · subst e
          exact ⟨fun _ => hw1 r hr', fun c => absurd c (by omega)⟩
        · have hne := hw2 (r * 4 + b) (fun r' h3 => by omega)
          refine ⟨fun c => ?_, fun c => ?_⟩
          · rw [hne]
            exact hRr.1 (by omega)
          · exact RC_same (hRr.2 (by omega)) rfl rfl rfl rfl hne
      · intro hov w a' n' hn'
        exact hF hov w a' n' (by omega)
      · intro hfit w' hR'
        have := hY (fun b h1 h2 h3 r hr' h4 => ?_) w' hR'
        · rw [show n + 1 + (toW l (i + 1)).length = n + ((toW l (i + 1)).length + 1) by omega, show a + 1 + (toW l (i + 1)).length = a + ((toW l (i + 1)).length + 1) by omega]
          exact this
        · by_cases e : b = i
          · subst e
            exact hfi h3 r hr' h4
          · exact hfit b (by omega) h2 h3 r hr' h4
    by_cases c1 : agI its i = nI 219
    · have c1' : y.1 = nI 219 := by rw [← hag]; exact c1
      have eW : toW (y :: l) i = (nI 36, nI i) :: toW l (i + 1) := by rw [toW, if_pos c1']; rfl
      have hn1 : n + 1 < 1000000 := by rw [eW] at hn; simp only [List.length_cons] at hn; omega
      refine run_F h x (rs (tg S g) jf w o k) Q _ P a n 36 (nI i) v m 0 (cS_P hP ..) (by simp only [rs, tg, gi_si, gi_sl, gi_sz, gi_sr, gi_sa, gi_sb, gi_sy, gl_si, gl_sl, gl_sz, gl_sr, gl_sa, gl_sb, gl_sy, gz_si, gz_sl, gz_sz, gz_sr, gz_sa, gz_sb, gz_sy, gr_si, gr_sl, gr_sz, gr_sr, gr_sa, gr_sb, gr_sy, ga_si, ga_sl, ga_sz, ga_sr, ga_sa, ga_sb, ga_sy, gb_si, gb_sl, gb_sz, gb_sr, gb_sa, gb_sb, gb_sy, gy_si, gy_sl, gy_sz, gy_sr, gy_sa, gy_sb, gy_sy, reduceIte, Nat.reduceEqDiff, and_true, true_and, and_self, false_and, and_false]; exact hr) (by rw [hp, ha, eW]; simp) (by omega) (by omega) (by omega) (c_fin36 h S (a + 1) (n + 1) v m 0 jf w o k g i hj h6 hk hR.1 (by omega)) ?_
      rintro S' rfl
      obtain ⟨s1, s2⟩ := ecV_spec i (by omega) k 0 w
      refine go 36 _ (fun r hr' => ?_) (fun q' hq' => s2 q' (fun r _ h2 => hq' r (by omega))) eW (fun e => absurd (c1.symm.trans e) (by decide))
      rw [s1 r (by omega) (by omega)]
      have hRC := (hR.2 r hr' i hi4).2 (Nat.le_refl _)
      have hs := hsb r hr' i hi4
      have hc := hs.1
      rw [c1] at hRC ⊢
      unfold RC rcV at hRC
      rw [hRC]
      unfold fV fN
      simp only [show ¬ nI 219 = -1 by decide, reduceIte, hN_f]
      rw [nI_l (by omega)]
      by_cases e : A.2.2.2 (r * 4 + i) = 0
      · simp only [e, reduceIte]
      · have n1 := lN_nMS (show A.2.2.2 (r * 4 + i) < 2 ^ 31 by omega)
        simp only [e, reduceIte, n1]
    by_cases c2 : agI its i = nI 218
    · have c1' : ¬ y.1 = nI 219 := by rw [← hag]; exact c1
      have c2' : y.1 = nI 218 := by rw [← hag]; exact c2
      have eW : toW (y :: l) i = (nI 37, nI i) :: toW l (i + 1) := by rw [toW, if_neg c1', if_pos c2']; rfl
      have hn1 : n + 1 < 1000000 := by rw [eW] at hn; simp only [List.length_cons] at hn; omega
      have cell : ∀ r, r < k → w (r * 4 + i) = if A.2.2.2 (r * 4 + i) = 0 then MS else A.2.2.1 (r * 4 + i) := by
        intro r hr'
        have hRC := (hR.2 r hr' i hi4).2 (Nat.le_refl _)
        rw [c2] at hRC
        unfold RC rcV at hRC
        simp only [show ¬ nI 218 = -1 by decide, show ¬ nI 218 = nI 219 by decide, reduceIte] at hRC
        exact hRC
      refine run_F h x (rs (tg S g) jf w o k) Q _ P a n 37 (nI i) v m 0 (cS_P hP ..) (by simp only [rs, tg, gi_si, gi_sl, gi_sz, gi_sr, gi_sa, gi_sb, gi_sy, gl_si, gl_sl, gl_sz, gl_sr, gl_sa, gl_sb, gl_sy, gz_si, gz_sl, gz_sz, gz_sr, gz_sa, gz_sb, gz_sy, gr_si, gr_sl, gr_sz, gr_sr, gr_sa, gr_sb, gr_sy, ga_si, ga_sl, ga_sz, ga_sr, ga_sa, ga_sb, ga_sy, gb_si, gb_sl, gb_sz, gb_sr, gb_sa, gb_sb, gb_sy, gy_si, gy_sl, gy_sz, gy_sr, gy_sa, gy_sb, gy_sy, reduceIte, Nat.reduceEqDiff, and_true, true_and, and_self, false_and, and_false]; exact hr) (by rw [hp, ha, eW]; simp) (by omega) (by omega) (by omega) (c_fin37 h S (a + 1) (n + 1) v m 0 jf w o k g i hj h6 hk hR.1 (by omega)) ?_
      intro S' hS'
      have hes := esB_spec i w k 0
      cases hb : esB i w k 0 with
      | true =>
        rw [if_pos hb] at hS'
        subst hS'
        obtain ⟨r, a1, a2, a3, a4⟩ := hes.1 hb
        have hc := cell r (by omega)
        have h0 : ¬ A.2.2.2 (r * 4 + i) = 0 := by
          intro e
          rw [if_pos e] at hc
          exact a3 hc
        rw [if_neg h0] at hc
        rw [hc] at a4
        have hov : OVF its k A := ⟨i, hi4, c2, r, by omega, h0, a4⟩
        refine run_exit (h + 2) x (n + 1) _ Q (by simp only [flS, gi_si, gi_sl, gi_sz, gi_sr, gi_sa, gi_sb, gi_sy, gl_si, gl_sl, gl_sz, gl_sr, gl_sa, gl_sb, gl_sy, gz_si, gz_sl, gz_sz, gz_sr, gz_sa, gz_sb, gz_sy, gr_si, gr_sl, gr_sz, gr_sr, gr_sa, gr_sb, gr_sy, ga_si, ga_sl, ga_sz, ga_sr, ga_sa, ga_sb, ga_sy, gb_si, gb_sl, gb_sz, gb_sr, gb_sa, gb_sb, gb_sy, gy_si, gy_sl, gy_sz, gy_sr, gy_sa, gy_sb, gy_sy, reduceIte, Nat.reduceEqDiff, and_true, true_and, and_self, false_and, and_false]) (by omega) ?_
        have e1 : gi (flS (cS S (a + 1) (n + 1) v m 0 jf w o k g) (-1005)) 2 12 0 = -1005 := by simp only [flS, gi_si, gi_sl, gi_sz, gi_sr, gi_sa, gi_sb, gi_sy, gl_si, gl_sl, gl_sz, gl_sr, gl_sa, gl_sb, gl_sy, gz_si, gz_sl, gz_sz, gz_sr, gz_sa, gz_sb, gz_sy, gr_si, gr_sl, gr_sz, gr_sr, gr_sa, gr_sb, gr_sy, ga_si, ga_sl, ga_sz, ga_sr, ga_sa, ga_sb, ga_sy, gb_si, gb_sl, gb_sz, gb_sr, gb_sa, gb_sb, gb_sy, gy_si, gy_sl, gy_sz, gy_sr, gy_sa, gy_sb, gy_sy, reduceIte, Nat.reduceEqDiff, and_true, true_and, and_self, false_and, and_false]
        have e2 : gl (flS (cS S (a + 1) (n + 1) v m 0 jf w o k g) (-1005)) 2 16 0 = gl S 2 16 0 := by simp only [flS, cS, mp, rg, rs, tg, gi_si, gi_sl, gi_sz, gi_sr, gi_sa, gi_sb, gi_sy, gl_si, gl_sl, gl_sz, gl_sr, gl_sa, gl_sb, gl_sy, gz_si, gz_sl, gz_sz, gz_sr, gz_sa, gz_sb, gz_sy, gr_si, gr_sl, gr_sz, gr_sr, gr_sa, gr_sb, gr_sy, ga_si, ga_sl, ga_sz, ga_sr, ga_sa, ga_sb, ga_sy, gb_si, gb_sl, gb_sz, gb_sr, gb_sa, gb_sb, gb_sy, gy_si, gy_sl, gy_sz, gy_sr, gy_sa, gy_sb, gy_sy, reduceIte, Nat.reduceEqDiff, and_true, true_and, and_self, false_and, and_false]
        rw [e1, e2]
        exact hF hov w (a + 1) (n + 1) (by rw [eW]; simp only [List.length_cons]; omega)
      | false =>
        rw [if_neg (by rw [hb]; decide)] at hS'
        subst hS'
        have hall := hes.2 hb
        have hfit : ∀ r, r < k → A.2.2.2 (r * 4 + i) ≠ 0 → fitsB (A.2.2.1 (r * 4 + i)) = true := by
          intro r hr' h0
          have hc := cell r hr'
          rw [if_neg h0] at hc
          have := hall r (by omega) (by omega) (by rw [hc]; exact SBd_nMS (hsb r hr' i hi4))
          rwa [hc] at this
        refine go 37 w (fun r hr' => ?_) (fun q' _ => rfl) eW (fun _ => hfit)
        rw [cell r hr', c2]
        unfold fV fN
        simp only [show ¬ nI 218 = -1 by decide, show ¬ nI 218 = nI 219 by decide, reduceIte]
        by_cases e : A.2.2.2 (r * 4 + i) = 0
        · simp only [e, reduceIte, decide_true, hN_t]
        · simp only [e, reduceIte, decide_false, hN_f]
          exact (fits_i (hfit r hr' e)).symm
    · have c1' : ¬ y.1 = nI 219 := by rw [← hag]; exact c1
      have c2' : ¬ y.1 = nI 218 := by rw [← hag]; exact c2
      have eW : toW (y :: l) i = toW l (i + 1) := by rw [toW, if_neg c1', if_neg c2']; rfl
      rw [eW] at hp hn hF hY
      refine ih (i + 1) a n pre w hp ha hT2 ⟨hR.1, fun r hr' b hb4 => ?_⟩ hn hF (fun hfit => hY (fun b h1 h2 h3 => hfit b (by
        by_cases e : b = i
        · subst e; exact absurd h3 c2
        · omega) h2 h3))
      have hRr := hR.2 r hr' b hb4
      by_cases e : b = i
      · subst e
        exact ⟨fun _ => RC_fin (hai b hb4) c1 c2 (hRr.2 (Nat.le_refl _)), fun c => absurd c (by omega)⟩
      · exact ⟨fun c => hRr.1 (by omega), fun c => hRr.2 (by omega)⟩
end
