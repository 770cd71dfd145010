-- deps: 274
-- the words behind a select's rows
def fN (a : Int32) (A : AR) (q : Nat) : Bool := if a = -1 then A.2.1 q else if a = nI 219 then false else decide (A.2.2.2 q = 0)
def fV (a : Int32) (A : AR) (q : Nat) : Int32 := if a = -1 then nrm (A.2.1 q) (A.1 q) else if a = nI 219 then nI (A.2.2.2 q) else if A.2.2.2 q = 0 then nI 0 else if a = nI 218 then (A.2.2.1 q).toInt32 else A.1 q
/-- a sum that does not fit -/
def OVF (its : IL) (k : Nat) (A : AR) : Prop := ∃ i, i < its.length ∧ agI its i = nI 218 ∧ ∃ r, r < k ∧ A.2.2.2 (r * 4 + i) ≠ 0 ∧ fitsB (A.2.2.1 (r * 4 + i)) = false
theorem bt_spec (op b : Nat) (tot : Nat → Int64) (hb : b < 4) : ∀ (n i : Nat) (w : Nat → Int32) (z : Nat → Bool), (∀ q, btV op b tot n i w z = some q → (∀ r, i ≤ r → r < i + n → ((op = 36 ∨ z (r * 4 + b) = false) → fitsB (tot (r * 4 + b)) = true ∧ q.1 (r * 4 + b) = (tot (r * 4 + b)).toInt32 ∧ q.2 (r * 4 + b) = false) ∧ (¬ (op = 36 ∨ z (r * 4 + b) = false) → q.1 (r * 4 + b) = w (r * 4 + b) ∧ q.2 (r * 4 + b) = z (r * 4 + b))) ∧ ∀ q', (∀ r, i ≤ r → r < i + n → q' ≠ r * 4 + b) → q.1 q' = w q' ∧ q.2 q' = z q') ∧ (btV op b tot n i w z = none → ∃ r, i ≤ r ∧ r < i + n ∧ (op = 36 ∨ z (r * 4 + b) = false) ∧ fitsB (tot (r * 4 + b)) = false) := by
  intro n
  induction n with
  | zero =>
    intro i w z
    refine ⟨fun q e => ?_, fun e => absurd e (by simp [btV])⟩
    simp only [btV, Option.some.injEq] at e
    subst e
    exact ⟨fun r h1 h2 => absurd h2 (by omega), fun q' _ => ⟨rfl, rfl⟩⟩
  | succ n ih =>
    intro i w z
    rw [btV]
    by_cases c1 : op = 36 ∨ z (i * 4 + b) = false
    · rw [if_pos c1]
      by_cases c2 : fitsB (tot (i * 4 + b)) = true
      · rw [if_pos c2]
        have h := ih (i + 1) (up1 w (i * 4 + b) (tot (i * 4 + b)).toInt32) (up1 z (i * 4 + b) false)
        refine ⟨fun q e => ?_, fun e => ?_⟩
        · obtain ⟨h1, h2⟩ := h.1 q e
          refine ⟨fun r hr1 hr2 => ?_, fun q' hq' => ?_⟩
          · by_cases e : r = i
            · subst e
              have h3 := h2 (r * 4 + b) (fun r' h3 h4 => by omega)
              rw [up1_s, up1_s] at h3
              exact ⟨fun _ => ⟨c2, h3.1, h3.2⟩, fun c => absurd c1 c⟩
            · have h3 := h1 r (by omega) (by omega)
              rw [up1_n (by omega), up1_n (by omega)] at h3
              exact h3
          · have h3 := h2 q' (fun r h3 h4 => hq' r (by omega) (by omega))
            have h4 := hq' i (by omega) (by omega)
            rw [up1_n h4, up1_n h4] at h3
            exact h3
        · obtain ⟨r, h1, h2, h3, h4⟩ := h.2 e
          rw [up1_n (by omega)] at h3
          exact ⟨r, by omega, by omega, h3, h4⟩
      · rw [if_neg c2]
        exact ⟨fun q e => absurd e (by simp), fun _ => ⟨i, by omega, by omega, c1, by simpa using c2⟩⟩
    · rw [if_neg c1]
      have h := ih (i + 1) w z
      refine ⟨fun q e => ?_, fun e => ?_⟩
      · obtain ⟨h1, h2⟩ := h.1 q e
        refine ⟨fun r hr1 hr2 => ?_, fun q' hq' => h2 q' (fun r h3 h4 => hq' r (by omega) (by omega))⟩
        by_cases e : r = i
        · subst e
          exact ⟨fun c => absurd c c1, fun _ => h2 (r * 4 + b) (fun r' h3 h4 => by omega)⟩
        · exact h1 r (by omega) (by omega)
      · obtain ⟨r, h1, h2, h3, h4⟩ := h.2 e
        exact ⟨r, by omega, by omega, h3, h4⟩
/-- items before i are as they will be shown; the others are as they were gathered -/
def RelF (its : IL) (k : Nat) (A : AR) (w : Nat → Int32) (z : Nat → Bool) (tot : Nat → Int64) (o : Nat → Int32) (i : Nat) : Prop := (∀ r, r < k → o r = nI r) ∧ ∀ r, r < k → ∀ b, b < its.length → (b < i → w (r * 4 + b) = fV (agI its b) A (r * 4 + b) ∧ z (r * 4 + b) = fN (agI its b) A (r * 4 + b)) ∧ (i ≤ b → RC (agI its b) A w z tot (r * 4 + b))
theorem fits_nat {n : Nat} (h : n < 2 ^ 31) : fitsB (lN n) = true := by
  unfold fitsB
  have h1 : ¬ lN n < -2147483648 := by
    rw [Int64.lt_iff_toInt_lt, lN_toInt h]
    have : (-2147483648 : Int64).toInt = -2147483648 := by decide
    rw [this]
    omega
  have h2 : ¬ lN 2147483647 < lN n := by
    rw [lN_lt (by decide) h]
    omega
  simp [h1, h2]
/-- an item that no total belongs to is as it will be shown -/
theorem RC_fin {a : Int32} {A : AR} {w : Nat → Int32} {z : Nat → Bool} {tot : Nat → Int64} {q : Nat} (ha : a = -1 ∨ isAgg a) (h1 : ¬ a = nI 219) (h2 : ¬ a = nI 218) (h : RC a A w z tot q) : w q = fV a A q ∧ z q = fN a A q := by
  unfold fV fN
  rcases ha with rfl | ha
  · simp only [reduceIte]; exact h.1 rfl
  · rw [if_neg (isAgg_ne ha), if_neg (isAgg_ne ha), if_neg h1, if_neg h1, if_neg h2]
    have h3 := h.2.2.2 (by rcases ha with e | e | e | e; exact absurd e h2; exact absurd e h1; exact Or.inl e; exact Or.inr e)
    refine ⟨?_, h3.1⟩
    by_cases e : A.2.2.2 q = 0
    · rw [if_pos e]; exact h3.2.2 e
    · rw [if_neg e]; exact h3.2.1 e
section
variable (h : Nat) (x : Int32) (S : ST) (Q : Option AV → ST → Prop) (P post : WL) (jf : Nat) (its : IL) (k : Nat) (A : AR) (o : Nat → Int32) (tot : Nat → Int64) (g : Int32) (v : Nat → Int32) (m : Nat → Bool)
theorem run_totals (hP : PrC S P) (hr : gz S 2 15 0 = true) (hj : jf < 2) (h6 : gr S 2 6 0 = jf) (hl4 : its.length ≤ 4) (hai : ∀ b, b < its.length → agI its b = -1 ∨ isAgg (agI its b)) (hk24 : (∃ b, b < its.length ∧ isAgg (agI its b)) → k ≤ 24) (hcn : ∀ r, r < k → ∀ b, b < its.length → A.2.2.2 (r * 4 + b) ≤ 576) : ∀ (l : IL) (i a n : Nat) (pre : WL) (w : Nat → Int32) (z : Nat → Bool), P = pre ++ toW l i ++ post → a = pre.length → TL its l i → RelF its k A w z tot o i → n + (toW l i).length < 999999 →
    (OVF its k A → ∀ (w : Nat → Int32) (z : Nat → Bool) (a' n' : Nat), n' ≤ n + (toW l i).length → Q (some (vI (-1005))) (sl (flS (cS S a' n' v m 0 jf w z o k tot g) (-1005)) 2 19 0 (limL S x))) →
    ((∀ b, i ≤ b → b < its.length → agI its b = nI 218 → ∀ r, r < k → A.2.2.2 (r * 4 + b) ≠ 0 → fitsB (A.2.2.1 (r * 4 + b)) = true) → ∀ (w : Nat → Int32) (z : Nat → Bool), RelF its k A w z tot o its.length → RUN (h + 2) x (n + (toW l i).length) (cS S (a + (toW l i).length) (n + (toW l i).length) v m 0 jf w z o k tot g) Q) →
    RUN (h + 2) x n (cS S a n v m 0 jf w z o k tot g) Q := by
  intro l
  induction l with
  | nil =>
    intro i a n pre w z hp ha hT hR hn hF hY
    have : i = its.length := by have := hT.1; simpa using this
    subst this
    exact hY (fun b h1 h2 => absurd h2 (by omega)) w z hR
  | cons y l ih =>
    intro i a n pre w z hp ha hT hR hn hF hY
    obtain ⟨hT2, hag⟩ := TL_s hT
    have hi4 : i < its.length := by have := hT.1; simp at this; omega
    have key : ∀ (op : Nat), (op = 36 ∨ op = 37) → toW (y :: l) i = (nI op, nI i) :: toW l (i + 1) → isAgg (agI its i) → (∀ r, r < k → ∀ w z, RC (agI its i) A w z tot (r * 4 + i) → ((op = 36 ∨ z (r * 4 + i) = false) → (fitsB (tot (r * 4 + i)) = true → (tot (r * 4 + i)).toInt32 = fV (agI its i) A (r * 4 + i) ∧ false = fN (agI its i) A (r * 4 + i)) ∧ (fitsB (tot (r * 4 + i)) = false → agI its i = nI 218 ∧ A.2.2.2 (r * 4 + i) ≠ 0 ∧ fitsB (A.2.2.1 (r * 4 + i)) = false)) ∧ (¬ (op = 36 ∨ z (r * 4 + i) = false) → w (r * 4 + i) = fV (agI its i) A (r * 4 + i) ∧ z (r * 4 + i) = fN (agI its i) A (r * 4 + i) ∧ A.2.2.2 (r * 4 + i) = 0)) → (agI its i = nI 218 → ∀ r, r < k → tot (r * 4 + i) = A.2.2.1 (r * 4 + i)) → RUN (h + 2) x n (cS S a n v m 0 jf w z o k tot g) Q := by
      intro op hop eW hagg hcell htot
      rw [eW] at hp hn hF hY
      simp only [List.length_cons] at hn hF hY
      have hbt := bt_spec op i tot (by omega) k 0 w z
      refine run_F h x (rs (tg S tot g) jf w z o k) Q _ P a n op (nI i) v m 0 (cS_P hP ..) (by simp only [rs, tg, gi_si, gi_sl, gi_sz, gi_sr, gi_sa, gi_sb, gi_sy, gl_si, gl_sl, gl_sz, gl_sr, gl_sa, gl_sb, gl_sy, gz_si, gz_sl, gz_sz, gz_sr, gz_sa, gz_sb, gz_sy, gr_si, gr_sl, gr_sz, gr_sr, gr_sa, gr_sb, gr_sy, ga_si, ga_sl, ga_sz, ga_sr, ga_sa, ga_sb, ga_sy, gb_si, gb_sl, gb_sz, gb_sr, gb_sa, gb_sb, gb_sy, gy_si, gy_sl, gy_sz, gy_sr, gy_sa, gy_sb, gy_sy, reduceIte, Nat.reduceEqDiff, and_true, true_and, and_self, false_and, and_false]; exact hr) (by rw [hp, ha]; simp) (by omega) (by omega) (by omega) (c_fin h S (a + 1) (n + 1) v m 0 jf w z o k tot g op i hop hj h6 hr (hk24 ⟨i, hi4, hagg⟩) hR.1 (by omega)) ?_
      intro S' hS'
      unfold btQ at hS'
      cases hb : btV op i tot k 0 w z with
      | none =>
        rw [hb] at hS'
        obtain ⟨w', z', rfl⟩ := hS'
        obtain ⟨r, h1, h2, h3, h4⟩ := hbt.2 hb
        have hc := ((hcell r (by omega) w z ((hR.2 r (by omega) i hi4).2 (Nat.le_refl _))).1 h3).2 h4
        have hov : OVF its k A := ⟨i, hi4, hc.1, r, by omega, hc.2.1, hc.2.2⟩
        refine run_exit (h + 2) x (n + 1) _ Q (by simp only [flS, gi_si, gi_sl, gi_sz, gi_sr, gi_sa, gi_sb, gi_sy, gl_si, gl_sl, gl_sz, gl_sr, gl_sa, gl_sb, gl_sy, gz_si, gz_sl, gz_sz, gz_sr, gz_sa, gz_sb, gz_sy, gr_si, gr_sl, gr_sz, gr_sr, gr_sa, gr_sb, gr_sy, ga_si, ga_sl, ga_sz, ga_sr, ga_sa, ga_sb, ga_sy, gb_si, gb_sl, gb_sz, gb_sr, gb_sa, gb_sb, gb_sy, gy_si, gy_sl, gy_sz, gy_sr, gy_sa, gy_sb, gy_sy, reduceIte, Nat.reduceEqDiff, and_true, true_and, and_self, false_and, and_false]) (by omega) ?_
        have e1 : gi (flS (cS S (a + 1) (n + 1) v m 0 jf w' z' o k tot g) (-1005)) 2 14 0 = -1005 := by simp only [flS, gi_si, gi_sl, gi_sz, gi_sr, gi_sa, gi_sb, gi_sy, gl_si, gl_sl, gl_sz, gl_sr, gl_sa, gl_sb, gl_sy, gz_si, gz_sl, gz_sz, gz_sr, gz_sa, gz_sb, gz_sy, gr_si, gr_sl, gr_sz, gr_sr, gr_sa, gr_sb, gr_sy, ga_si, ga_sl, ga_sz, ga_sr, ga_sa, ga_sb, ga_sy, gb_si, gb_sl, gb_sz, gb_sr, gb_sa, gb_sb, gb_sy, gy_si, gy_sl, gy_sz, gy_sr, gy_sa, gy_sb, gy_sy, reduceIte, Nat.reduceEqDiff, and_true, true_and, and_self, false_and, and_false]
        have e2 : gl (flS (cS S (a + 1) (n + 1) v m 0 jf w' z' o k tot g) (-1005)) 2 18 0 = gl S 2 18 0 := by simp only [flS, cS, mp, rg, rs, tg, gi_si, gi_sl, gi_sz, gi_sr, gi_sa, gi_sb, gi_sy, gl_si, gl_sl, gl_sz, gl_sr, gl_sa, gl_sb, gl_sy, gz_si, gz_sl, gz_sz, gz_sr, gz_sa, gz_sb, gz_sy, gr_si, gr_sl, gr_sz, gr_sr, gr_sa, gr_sb, gr_sy, ga_si, ga_sl, ga_sz, ga_sr, ga_sa, ga_sb, ga_sy, gb_si, gb_sl, gb_sz, gb_sr, gb_sa, gb_sb, gb_sy, gy_si, gy_sl, gy_sz, gy_sr, gy_sa, gy_sb, gy_sy, reduceIte, Nat.reduceEqDiff, and_true, true_and, and_self, false_and, and_false]
        rw [e1, e2]
        exact hF hov w' z' (a + 1) (n + 1) (by omega)
      | some q =>
        rw [hb] at hS'
        simp only at hS'
        subst hS'
        obtain ⟨b1, b2⟩ := hbt.1 q hb
        refine ih (i + 1) (a + 1) (n + 1) (pre ++ [(nI op, nI i)]) q.1 q.2 (by rw [hp]; simp) (by simp [ha]) hT2 ⟨hR.1, fun r hr' b hb4 => ?_⟩ (by omega) ?_ ?_
        · have hRr := hR.2 r hr' b hb4
          by_cases e : b = i
          · subst e
            refine ⟨fun _ => ?_, fun c => absurd c (by omega)⟩
            have hc := hcell r hr' w z (hRr.2 (Nat.le_refl _))
            have hb3 := b1 r (by omega) (by omega)
            by_cases c : op = 36 ∨ z (r * 4 + b) = false
            · have h5 := hb3.1 c
              have h6 := (hc.1 c).1 h5.1
              rw [h5.2.1, h5.2.2]
              exact h6
            · have h5 := hb3.2 c
              have h6 := hc.2 c
              rw [h5.1, h5.2]
              exact ⟨h6.1, h6.2.1⟩
          · have hne := b2 (r * 4 + b) (fun r' h3 h4 => by omega)
            refine ⟨fun c => ?_, fun c => ?_⟩
            · rw [hne.1, hne.2]
              exact hRr.1 (by omega)
            · exact RC_same (hRr.2 (by omega)) rfl rfl rfl rfl hne.1 hne.2 rfl
        · intro hov w z a' n' hn'
          exact hF hov w z a' n' (by omega)
        · intro hfit w' z' hR'
          have := hY (fun b h1 h2 h3 r hr' h4 => ?_) w' z' hR'
          · rw [show n + 1 + (toW l (i + 1)).length = n + ((toW l (i + 1)).length + 1) by omega, show a + 1 + (toW l (i + 1)).length = a + ((toW l (i + 1)).length + 1) by omega]
            exact this
          · by_cases e : b = i
            · subst e
              have hc := hcell r hr' w z ((hR.2 r hr' b h2).2 (Nat.le_refl _))
              have hb3 := b1 r (by omega) (by omega)
              by_cases c : op = 36 ∨ z (r * 4 + b) = false
              · rw [← htot h3 r hr']
                exact (hb3.1 c).1
              · exact absurd (hc.2 c).2.2 h4
            · exact hfit b (by omega) h2 h3 r hr' h4
    by_cases c1 : agI its i = nI 219
    · have c1' : y.1 = nI 219 := by rw [← hag]; exact c1
      refine key 36 (Or.inl rfl) (by rw [toW, if_pos c1']; rfl) (by rw [c1]; exact Or.inr (Or.inl rfl)) ?_ (fun e => absurd (c1.symm.trans e) (by decide))
      intro r hr' w z hRC
      rw [c1] at hRC ⊢
      have ht := hRC.2.1 rfl
      have hcn' := hcn r hr' i hi4
      refine ⟨fun _ => ⟨fun _ => ?_, fun e => ?_⟩, fun c => absurd (Or.inl rfl) c⟩
      · rw [ht, lN_i]
        unfold fV fN
        simp only [show ¬ nI 219 = -1 by decide, reduceIte]
        exact ⟨trivial, trivial⟩
      · rw [ht, fits_nat (by omega)] at e
        exact absurd e (by decide)
    by_cases c2 : agI its i = nI 218
    · have c1' : ¬ y.1 = nI 219 := by rw [← hag]; exact c1
      have c2' : y.1 = nI 218 := by rw [← hag]; exact c2
      refine key 37 (Or.inr rfl) (by rw [toW, if_neg c1', if_pos c2']; rfl) (by rw [c2]; exact Or.inl rfl) ?_ ?_
      · intro r hr' w z hRC
        rw [c2] at hRC ⊢
        have ht := hRC.2.2.1 rfl
        unfold fV fN
        simp only [show ¬ nI 218 = -1 by decide, show ¬ nI 218 = nI 219 by decide, reduceIte, ht.1, ht.2.1, ht.2.2]
        refine ⟨fun c => ?_, fun c => ?_⟩
        · have h0 : A.2.2.2 (r * 4 + i) ≠ 0 := by
            rcases c with c | c
            · exact absurd c (by decide)
            · simpa using c
          rw [if_neg h0]
          exact ⟨fun _ => ⟨rfl, by simp [h0]⟩, fun e => ⟨by first | rfl | trivial, h0, e⟩⟩
        · have h0 : A.2.2.2 (r * 4 + i) = 0 := by
            by_cases e : A.2.2.2 (r * 4 + i) = 0
            · exact e
            · exact absurd (Or.inr (by simp [e])) c
          rw [if_pos h0]
          exact ⟨rfl, by first | rfl | trivial, h0⟩
      · intro _ r hr'
        have := ((hR.2 r hr' i hi4).2 (Nat.le_refl _))
        rw [c2] at this
        exact (this.2.2.1 rfl).1
    · have c1' : ¬ y.1 = nI 219 := by rw [← hag]; exact c1
      have c2' : ¬ y.1 = nI 218 := by rw [← hag]; exact c2
      have eW : toW (y :: l) i = toW l (i + 1) := by rw [toW, if_neg c1', if_neg c2']; rfl
      rw [eW] at hp hn hF hY
      refine ih (i + 1) a n pre w z hp ha hT2 ⟨hR.1, fun r hr' b hb4 => ?_⟩ hn hF (fun hfit => hY (fun b h1 h2 h3 => hfit b (by
        by_cases e : b = i
        · subst e; exact absurd h3 c2
        · omega) h2 h3))
      have hRr := hR.2 r hr' b hb4
      by_cases e : b = i
      · subst e
        exact ⟨fun _ => RC_fin (hai b hb4) c1 c2 (hRr.2 (Nat.le_refl _)), fun c => absurd c (by omega)⟩
      · exact ⟨fun c => hRr.1 (by omega), fun c => hRr.2 (by omega)⟩
end
