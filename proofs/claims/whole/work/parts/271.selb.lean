-- deps: 270
-- one row of a select: the items
section
variable {α : Type} (f : Nat → α) (r : Nat) (x : α)
theorem zr4_in {i : Nat} (hi : i < 4) : zr4 f r x (r * 4 + i) = x := by
  unfold zr4 up1
  have : i = 0 ∨ i = 1 ∨ i = 2 ∨ i = 3 := by omega
  rcases this with rfl | rfl | rfl | rfl <;> simp
theorem zr4_out {q : Nat} (hq : q < r * 4 ∨ r * 4 + 4 ≤ q) : zr4 f r x q = f q := by
  unfold zr4 up1
  rw [if_neg (by omega), if_neg (by omega), if_neg (by omega), if_neg (by omega)]
end
/-- the items that are still to come -/
def TL (its l : IL) (i : Nat) : Prop := i + l.length = its.length ∧ ∀ j, j < l.length → agI its (i + j) = (l.getD j (-1, [])).1
theorem TL_s {its l : IL} {x : Int32 × WL} {i : Nat} (h : TL its (x :: l) i) : TL its l (i + 1) ∧ agI its i = x.1 := by
  refine ⟨⟨by have := h.1; simp at this; omega, fun j hj => ?_⟩, ?_⟩
  · have := h.2 (j + 1) (by simp; omega)
    rw [show i + 1 + j = i + (j + 1) by omega, this]
    rfl
  · have := h.2 0 (by simp)
    exact this
section
variable (h : Nat) (x : Int32) (S : ST) (d : DB) (tc : Nat) (tj rw : Nat → Nat) (Q : Option AV → ST → Prop) (P post : WL) (jf : Nat)
theorem cS_P {S : ST} {P : WL} (hP : PrC S P) (jf : Nat) (w : Nat → Int64) (o : Nat → Int32) (k : Nat) (g : Int32) : PrC (rs (tg S g) jf w o k) P := by unfold PrC at *; simp only [rs, tg, gi_si, gi_sl, gi_sz, gi_sr, gi_sa, gi_sb, gi_sy, gl_si, gl_sl, gl_sz, gl_sr, gl_sa, gl_sb, gl_sy, gz_si, gz_sl, gz_sz, gz_sr, gz_sa, gz_sb, gz_sy, gr_si, gr_sl, gr_sz, gr_sr, gr_sa, gr_sb, gr_sy, ga_si, ga_sl, ga_sz, ga_sr, ga_sa, ga_sb, ga_sy, gb_si, gb_sl, gb_sz, gb_sr, gb_sa, gb_sb, gb_sy, gy_si, gy_sl, gy_sz, gy_sr, gy_sa, gy_sb, gy_sy, reduceIte, Nat.reduceEqDiff, and_true, true_and, and_self, false_and, and_false]; exact hP
theorem cS_E {S : ST} {d : DB} {tc : Nat} {tj rw : Nat → Nat} (hE : EnvC S d tc tj rw) (jf : Nat) (w : Nat → Int64) (o : Nat → Int32) (k : Nat) (g : Int32) : EnvC (rs (tg S g) jf w o k) d tc tj rw := by
  refine ⟨DbC_same hE.1 (by simp only [rs, tg, gi_si, gi_sl, gi_sz, gi_sr, gi_sa, gi_sb, gi_sy, gl_si, gl_sl, gl_sz, gl_sr, gl_sa, gl_sb, gl_sy, gz_si, gz_sl, gz_sz, gz_sr, gz_sa, gz_sb, gz_sy, gr_si, gr_sl, gr_sz, gr_sr, gr_sa, gr_sb, gr_sy, ga_si, ga_sl, ga_sz, ga_sr, ga_sa, ga_sb, ga_sy, gb_si, gb_sl, gb_sz, gb_sr, gb_sa, gb_sb, gb_sy, gy_si, gy_sl, gy_sz, gy_sr, gy_sa, gy_sb, gy_sy, reduceIte, Nat.reduceEqDiff, and_true, true_and, and_self, false_and, and_false]) (by intro k t; simp only [rs, tg, gi_si, gi_sl, gi_sz, gi_sr, gi_sa, gi_sb, gi_sy, gl_si, gl_sl, gl_sz, gl_sr, gl_sa, gl_sb, gl_sy, gz_si, gz_sl, gz_sz, gz_sr, gz_sa, gz_sb, gz_sy, gr_si, gr_sl, gr_sz, gr_sr, gr_sa, gr_sb, gr_sy, ga_si, ga_sl, ga_sz, ga_sr, ga_sa, ga_sb, ga_sy, gb_si, gb_sl, gb_sz, gb_sr, gb_sa, gb_sb, gb_sy, gy_si, gy_sl, gy_sz, gy_sr, gy_sa, gy_sb, gy_sy, reduceIte, Nat.reduceEqDiff, and_true, true_and, and_self, false_and, and_false]) (by intro t; simp only [rs, tg, gi_si, gi_sl, gi_sz, gi_sr, gi_sa, gi_sb, gi_sy, gl_si, gl_sl, gl_sz, gl_sr, gl_sa, gl_sb, gl_sy, gz_si, gz_sl, gz_sz, gz_sr, gz_sa, gz_sb, gz_sy, gr_si, gr_sl, gr_sz, gr_sr, gr_sa, gr_sb, gr_sy, ga_si, ga_sl, ga_sz, ga_sr, ga_sa, ga_sb, ga_sy, gb_si, gb_sl, gb_sz, gb_sr, gb_sa, gb_sb, gb_sy, gy_si, gy_sl, gy_sz, gy_sr, gy_sa, gy_sb, gy_sy, reduceIte, Nat.reduceEqDiff, and_true, true_and, and_self, false_and, and_false]; try exact ⟨rfl, rfl, rfl, rfl⟩), hE.2.1, fun i hi => ?_⟩
  have h1 := hE.2.2 i hi
  have h2 := hE.2.1
  have : i = 0 ∨ i = 1 := by omega
  rcases this with rfl | rfl
  · simp only [rs, tg, gi_si, gi_sl, gi_sz, gi_sr, gi_sa, gi_sb, gi_sy, gl_si, gl_sl, gl_sz, gl_sr, gl_sa, gl_sb, gl_sy, gz_si, gz_sl, gz_sz, gz_sr, gz_sa, gz_sb, gz_sy, gr_si, gr_sl, gr_sz, gr_sr, gr_sa, gr_sb, gr_sy, ga_si, ga_sl, ga_sz, ga_sr, ga_sa, ga_sb, ga_sy, gb_si, gb_sl, gb_sz, gb_sr, gb_sa, gb_sb, gb_sy, gy_si, gy_sl, gy_sz, gy_sr, gy_sa, gy_sb, gy_sy, reduceIte, Nat.reduceEqDiff, and_true, true_and, and_self, false_and, and_false] at h1 ⊢; exact h1
  · simp only [rs, tg, gi_si, gi_sl, gi_sz, gi_sr, gi_sa, gi_sb, gi_sy, gl_si, gl_sl, gl_sz, gl_sr, gl_sa, gl_sb, gl_sy, gz_si, gz_sl, gz_sz, gz_sr, gz_sa, gz_sb, gz_sy, gr_si, gr_sl, gr_sz, gr_sr, gr_sa, gr_sb, gr_sy, ga_si, ga_sl, ga_sz, ga_sr, ga_sa, ga_sb, ga_sy, gb_si, gb_sl, gb_sz, gb_sr, gb_sa, gb_sb, gb_sy, gy_si, gy_sl, gy_sz, gy_sr, gy_sa, gy_sb, gy_sy, reduceIte, Nat.reduceEqDiff, and_true, true_and, and_self, false_and, and_false] at h1 ⊢; exact h1
theorem cS_lim (S : ST) (x : Int32) (jf : Nat) (w : Nat → Int64) (o : Nat → Int32) (k : Nat) (g : Int32) : limL (rs (tg S g) jf w o k) x = limL S x := by simp only [limL, rs, tg, gi_si, gi_sl, gi_sz, gi_sr, gi_sa, gi_sb, gi_sy, gl_si, gl_sl, gl_sz, gl_sr, gl_sa, gl_sb, gl_sy, gz_si, gz_sl, gz_sz, gz_sr, gz_sa, gz_sb, gz_sy, gr_si, gr_sl, gr_sz, gr_sr, gr_sa, gr_sb, gr_sy, ga_si, ga_sl, ga_sz, ga_sr, ga_sa, ga_sb, ga_sy, gb_si, gb_sl, gb_sz, gb_sr, gb_sa, gb_sb, gb_sy, gy_si, gy_sl, gy_sz, gy_sr, gy_sa, gy_sb, gy_sy, reduceIte, Nat.reduceEqDiff, and_true, true_and, and_self, false_and, and_false]
/-- an item's words, then its collector: the value lies at the pile's ground -/
theorem run_item (hP : PrC S P) (hr : gz S 2 13 0 = true) (hE : EnvC S d tc tj rw) (pre ws : WL) (o' : Nat) (y : Int32) (R : ST → Prop) (a n : Nat) (v : Nat → Int32) (m : Nat → Bool) (w : Nat → Int64) (o : Nat → Int32) (k : Nat) (g : Int32) (hp : P = pre ++ ws ++ (nI o', y) :: post) (ha : a = pre.length) (hw : EH d tc tj ws 0 ∧ OV ws) (hn : n + ws.length + 1 < 1000000) (ho1 : 28 ≤ o') (ho2 : o' ≤ 35)
    (hF : ¬ (evX (ldE d tj rw) ws).1 = nI 0 → ∀ (a' n' : Nat) (v' : Nat → Int32) (m' : Nat → Bool) (t' : Nat), n' ≤ n + ws.length → Q (some (vI (evX (ldE d tj rw) ws).1)) (sl (flS (cS S a' n' v' m' t' jf w o k g) (evX (ldE d tj rw) ws).1) 2 17 0 (limL S x)))
    (hB : (evX (ldE d tj rw) ws).1 = nI 0 → ∀ (v' : Nat → Int32) (m' : Nat → Bool), v' 0 = (evX (ldE d tj rw) ws).2.1 → m' 0 = (evX (ldE d tj rw) ws).2.2 → ∃ S2 : ST, Ct MX2_collect (h + 4) [vR 2 0, vI (nI o'), vI y] (cS S (a + ws.length + 1) (n + ws.length + 1) v' m' (0 + 1) jf w o k g) (fun r S' => r = none ∧ S' = S2) ∧ RUN (h + 2) x (n + ws.length + 1) S2 Q) : RUN (h + 2) x n (cS S a n v m 0 jf w o k g) Q := by
  obtain ⟨hEH, hOV⟩ := hw
  have hx := evs_X (ld := ldE d tj rw) (v := v) (m := m) (WA_EH hEH) hOV
  subst ha
  refine run_words (h + 2) x (rs (tg S g) jf w o k) d tc tj rw Q P ((nI o', y) :: post) (cS_P hP ..) (by simp only [rs, tg, gi_si, gi_sl, gi_sz, gi_sr, gi_sa, gi_sb, gi_sy, gl_si, gl_sl, gl_sz, gl_sr, gl_sa, gl_sb, gl_sy, gz_si, gz_sl, gz_sz, gz_sr, gz_sa, gz_sb, gz_sy, gr_si, gr_sl, gr_sz, gr_sr, gr_sa, gr_sb, gr_sy, ga_si, ga_sl, ga_sz, ga_sr, ga_sa, ga_sb, ga_sy, gb_si, gb_sl, gb_sz, gb_sr, gb_sa, gb_sb, gb_sy, gy_si, gy_sl, gy_sz, gy_sr, gy_sa, gy_sb, gy_sy, reduceIte, Nat.reduceEqDiff, and_true, true_and, and_self, false_and, and_false]; exact hr) (cS_E hE ..) ws pre [] v m 0 n hOV.2 trivial hp hEH (by decide) (by omega) (fun h0 => ?_) (fun h0 a' n' v' m' t' hn' => ?_)
  · rw [hx.1] at h0
    have h2 := hx.2 h0
    rw [h2.2.2]
    obtain ⟨S2, hC, hR⟩ := hB h0 _ _ h2.1 h2.2.1
    refine run_L h x (rs (tg S g) jf w o k) Q (fun S' => S' = S2) P _ _ o' y _ _ 1 (cS_P hP ..) (by simp only [rs, tg, gi_si, gi_sl, gi_sz, gi_sr, gi_sa, gi_sb, gi_sy, gl_si, gl_sl, gl_sz, gl_sr, gl_sa, gl_sb, gl_sy, gz_si, gz_sl, gz_sz, gz_sr, gz_sa, gz_sb, gz_sy, gr_si, gr_sl, gr_sz, gr_sr, gr_sa, gr_sb, gr_sy, ga_si, ga_sl, ga_sz, ga_sr, ga_sa, ga_sb, ga_sy, gb_si, gb_sl, gb_sz, gb_sr, gb_sa, gb_sb, gb_sy, gy_si, gy_sl, gy_sz, gy_sr, gy_sa, gy_sb, gy_sy, reduceIte, Nat.reduceEqDiff, and_true, true_and, and_self, false_and, and_false]; exact hr) ?_ (by omega) ho1 ho2 hC ?_
    · rw [hp, List.getElem?_append_right (by simp)]
      simp
    · rintro S' rfl
      exact hR
  · rw [hx.1] at h0 ⊢
    rw [cS_lim]
    exact hF h0 a' n' v' m' t' hn'
theorem its_gather (its : IL) (gb0 : Bool) (hP : PrC S P) (hr : gz S 2 13 0 = true) (hE : EnvC S d tc tj rw) (hj : jf < 2) (h6 : gr S 2 4 0 = jf) (k g : Nat) (o : Nat → Int32) (hk : k ≤ 576) (hg : g < k) (hl4 : its.length ≤ 4) : ∀ (l : IL) (i a n : Nat) (pre : WL) (v : Nat → Int32) (m : Nat → Bool) (w : Nat → Int64) (A : AR), P = pre ++ itW gb0 l i ++ post → a = pre.length → TL its l i → (∀ y, y ∈ l → isAgg y.1 ∧ EH d tc tj y.2 0 ∧ OV y.2) → (∀ b, i ≤ b → b < its.length → SBd A (g * 4 + b)) → RelS its k A w o → n + (itW gb0 l i).length < 1000000 →
    (¬ itF (ldE d tj rw) l = nI 0 → ∀ (w : Nat → Int64) (a' n' : Nat) (v' : Nat → Int32) (m' : Nat → Bool) (t' : Nat), n' ≤ n + (itW gb0 l i).length → Q (some (vI (itF (ldE d tj rw) l))) (sl (flS (cS S a' n' v' m' t' jf w o k (nI g)) (itF (ldE d tj rw) l)) 2 17 0 (limL S x))) →
    (itF (ldE d tj rw) l = nI 0 → ∀ (w : Nat → Int64) (v' : Nat → Int32) (m' : Nat → Bool), RelS its k (comes (ldE d tj rw) l i g A) w o → RUN (h + 2) x (n + (itW gb0 l i).length) (cS S (a + (itW gb0 l i).length) (n + (itW gb0 l i).length) v' m' 0 jf w o k (nI g)) Q) →
    RUN (h + 2) x n (cS S a n v m 0 jf w o k (nI g)) Q := by
  intro l
  induction l with
  | nil => intro i a n pre v m w A hp ha hT hI hB hR hn hF hY; exact hY rfl w v m hR
  | cons y l ih =>
    intro i a n pre v m w A hp ha hT hI hB hR hn hF hY
    obtain ⟨hT2, hag⟩ := TL_s hT
    obtain ⟨ya, yw⟩ := y
    have hy := hI (ya, yw) (by simp)
    obtain ⟨ec, hop⟩ := cl1_op (gr := gb0) hy.1
    have ho28 : 28 ≤ opOf ya ∧ opOf ya ≤ 35 := by rcases hop with q | q | q | q <;> rw [q] <;> decide
    have hi4 : i < its.length := by have := hT.1; simp at this; omega
    have eW : itW gb0 ((ya, yw) :: l) i = yw ++ (nI (opOf ya), nI i) :: itW gb0 l (i + 1) := by rw [itW, ec]
    have eF : itF (ldE d tj rw) ((ya, yw) :: l) = if (evX (ldE d tj rw) yw).1 = nI 0 then itF (ldE d tj rw) l else (evX (ldE d tj rw) yw).1 := rfl
    rw [eW] at hp hn hF hY
    simp only [List.length_append, List.length_cons] at hn hF hY
    rw [eF] at hF hY
    have hrest : ∀ (n' : Nat) (w' : Nat → Int64) (v' : Nat → Int32) (m' : Nat → Bool), (evX (ldE d tj rw) yw).1 = nI 0 → n' = n + yw.length + 1 → RelS its k (come1 ya (g * 4 + i) (evX (ldE d tj rw) yw).2 A) w' o → RUN (h + 2) x n' (cS S (a + yw.length + 1) n' v' m' 0 jf w' o k (nI g)) Q := by
      intro n' w' v' m' h0 hn' hR'
      refine ih (i + 1) (a + yw.length + 1) n' (pre ++ yw ++ [(nI (opOf ya), nI i)]) v' m' w' _ (by rw [hp]; simp) (by simp [ha]; omega) hT2 (fun y hy => hI y (by simp [hy])) (fun b hb1 hb2 => ?_) hR' (by omega) ?_ ?_
      · have e := come1_n (A := A) (v := (evX (ldE d tj rw) yw).2) (a := ya) (show g * 4 + b ≠ g * 4 + i by omega)
        exact SBd_same (hB b (by omega) hb2) e.2.2.1 e.2.2.2
      · intro hf w a' n'' v' m' t' hn''
        have := hF (by rw [if_pos h0]; exact hf) w a' n'' v' m' t' (by omega)
        rw [if_pos h0] at this
        exact this
      · intro hf w v' m' hR''
        have := hY (by rw [if_pos h0]; exact hf) w v' m' hR''
        rw [show n' + (itW gb0 l (i + 1)).length = n + (yw.length + ((itW gb0 l (i + 1)).length + 1)) by omega, show a + yw.length + 1 + (itW gb0 l (i + 1)).length = a + (yw.length + ((itW gb0 l (i + 1)).length + 1)) by omega]
        exact this
    refine run_item h x S d tc tj rw Q P (itW gb0 l (i + 1) ++ post) jf hP hr hE pre yw (opOf ya) (nI i) (fun _ => True) a n v m w o k (nI g) (by rw [hp]; simp) ha hy.2 (by omega) ho28.1 ho28.2 ?_ ?_
    · intro h0 a' n' v' m' t' hn'
      have := hF (by rw [if_neg h0]; exact h0) w a' n' v' m' t' (by omega)
      rw [if_neg h0] at this
      exact this
    · intro h0 v' m' e1 e2
      by_cases hm : (evX (ldE d tj rw) yw).2.2 = true
      · refine ⟨_, c_colMiss h S _ _ v' m' 0 jf w o k (nI g) (opOf ya) (nI i) hop (by decide) (by rw [e2]; exact hm), ?_⟩
        refine hrest _ w v' m' h0 rfl ?_
        rw [come1_miss hy.1 hm]
        exact hR
      · have hm' : (evX (ldE d tj rw) yw).2.2 = false := by simpa using hm
        refine ⟨_, c_colGive h S _ _ v' m' 0 jf w o k (nI g) (opOf ya) g i hop (by decide) (by rw [e2]; exact hm') rfl hj h6 hk (hR.1 g hg) hg (by omega), ?_⟩
        rw [e1]
        refine hrest _ _ v' m' h0 rfl ⟨hR.1, ?_⟩
        intro r hr' b hb
        by_cases hq : r * 4 + b = g * 4 + i
        · have hrb : r = g ∧ b = i := by omega
          obtain ⟨rfl, rfl⟩ := hrb
          have := hR.2 r hr' b hb
          rw [hag] at this ⊢
          exact RC_give hy.1 hm' (hB b (Nat.le_refl _) hb) this
        · exact RC_other (hR.2 r hr' b hb) hq
end
