-- deps: 338
-- the model: what a statement leaves as it was; where
def pkM (c : Nat) : Bool := decide (c = 11 ∨ (40 ≤ c ∧ c ≤ 69))
/-- only the model's own cells have changed, its result has not -/
def FrM (C S' : ST) : Prop := AG pkM C S' ∧ gi S' 11 6 0 = gi C 11 6 0 ∧ gi S' 11 30 0 = gi C 11 30 0 ∧ gi S' 11 31 0 = gi C 11 31 0 ∧ ga S' 60 0 = ga C 60 0 ∧ gy S' 61 0 = gy C 61 0
section
variable {C X : ST}
theorem FrM_r : FrM C C := ⟨AG_refl, rfl, rfl, rfl, rfl, rfl⟩
theorem FrM_t {Y : ST} (h : FrM C X) (h' : FrM X Y) : FrM C Y := ⟨AG_trans h.1 h'.1, h'.2.1.trans h.2.1, h'.2.2.1.trans h.2.2.1, h'.2.2.2.1.trans h.2.2.2.1, h'.2.2.2.2.1.trans h.2.2.2.2.1, h'.2.2.2.2.2.trans h.2.2.2.2.2⟩
theorem FrM_sa {k : Nat} {g : Nat → Int32} (h : FrM C X) (hk : pkM k = true) (h60 : 60 ≠ k) : FrM C (sa X k 0 g) := by
  refine FrM_t h ⟨AG_sa AG_refl hk, ?_⟩
  simp only [gi_si, gi_sl, gi_sz, gi_sr, gi_sa, gi_sb, gi_sy, gl_si, gl_sl, gl_sz, gl_sr, gl_sa, gl_sb, gl_sy, gz_si, gz_sl, gz_sz, gz_sr, gz_sa, gz_sb, gz_sy, gr_si, gr_sl, gr_sz, gr_sr, gr_sa, gr_sb, gr_sy, ga_si, ga_sl, ga_sz, ga_sr, ga_sa, ga_sb, ga_sy, gb_si, gb_sl, gb_sz, gb_sr, gb_sa, gb_sb, gb_sy, gy_si, gy_sl, gy_sz, gy_sr, gy_sa, gy_sb, gy_sy, reduceIte, Nat.reduceEqDiff, and_true, true_and, and_self, false_and, and_false, h60, false_and, reduceIte, and_self]
theorem FrM_sb {k : Nat} {g : Nat → Int64} (h : FrM C X) (hk : pkM k = true) : FrM C (sb X k 0 g) := by
  refine FrM_t h ⟨AG_sb AG_refl hk, ?_⟩
  simp only [gi_si, gi_sl, gi_sz, gi_sr, gi_sa, gi_sb, gi_sy, gl_si, gl_sl, gl_sz, gl_sr, gl_sa, gl_sb, gl_sy, gz_si, gz_sl, gz_sz, gz_sr, gz_sa, gz_sb, gz_sy, gr_si, gr_sl, gr_sz, gr_sr, gr_sa, gr_sb, gr_sy, ga_si, ga_sl, ga_sz, ga_sr, ga_sa, ga_sb, ga_sy, gb_si, gb_sl, gb_sz, gb_sr, gb_sa, gb_sb, gb_sy, gy_si, gy_sl, gy_sz, gy_sr, gy_sa, gy_sb, gy_sy, reduceIte, Nat.reduceEqDiff, and_true, true_and, and_self, false_and, and_false, and_self]
theorem FrM_sy {k : Nat} {g : Nat → Bool} (h : FrM C X) (hk : pkM k = true) (h61 : 61 ≠ k) : FrM C (sy X k 0 g) := by
  refine FrM_t h ⟨AG_sy AG_refl hk, ?_⟩
  simp only [gi_si, gi_sl, gi_sz, gi_sr, gi_sa, gi_sb, gi_sy, gl_si, gl_sl, gl_sz, gl_sr, gl_sa, gl_sb, gl_sy, gz_si, gz_sl, gz_sz, gz_sr, gz_sa, gz_sb, gz_sy, gr_si, gr_sl, gr_sz, gr_sr, gr_sa, gr_sb, gr_sy, ga_si, ga_sl, ga_sz, ga_sr, ga_sa, ga_sb, ga_sy, gb_si, gb_sl, gb_sz, gb_sr, gb_sa, gb_sb, gb_sy, gy_si, gy_sl, gy_sz, gy_sr, gy_sa, gy_sb, gy_sy, reduceIte, Nat.reduceEqDiff, and_true, true_and, and_self, false_and, and_false, h61, false_and, reduceIte, and_self]
theorem FrM_si {p : Nat} {v : Int32} (h : FrM C X) (h6 : 6 ≠ p) (h30 : 30 ≠ p) (h31 : 31 ≠ p) : FrM C (si X 11 p 0 v) := by
  refine FrM_t h ⟨AG_si AG_refl rfl, ?_⟩
  simp only [gi_si, gi_sl, gi_sz, gi_sr, gi_sa, gi_sb, gi_sy, gl_si, gl_sl, gl_sz, gl_sr, gl_sa, gl_sb, gl_sy, gz_si, gz_sl, gz_sz, gz_sr, gz_sa, gz_sb, gz_sy, gr_si, gr_sl, gr_sz, gr_sr, gr_sa, gr_sb, gr_sy, ga_si, ga_sl, ga_sz, ga_sr, ga_sa, ga_sb, ga_sy, gb_si, gb_sl, gb_sz, gb_sr, gb_sa, gb_sb, gb_sy, gy_si, gy_sl, gy_sz, gy_sr, gy_sa, gy_sb, gy_sy, reduceIte, Nat.reduceEqDiff, and_true, true_and, and_self, false_and, and_false, h6, h30, h31, false_and, and_false, reduceIte, and_self]
theorem FrM_sz {p : Nat} {v : Bool} (h : FrM C X) : FrM C (sz X 11 p 0 v) := by
  refine FrM_t h ⟨AG_sz AG_refl rfl, ?_⟩
  simp only [gi_si, gi_sl, gi_sz, gi_sr, gi_sa, gi_sb, gi_sy, gl_si, gl_sl, gl_sz, gl_sr, gl_sa, gl_sb, gl_sy, gz_si, gz_sl, gz_sz, gz_sr, gz_sa, gz_sb, gz_sy, gr_si, gr_sl, gr_sz, gr_sr, gr_sa, gr_sb, gr_sy, ga_si, ga_sl, ga_sz, ga_sr, ga_sa, ga_sb, ga_sy, gb_si, gb_sl, gb_sz, gb_sr, gb_sa, gb_sb, gb_sy, gy_si, gy_sl, gy_sz, gy_sr, gy_sa, gy_sb, gy_sy, reduceIte, Nat.reduceEqDiff, and_true, true_and, and_self, false_and, and_false, and_self]
theorem FrM_eS (f : Int32) (z : Bool) (h : FrM C X) : FrM C (eS X f z) := FrM_sz (FrM_si h (by decide) (by decide) (by decide))
theorem FrM_pO (O : OA) (h : FrM C X) : FrM C (pO X O) := FrM_sa (FrM_sa h rfl (by decide)) rfl (by decide)
theorem FrM_lk1 (d : DB) (x : Int32) (h : FrM C X) : FrM C (lk1 X d x) := FrM_sa h rfl (by decide)
theorem FrM_lk2 (d : DB) (x : Int32) (h : FrM C X) : FrM C (lk2 X d x) := FrM_sa h rfl (by decide)
theorem FrM_wN (g5 : Nat → Int32) (g6 : Nat → Bool) (h : FrM C X) : FrM C (wN X g5 g6) := FrM_sy (FrM_sa h rfl (by decide)) rfl (by decide)
theorem AbsM_pO {d : DB} (O : OA) (h : AbsM X d) : AbsM (pO X O) d := by
  unfold AbsM at h ⊢
  simp only [pO, gi_si, gi_sl, gi_sz, gi_sr, gi_sa, gi_sb, gi_sy, gl_si, gl_sl, gl_sz, gl_sr, gl_sa, gl_sb, gl_sy, gz_si, gz_sl, gz_sz, gz_sr, gz_sa, gz_sb, gz_sy, gr_si, gr_sl, gr_sz, gr_sr, gr_sa, gr_sb, gr_sy, ga_si, ga_sl, ga_sz, ga_sr, ga_sa, ga_sb, ga_sy, gb_si, gb_sl, gb_sz, gb_sr, gb_sa, gb_sb, gb_sy, gy_si, gy_sl, gy_sz, gy_sr, gy_sa, gy_sb, gy_sy, reduceIte, Nat.reduceEqDiff, and_true, true_and, and_self, false_and, and_false]
  exact h
theorem pO_id (S : ST) : pO S (oOf S) = S := by (apply ST_ext <;> intros <;> (try simp only [pO, oOf, gi_si, gi_sl, gi_sz, gi_sr, gi_sa, gi_sb, gi_sy, gl_si, gl_sl, gl_sz, gl_sr, gl_sa, gl_sb, gl_sy, gz_si, gz_sl, gz_sz, gz_sr, gz_sa, gz_sb, gz_sy, gr_si, gr_sl, gr_sz, gr_sr, gr_sa, gr_sb, gr_sy, ga_si, ga_sl, ga_sz, ga_sr, ga_sa, ga_sb, ga_sy, gb_si, gb_sl, gb_sz, gb_sr, gb_sa, gb_sb, gb_sy, gy_si, gy_sl, gy_sz, gy_sr, gy_sa, gy_sb, gy_sy, reduceIte, Nat.reduceEqDiff, and_true, true_and, and_self, false_and, and_false]) <;> (try ((repeat' split) <;> simp_all)))
theorem pO_kOf (O : OA) : kOf (pO X O) = kOf X := by simp only [kOf, pO, gi_si, gi_sl, gi_sz, gi_sr, gi_sa, gi_sb, gi_sy, gl_si, gl_sl, gl_sz, gl_sr, gl_sa, gl_sb, gl_sy, gz_si, gz_sl, gz_sz, gz_sr, gz_sa, gz_sb, gz_sy, gr_si, gr_sl, gr_sz, gr_sr, gr_sa, gr_sb, gr_sy, ga_si, ga_sl, ga_sz, ga_sr, ga_sa, ga_sb, ga_sy, gb_si, gb_sl, gb_sz, gb_sr, gb_sa, gb_sb, gb_sy, gy_si, gy_sl, gy_sz, gy_sr, gy_sa, gy_sb, gy_sy, reduceIte, Nat.reduceEqDiff, and_true, true_and, and_self, false_and, and_false]
theorem pO_oOf (O : OA) : oOf (pO X O) = O := by simp only [oOf, pO, gi_si, gi_sl, gi_sz, gi_sr, gi_sa, gi_sb, gi_sy, gl_si, gl_sl, gl_sz, gl_sr, gl_sa, gl_sb, gl_sy, gz_si, gz_sl, gz_sz, gz_sr, gz_sa, gz_sb, gz_sy, gr_si, gr_sl, gr_sz, gr_sr, gr_sa, gr_sb, gr_sy, ga_si, ga_sl, ga_sz, ga_sr, ga_sa, ga_sb, ga_sy, gb_si, gb_sl, gb_sz, gb_sr, gb_sa, gb_sb, gb_sy, gy_si, gy_sl, gy_sz, gy_sr, gy_sa, gy_sb, gy_sy, reduceIte, Nat.reduceEqDiff, and_true, true_and, and_self, false_and, and_false]
theorem pO_pO (O O' : OA) : pO (pO X O) O' = pO X O' := by (apply ST_ext <;> intros <;> (try simp only [pO, gi_si, gi_sl, gi_sz, gi_sr, gi_sa, gi_sb, gi_sy, gl_si, gl_sl, gl_sz, gl_sr, gl_sa, gl_sb, gl_sy, gz_si, gz_sl, gz_sz, gz_sr, gz_sa, gz_sb, gz_sy, gr_si, gr_sl, gr_sz, gr_sr, gr_sa, gr_sb, gr_sy, ga_si, ga_sl, ga_sz, ga_sr, ga_sa, ga_sb, ga_sy, gb_si, gb_sl, gb_sz, gb_sr, gb_sa, gb_sb, gb_sy, gy_si, gy_sl, gy_sz, gy_sr, gy_sa, gy_sb, gy_sy, reduceIte, Nat.reduceEqDiff, and_true, true_and, and_self, false_and, and_false]) <;> (try ((repeat' split) <;> simp_all)))
theorem lk1_kOf (d : DB) (x : Int32) : kOf (lk1 X d x) = kOf X := by simp only [kOf, lk1, gi_si, gi_sl, gi_sz, gi_sr, gi_sa, gi_sb, gi_sy, gl_si, gl_sl, gl_sz, gl_sr, gl_sa, gl_sb, gl_sy, gz_si, gz_sl, gz_sz, gz_sr, gz_sa, gz_sb, gz_sy, gr_si, gr_sl, gr_sz, gr_sr, gr_sa, gr_sb, gr_sy, ga_si, ga_sl, ga_sz, ga_sr, ga_sa, ga_sb, ga_sy, gb_si, gb_sl, gb_sz, gb_sr, gb_sa, gb_sb, gb_sy, gy_si, gy_sl, gy_sz, gy_sr, gy_sa, gy_sb, gy_sy, reduceIte, Nat.reduceEqDiff, and_true, true_and, and_self, false_and, and_false]
theorem lk1_oOf (d : DB) (x : Int32) : oOf (lk1 X d x) = oOf X := by simp only [oOf, lk1, gi_si, gi_sl, gi_sz, gi_sr, gi_sa, gi_sb, gi_sy, gl_si, gl_sl, gl_sz, gl_sr, gl_sa, gl_sb, gl_sy, gz_si, gz_sl, gz_sz, gz_sr, gz_sa, gz_sb, gz_sy, gr_si, gr_sl, gr_sz, gr_sr, gr_sa, gr_sb, gr_sy, ga_si, ga_sl, ga_sz, ga_sr, ga_sa, ga_sb, ga_sy, gb_si, gb_sl, gb_sz, gb_sr, gb_sa, gb_sb, gb_sy, gy_si, gy_sl, gy_sz, gy_sr, gy_sa, gy_sb, gy_sy, reduceIte, Nat.reduceEqDiff, and_true, true_and, and_self, false_and, and_false]
theorem lk2_kOf (d : DB) (x : Int32) : kOf (lk2 X d x) = kOf X := by simp only [kOf, lk2, gi_si, gi_sl, gi_sz, gi_sr, gi_sa, gi_sb, gi_sy, gl_si, gl_sl, gl_sz, gl_sr, gl_sa, gl_sb, gl_sy, gz_si, gz_sl, gz_sz, gz_sr, gz_sa, gz_sb, gz_sy, gr_si, gr_sl, gr_sz, gr_sr, gr_sa, gr_sb, gr_sy, ga_si, ga_sl, ga_sz, ga_sr, ga_sa, ga_sb, ga_sy, gb_si, gb_sl, gb_sz, gb_sr, gb_sa, gb_sb, gb_sy, gy_si, gy_sl, gy_sz, gy_sr, gy_sa, gy_sb, gy_sy, reduceIte, Nat.reduceEqDiff, and_true, true_and, and_self, false_and, and_false]
theorem lk2_oOf (d : DB) (x : Int32) : oOf (lk2 X d x) = oOf X := by simp only [oOf, lk2, gi_si, gi_sl, gi_sz, gi_sr, gi_sa, gi_sb, gi_sy, gl_si, gl_sl, gl_sz, gl_sr, gl_sa, gl_sb, gl_sy, gz_si, gz_sl, gz_sz, gz_sr, gz_sa, gz_sb, gz_sy, gr_si, gr_sl, gr_sz, gr_sr, gr_sa, gr_sb, gr_sy, ga_si, ga_sl, ga_sz, ga_sr, ga_sa, ga_sb, ga_sy, gb_si, gb_sl, gb_sz, gb_sr, gb_sa, gb_sb, gb_sy, gy_si, gy_sl, gy_sz, gy_sr, gy_sa, gy_sb, gy_sy, reduceIte, Nat.reduceEqDiff, and_true, true_and, and_self, false_and, and_false]
end
/-- what a statement of the model answers and leaves, when it could be read -/
def ResM (S S' : ST) (o : Option SEL) : Prop := match o with
  | none => gi S' 11 30 0 = gi S 11 30 0 ∧ gi S' 11 31 0 = gi S 11 31 0 ∧ ga S' 60 0 = ga S 60 0 ∧ gy S' 61 0 = gy S 61 0
  | some s => ∃ p : Nat → Nat, Ord s.1 s.2.2.2.2 s.2.2.2.1 s.2.1 s.2.2.1 p ∧ s.2.2.2.1 ≤ 576 ∧ s.1.length ≤ 4 ∧ gi S' 11 30 0 = nI s.2.2.2.1 ∧ gi S' 11 31 0 = nI s.1.length ∧ ∀ i, i < s.2.2.2.1 → ∀ b, b < s.1.length → ga S' 60 0 (4 * i + b) = fV (agI s.1 b) s.2.2.2.2 (p i * 4 + b) ∧ gy S' 61 0 (4 * i + b) = fN (agI s.1 b) s.2.2.2.2 (p i * 4 + b)
def StQ (C : ST) (o : OUT) (r : Option AV) (S' : ST) : Prop := ∃ n f : Int32, r = some (vI n) ∧ gi S' 11 28 0 = f ∧ (if f = nI 0 then n else f) = o.1 ∧ AG pkM C S' ∧ gi S' 11 6 0 = gi C 11 6 0 ∧ AbsM S' o.2.1 ∧ ResM C S' o.2.2
theorem StQ_f {C X : ST} {o : OUT} {d : DB} {f : Int32} {z : Bool} (n : Int32) (hf : ¬ f = nI 0) (ho : o = (f, d, none)) (hF : FrM C X) (hA : AbsM X d) : StQ C o (some (vI n)) (eS X f z) := by
  have := FrM_eS f z hF
  subst ho
  exact ⟨n, f, rfl, eS_f _ _ _, if_neg hf, this.1, this.2.1, AbsM_e _ _ hA, this.2.2⟩
theorem pX_pos {T : WL} {a : Nat} (ha : a ≤ T.length) (hT : T.length ≤ 200) : a ≤ (pX T a).1 ∧ (pX T a).1 ≤ T.length := by
  obtain ⟨b, a', x, h1, h2, h3, h4, h5⟩ := PI_E (T := T) 20 a ha
  have := h5 [] (by simp only [List.length_nil]; omega)
  unfold pX
  rw [this]
  exact ⟨h1, h2⟩
theorem pCn_pos {T : WL} {a : Nat} (ha : a ≤ T.length) (hT : T.length ≤ 200) : a ≤ (pCn T a).1 ∧ (pCn T a).1 ≤ T.length := by
  obtain ⟨b, a', x, h1, h2, h3, h4, h5⟩ := PI_C (T := T) 20 a ha
  have := h5 [] (by simp only [List.length_nil]; omega)
  unfold pCn
  rw [this]
  exact ⟨h1, h2⟩
theorem pb_fst {α β : Type} {x : Nat × Option α} {f : Nat → α → Nat × Option β} {n : Nat} (h : x.1 ≤ n) (hf : ∀ y, x.2 = some y → (f x.1 y).1 ≤ n) : (pb x f).1 ≤ n := by
  unfold pb
  cases hx : x.2 with
  | none => exact h
  | some y => exact hf y hx
theorem pWh_pos {T : WL} {a : Nat} (ha : a ≤ T.length) (hT : T.length ≤ 200) : (pWh T a).1 ≤ T.length := by
  unfold pWh
  by_cases q : kd T a = nI 207
  · rw [if_pos q]
    have := pCn_pos (a := a + 1) (kd_in q (by decide)) hT
    exact pb_fst this.2 (fun y _ => this.2)
  · rw [if_neg q]
    exact ha
/-- the knot of a condition that was read -/
def cnK (T : WL) (K : KA) (c0 c1 : Nat) (k : Int32) (c : Option WL) : Prop := match c with
  | none => k = -1
  | some x => ∃ n, k = nI n ∧ (c0 ≤ n ∧ n < c1) ∧ rC T K n x
def WhT (S : ST) (T : WL) (c : Nat) (K : KA) (a a' : Nat) (y : Option WL) (r : Option AV) (S' : ST) : Prop := ∃ k c' K', r = some (vI k) ∧ S' = kS S a' (-1) 0 c' K' ∧ KE c K K' ∧ (c ≤ c' ∧ c' + a ≤ c + a') ∧ cnK T K' c c' k y
def WhF (S : ST) (T : WL) (a' : Nat) (r : Option AV) (S' : ST) : Prop := ∃ k c' K' b, r = some (vI k) ∧ S' = kS S b (nI a') 0 c' K' ∧ b ≤ T.length
section
variable (h : Nat) (S : ST) (T : WL) (a c : Nat) (K : KA) (a' : Nat)
theorem m_wh_t (y : Option WL) (hT : MT S T) (ha : a ≤ T.length) (hc : c + (T.length - a) ≤ 210) (e : pWh T a = (a', some y)) : Ct MX11_where (h + 69) [vR 11 0] (kS S a (-1) 0 c K) (WhT S T c K a a' y) := by
  unfold pWh at e
  by_cases q : kd T a = nI 207
  · rw [if_pos q] at e
    cases hp : pCn T (a + 1) with
    | mk a1 o =>
      rw [hp] at e
      cases o with
      | none => simp [pb] at e
      | some x =>
        simp only [pb, Prod.mk.injEq, Option.some.injEq] at e
        obtain ⟨rfl, rfl⟩ := e
        refine Ct_mono (m_where_t h S T a c K a1 x hT hc q hp) ?_
        rintro r S' ⟨k, c', K', rfl, rfl, hE, hb, hG⟩
        exact ⟨nI k, c', K', rfl, rfl, hE, by omega, k, rfl, by omega, hG⟩
  · rw [if_neg q] at e
    simp only [Prod.mk.injEq, Option.some.injEq] at e
    obtain ⟨rfl, rfl⟩ := e
    refine Ct_mono (m_where_0 h S T a c K hT ha q) ?_
    rintro r S' ⟨rfl, rfl⟩
    exact ⟨-1, c, K, rfl, rfl, KE_r c K, by omega, rfl⟩
theorem m_wh_n (hT : MT S T) (hc : c + (T.length - a) ≤ 210) (e : pWh T a = (a', none)) : Ct MX11_where (h + 69) [vR 11 0] (kS S a (-1) 0 c K) (WhF S T a') := by
  unfold pWh at e
  by_cases q : kd T a = nI 207
  · rw [if_pos q] at e
    cases hp : pCn T (a + 1) with
    | mk a1 o =>
      rw [hp] at e
      cases o with
      | some x => simp [pb] at e
      | none =>
        simp only [pb, Prod.mk.injEq, and_true] at e
        subst e
        refine Ct_mono (m_where_n h S T a c K a1 hT hc q hp) ?_
        rintro r S' ⟨k, c', K', b, rfl, rfl, hE, hb⟩
        exact ⟨nI k, c', K', b, rfl, rfl, by omega⟩
  · rw [if_neg q] at e
    simp at e
end
