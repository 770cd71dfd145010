-- deps: 288
-- parts of a statement, one behind the other
section
variable {α : Type} {T : WL}
def ups (wx : α → WL) (up : ST → Nat → α → Nat → ST) : List α → ST → Nat → Nat → ST
  | [], S, _, _ => S
  | y :: l, S, c, k => ups wx up l (up S c y k) (c + 1) (k + (wx y).length)
theorem pPs_le (f : Nat → Nat × Option α) (wx : α → WL) (HL : ∀ a y, a ≤ T.length → (f a).2 = some y → a ≤ (f a).1 ∧ (f a).1 ≤ T.length ∧ (wx y).length ≤ (f a).1 - a) : ∀ m a l, a ≤ T.length → (pPs T f m a).2 = some l → a ≤ (pPs T f m a).1 ∧ (pPs T f m a).1 ≤ T.length ∧ (l.map wx).flatten.length ≤ (pPs T f m a).1 - a ∧ l.length ≤ m ∧ (1 ≤ m → 1 ≤ l.length) := by
  intro m
  induction m with
  | zero =>
    intro a l ha h
    simp only [pPs, Option.some.injEq] at h
    subst h
    exact ⟨Nat.le_refl _, ha, by simp, by simp, fun z => absurd z (by decide)⟩
  | succ m ih =>
    intro a l ha h
    rw [pPs, pb] at h ⊢
    cases hf : (f a).2 with
    | none => rw [hf] at h; exact absurd h (by simp)
    | some y =>
      rw [hf] at h
      simp only at h ⊢
      have h1 := HL a y ha hf
      by_cases q : ¬ m = 0 ∧ kd T (f a).1 = nI 44
      · rw [if_pos q] at h ⊢
        have hlt := kd_in q.2 (by decide)
        cases hp : (pPs T f m ((f a).1 + 1)).2 with
        | none => rw [pb, hp] at h; exact absurd h (by simp)
        | some l' =>
          rw [pb, hp] at h ⊢
          simp only [Option.some.injEq] at h ⊢
          subst h
          have h2 := ih ((f a).1 + 1) l' (by omega) hp
          refine ⟨by omega, h2.2.1, ?_, ?_, fun _ => by simp⟩
          · simp only [List.map_cons, List.flatten_cons, List.length_append]; omega
          · simp only [List.length_cons]; omega
      · rw [if_neg q] at h ⊢
        simp only [Option.some.injEq] at h ⊢
        subst h
        refine ⟨h1.1, h1.2.1, ?_, by simp, fun _ => by simp⟩
        simp; omega
theorem RM_ps (rf : Nat → RF) (f : Nat → Nat × Option α) (wx : α → WL) (up : ST → Nat → α → Nat → ST) (H : ∀ c a ws S, a ≤ T.length → ws.length + (T.length - a) < 255 → RM (rf c) a ws S (f a) (fun y => (ws ++ wx y, up S c y ws.length))) (HL : ∀ a y, a ≤ T.length → (f a).2 = some y → a ≤ (f a).1 ∧ (f a).1 ≤ T.length ∧ (wx y).length ≤ (f a).1 - a) : ∀ m c a ws S, a ≤ T.length → ws.length + (T.length - a) < 255 → RM (rPs T rf m c) a ws S (pPs T f m a) (fun l => (ws ++ (l.map wx).flatten, ups wx up l S c ws.length)) := by
  intro m
  induction m with
  | zero =>
    intro c a ws S ha hw
    unfold RM
    simp [pPs, rPs, ups]
  | succ m ih =>
    intro c a ws S ha hw
    have h1 := H c a ws S ha hw
    unfold RM at h1 ⊢
    rw [pPs, pb]
    cases hf : (f a).2 with
    | none =>
      rw [hf] at h1
      simp only at h1 ⊢
      rw [rPs]
      simp only [h1.1, Bool.false_eq_true, reduceIte]
      exact ⟨trivial, h1.2⟩
    | some y =>
      rw [hf] at h1
      simp only at h1 ⊢
      have hl := HL a y ha hf
      by_cases q : ¬ m = 0 ∧ kd T (f a).1 = nI 44
      · have hlt := kd_in q.2 (by decide)
        rw [if_pos q]
        have h2 := ih (c + 1) ((f a).1 + 1) (ws ++ wx y) (up S c y ws.length) (by omega) (by simp; omega)
        unfold RM at h2
        rw [rPs_go (by rw [h1]) q.1 (by rw [h1]; exact q.2), h1, pb]
        simp only
        cases hp : (pPs T f m ((f a).1 + 1)).2 with
        | none => rw [hp] at h2; exact h2
        | some l =>
          rw [hp] at h2
          simp only at h2 ⊢
          rw [h2, ups]
          simp
      · rw [if_neg q]
        simp only
        have e : rPs T rf (m + 1) c (a, ws) S = (true, (rf c (a, ws) S).2.1, (rf c (a, ws) S).2.2) := by
          have q' : ¬ (¬ m = 0 ∧ kd T (rf c (a, ws) S).2.1.1 = nI 44) := by rw [h1]; exact q
          have q0 : (rf c (a, ws) S).1 = true := by rw [h1]
          simp only [rPs, q0, q', reduceIte]
        rw [e, h1, ups, ups]
        simp
end
def ad2 (k1 k2 : Nat) (S : ST) (c : Nat) (x y : Int32) : ST := si (sa (sa S k1 0 (up1 (ga S k1 0) c x)) k2 0 (up1 (ga S k2 0) c y)) 6 10 0 (nI (c + 1))
def ups2 (k1 k2 : Nat) : List (Int32 × Int32) → ST → Nat → ST
  | [], S, _ => S
  | y :: l, S, c => ups2 k1 k2 l (ad2 k1 k2 S c y.1 y.2) (c + 1)
def pk2 (k1 k2 c : Nat) : Bool := decide (c = 6 ∨ c = k1 ∨ c = k2)
theorem ups2_ok {k1 k2 : Nat} (hk : k1 ≠ k2) (h1 : k1 ≠ 6) (h2 : k2 ≠ 6) : ∀ (l : List (Int32 × Int32)) (S : ST) (c : Nat), AG (pk2 k1 k2) S (ups2 k1 k2 l S c) ∧ (∀ k, k ≠ 10 → gi (ups2 k1 k2 l S c) 6 k 0 = gi S 6 k 0) ∧ gz (ups2 k1 k2 l S c) 6 16 0 = gz S 6 16 0 ∧ (l ≠ [] → gi (ups2 k1 k2 l S c) 6 10 0 = nI (c + l.length)) ∧ (∀ i, i < c → ga (ups2 k1 k2 l S c) k1 0 i = ga S k1 0 i ∧ ga (ups2 k1 k2 l S c) k2 0 i = ga S k2 0 i) ∧ ∀ i, i < l.length → ga (ups2 k1 k2 l S c) k1 0 (c + i) = (l.getD i (nI 0, nI 0)).1 ∧ ga (ups2 k1 k2 l S c) k2 0 (c + i) = (l.getD i (nI 0, nI 0)).2 := by
  intro l
  induction l with
  | nil => intro S c; exact ⟨AG_refl, fun k _ => rfl, rfl, fun z => absurd rfl z, fun i _ => ⟨rfl, rfl⟩, fun i hi => absurd hi (by simp)⟩
  | cons y l ih =>
    intro S c
    obtain ⟨a1, a2, a3, a4, a5, a6⟩ := ih (ad2 k1 k2 S c y.1 y.2) (c + 1)
    have b1 : ga (ad2 k1 k2 S c y.1 y.2) k1 0 = up1 (ga S k1 0) c y.1 := by simp only [ad2, gi_si, gi_sl, gi_sz, gi_sr, gi_sa, gi_sb, gi_sy, gl_si, gl_sl, gl_sz, gl_sr, gl_sa, gl_sb, gl_sy, gz_si, gz_sl, gz_sz, gz_sr, gz_sa, gz_sb, gz_sy, gr_si, gr_sl, gr_sz, gr_sr, gr_sa, gr_sb, gr_sy, ga_si, ga_sl, ga_sz, ga_sr, ga_sa, ga_sb, ga_sy, gb_si, gb_sl, gb_sz, gb_sr, gb_sa, gb_sb, gb_sy, gy_si, gy_sl, gy_sz, gy_sr, gy_sa, gy_sb, gy_sy, reduceIte, Nat.reduceEqDiff, and_true, true_and, and_self, false_and, and_false, hk, and_true, and_self, false_and, reduceIte]
    have b2 : ga (ad2 k1 k2 S c y.1 y.2) k2 0 = up1 (ga S k2 0) c y.2 := by simp only [ad2, gi_si, gi_sl, gi_sz, gi_sr, gi_sa, gi_sb, gi_sy, gl_si, gl_sl, gl_sz, gl_sr, gl_sa, gl_sb, gl_sy, gz_si, gz_sl, gz_sz, gz_sr, gz_sa, gz_sb, gz_sy, gr_si, gr_sl, gr_sz, gr_sr, gr_sa, gr_sb, gr_sy, ga_si, ga_sl, ga_sz, ga_sr, ga_sa, ga_sb, ga_sy, gb_si, gb_sl, gb_sz, gb_sr, gb_sa, gb_sb, gb_sy, gy_si, gy_sl, gy_sz, gy_sr, gy_sa, gy_sb, gy_sy, reduceIte, Nat.reduceEqDiff, and_true, true_and, and_self, false_and, and_false, Ne.symm hk, and_true, and_self, false_and, reduceIte]
    rw [ups2]
    refine ⟨AG_trans (AG_si (AG_sa (AG_sa AG_refl (by simp [pk2])) (by simp [pk2])) (by simp [pk2])) a1, fun k hk2 => ?_, ?_, fun _ => ?_, fun i hi => ?_, fun i hi => ?_⟩
    · rw [a2 k hk2]; simp only [ad2, gi_si, gi_sl, gi_sz, gi_sr, gi_sa, gi_sb, gi_sy, gl_si, gl_sl, gl_sz, gl_sr, gl_sa, gl_sb, gl_sy, gz_si, gz_sl, gz_sz, gz_sr, gz_sa, gz_sb, gz_sy, gr_si, gr_sl, gr_sz, gr_sr, gr_sa, gr_sb, gr_sy, ga_si, ga_sl, ga_sz, ga_sr, ga_sa, ga_sb, ga_sy, gb_si, gb_sl, gb_sz, gb_sr, gb_sa, gb_sb, gb_sy, gy_si, gy_sl, gy_sz, gy_sr, gy_sa, gy_sb, gy_sy, reduceIte, Nat.reduceEqDiff, and_true, true_and, and_self, false_and, and_false, hk2, false_and, and_false, reduceIte]
    · rw [a3]; simp only [ad2, gi_si, gi_sl, gi_sz, gi_sr, gi_sa, gi_sb, gi_sy, gl_si, gl_sl, gl_sz, gl_sr, gl_sa, gl_sb, gl_sy, gz_si, gz_sl, gz_sz, gz_sr, gz_sa, gz_sb, gz_sy, gr_si, gr_sl, gr_sz, gr_sr, gr_sa, gr_sb, gr_sy, ga_si, ga_sl, ga_sz, ga_sr, ga_sa, ga_sb, ga_sy, gb_si, gb_sl, gb_sz, gb_sr, gb_sa, gb_sb, gb_sy, gy_si, gy_sl, gy_sz, gy_sr, gy_sa, gy_sb, gy_sy, reduceIte, Nat.reduceEqDiff, and_true, true_and, and_self, false_and, and_false]
    · by_cases e : l = []
      · subst e
        simp only [ups2, ad2, gi_si, gi_sl, gi_sz, gi_sr, gi_sa, gi_sb, gi_sy, gl_si, gl_sl, gl_sz, gl_sr, gl_sa, gl_sb, gl_sy, gz_si, gz_sl, gz_sz, gz_sr, gz_sa, gz_sb, gz_sy, gr_si, gr_sl, gr_sz, gr_sr, gr_sa, gr_sb, gr_sy, ga_si, ga_sl, ga_sz, ga_sr, ga_sa, ga_sb, ga_sy, gb_si, gb_sl, gb_sz, gb_sr, gb_sa, gb_sb, gb_sy, gy_si, gy_sl, gy_sz, gy_sr, gy_sa, gy_sb, gy_sy, reduceIte, Nat.reduceEqDiff, and_true, true_and, and_self, false_and, and_false, List.length_cons, List.length_nil, and_self, reduceIte]
      · rw [a4 e, List.length_cons, show c + 1 + l.length = c + (l.length + 1) by omega]
    · have := a5 i (by omega)
      rw [this.1, this.2, b1, b2, up1_n (by omega), up1_n (by omega)]
      exact ⟨rfl, rfl⟩
    · cases i with
      | zero =>
        have := a5 c (by omega)
        show ga (ups2 k1 k2 l (ad2 k1 k2 S c y.1 y.2) (c + 1)) k1 0 c = y.1 ∧ ga (ups2 k1 k2 l (ad2 k1 k2 S c y.1 y.2) (c + 1)) k2 0 c = y.2
        rw [this.1, this.2, b1, b2, up1_s, up1_s]
        exact ⟨rfl, rfl⟩
      | succ i =>
        have := a6 i (by simpa using hi)
        rw [show c + (i + 1) = c + 1 + i by omega]
        exact this
theorem ups_col : ∀ (l : List (Int32 × Int32)) (S : ST) (c k : Nat), ups (fun _ => []) (fun S c y _ => adC S c y.1 y.2) l S c k = ups2 24 25 l S c := by
  intro l
  induction l with
  | nil => intro S c k; rfl
  | cons y l ih => intro S c k; rw [ups, ups2]; exact ih _ _ _
theorem ups_val : ∀ (l : List (Int32 × Int32)) (S : ST) (c k : Nat), ups (fun _ => []) (fun S c y _ => adV S c y.1 y.2) l S c k = ups2 26 25 l S c := by
  intro l
  induction l with
  | nil => intro S c k; rfl
  | cons y l ih => intro S c k; rw [ups, ups2]; exact ih _ _ _
def endl : IL → Nat → List (Int32 × Int32)
  | [], _ => []
  | y :: l, k => (y.1, nI (k + y.2.length)) :: endl l (k + y.2.length)
theorem endl_len : ∀ (l : IL) (k : Nat), (endl l k).length = l.length := by
  intro l
  induction l with
  | nil => intro k; rfl
  | cons y l ih => intro k; rw [endl, List.length_cons, List.length_cons, ih]
theorem ups_itm : ∀ (l : IL) (S : ST) (c k : Nat), ups (fun y => y.2) (fun S c (y : Int32 × WL) k => adI S c y.1 (k + y.2.length)) l S c k = ups2 27 28 (endl l k) S c := by
  intro l
  induction l with
  | nil => intro S c k; rfl
  | cons y l ih => intro S c k; rw [ups, endl, ups2]; exact ih _ _ _
theorem endl_ItO {S : ST} : ∀ (l : IL) (c k : Nat), (∀ i, i < l.length → ga S 27 0 (c + i) = ((endl l k).getD i (nI 0, nI 0)).1 ∧ ga S 28 0 (c + i) = ((endl l k).getD i (nI 0, nI 0)).2) → (∀ y, y ∈ l → WH y.2 0) → ItO S c k l := by
  intro l
  induction l with
  | nil => intro c k _ _; trivial
  | cons y l ih =>
    intro c k h hw
    have h0 := h 0 (by simp)
    refine ⟨h0.1, h0.2, hw y (by simp), ih (c + 1) (k + y.2.length) (fun i hi => ?_) (fun z hz => hw z (by simp [hz]))⟩
    have := h (i + 1) (by simp; omega)
    rw [show c + 1 + i = c + (i + 1) by omega]
    exact this
section
variable {T : WL}
theorem pCol_le (a : Nat) (y : Int32 × Int32) (ha : a ≤ T.length) (h : (pCol T a).2 = some y) : a ≤ (pCol T a).1 ∧ (pCol T a).1 ≤ T.length ∧ ([] : WL).length ≤ (pCol T a).1 - a := by
  unfold pCol at *
  by_cases q : kd T a = nI 2
  · by_cases q1 : kd T (a + 1) = nI 211
    · have := kd_in q1 (by decide); simp [q, q1]; omega
    · by_cases q2 : kd T (a + 1) = nI 212
      · have := kd_in q2 (by decide); simp [q, q2, show ¬ nI 212 = nI 211 by decide]; omega
      · simp [q, q1, q2] at h
  · simp [q] at h
theorem pVal_le (a : Nat) (y : Int32 × Int32) (ha : a ≤ T.length) (h : (pVal T a).2 = some y) : a ≤ (pVal T a).1 ∧ (pVal T a).1 ≤ T.length ∧ ([] : WL).length ≤ (pVal T a).1 - a := by
  unfold pVal at *
  by_cases q : kd T a = nI 45
  · by_cases q1 : kd T (a + 1) = nI 3
    · have := kd_in q1 (by decide); simp [q, q1]; omega
    · simp [q, q1] at h
  by_cases q2 : kd T a = nI 3
  · have := kd_in q2 (by decide); simp [q2, show ¬ nI 3 = nI 45 by decide]; omega
  by_cases q3 : kd T a = nI 4
  · have := kd_in q3 (by decide); simp [q3, show ¬ nI 4 = nI 45 by decide, show ¬ nI 4 = nI 3 by decide]; omega
  by_cases q4 : kd T a = nI 213
  · have := kd_in q4 (by decide); simp [q4, show ¬ nI 213 = nI 45 by decide, show ¬ nI 213 = nI 3 by decide, show ¬ nI 213 = nI 4 by decide]; omega
  · simp [q, q2, q3, q4] at h
theorem pX_le {a : Nat} {x : WL} (ha : a ≤ T.length) (hT : T.length ≤ 200) (h : (pX T a).2 = some x) : a < (pX T a).1 ∧ (pX T a).1 ≤ T.length ∧ x.length ≤ (pX T a).1 - a ∧ isX T x := by
  obtain ⟨b, a', x', e, e2, h1, h2, h3⟩ := pX_at (T := T) (a := a) (ws := []) ha (by simp; omega)
  rw [e2] at h ⊢
  cases b with
  | false => simp at h
  | true =>
    simp at h
    subst h
    exact ⟨(h3 rfl).2.1, h2, (h3 rfl).1, (h3 rfl).2.2⟩
theorem pCn_le {a : Nat} {x : WL} (ha : a ≤ T.length) (hT : T.length ≤ 200) (h : (pCn T a).2 = some x) : a < (pCn T a).1 ∧ (pCn T a).1 ≤ T.length ∧ x.length ≤ (pCn T a).1 - a ∧ isC T x := by
  obtain ⟨b, a', x', e, e2, h1, h2, h3⟩ := pCn_at (T := T) (a := a) (ws := []) ha (by simp; omega)
  rw [e2] at h ⊢
  cases b with
  | false => simp at h
  | true =>
    simp at h
    subst h
    exact ⟨(h3 rfl).2.1, h2, (h3 rfl).1, (h3 rfl).2.2⟩
theorem pb_some {α β : Type} {x : Nat × Option α} {f : Nat → α → Nat × Option β} {z : β} (h : (pb x f).2 = some z) : ∃ y, x.2 = some y ∧ pb x f = f x.1 y ∧ (f x.1 y).2 = some z := by
  unfold pb at *
  cases hx : x.2 with
  | none => rw [hx] at h; exact absurd h (by simp)
  | some y => rw [hx] at h; exact ⟨y, rfl, rfl, h⟩
theorem pk_some {k a : Nat} {u : Unit} (hk : ¬ nI k = nI 0) (h : (pk T (nI k) a).2 = some u) : (pk T (nI k) a).1 = a + 1 ∧ a < T.length ∧ kd T a = nI k := by
  unfold pk at *
  by_cases q : kd T a = nI k
  · simp only [q, reduceIte]; exact ⟨trivial, kd_in q hk, trivial⟩
  · simp [q] at h
theorem pn_some {a : Nat} {x : Int32} (h : (pn T a).2 = some x) : (pn T a).1 = a + 1 ∧ a < T.length ∧ kd T a = nI 2 ∧ x = ct T a := by
  unfold pn at *
  by_cases q : kd T a = nI 2
  · simp only [q, reduceIte, Option.some.injEq] at h ⊢; exact ⟨trivial, kd_in q (by decide), trivial, h.symm⟩
  · simp [q] at h
theorem pIt_le (hT : T.length ≤ 200) (a : Nat) (y : Int32 × WL) (ha : a ≤ T.length) (h : (pIt T a).2 = some y) : (a ≤ (pIt T a).1 ∧ (pIt T a).1 ≤ T.length ∧ y.2.length ≤ (pIt T a).1 - a) ∧ isX T y.2 ∧ (y.1 = -1 ∨ isAgg y.1) ∧ a < (pIt T a).1 := by
  unfold pIt at *
  by_cases q : kd T a = nI 218 ∨ kd T a = nI 219 ∨ kd T a = nI 220 ∨ kd T a = nI 221
  · have hlt : a < T.length := by rcases q with h | h | h | h <;> exact kd_in h (by decide)
    rw [if_pos q] at h ⊢
    obtain ⟨u, h1, e1, h2⟩ := pb_some h
    rw [e1]
    have k1 := pk_some (by decide) h1
    rw [k1.1] at h2 ⊢
    obtain ⟨x, h3, e2, h4⟩ := pb_some h2
    rw [e2]
    have k2 := pX_le (by omega) hT h3
    obtain ⟨u2, h5, e3, h6⟩ := pb_some h4
    rw [e3]
    have k3 := pk_some (by decide) h5
    simp only [Option.some.injEq] at h6
    subst h6
    rw [k3.1]
    refine ⟨⟨?_, ?_, ?_⟩, k2.2.2.2, Or.inr q, ?_⟩ <;> (try simp only) <;> omega
  · rw [if_neg q] at h ⊢
    obtain ⟨x, h3, e2, h4⟩ := pb_some h
    rw [e2]
    have k2 := pX_le ha hT h3
    simp only [Option.some.injEq] at h4
    subst h4
    exact ⟨⟨Nat.le_of_lt k2.1, k2.2.1, k2.2.2.1⟩, k2.2.2.2, Or.inl rfl, k2.1⟩
end
