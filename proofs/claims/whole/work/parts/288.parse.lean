-- deps: 278 287
-- statements as mathematics: where the reading stops, what was read
section
variable {α β : Type}
def pb (x : Nat × Option α) (f : Nat → α → Nat × Option β) : Nat × Option β := match x.2 with
  | none => (x.1, none)
  | some y => f x.1 y
def pk (T : WL) (k : Int32) (a : Nat) : Nat × Option Unit := if kd T a = k then (a + 1, some ()) else (a, none)
def pn (T : WL) (a : Nat) : Nat × Option Int32 := if kd T a = nI 2 then (a + 1, some (ct T a)) else (a, none)
def pPs (T : WL) (f : Nat → Nat × Option α) : Nat → Nat → Nat × Option (List α)
  | 0, a => (a, some [])
  | m + 1, a => pb (f a) (fun a' y => if ¬ m = 0 ∧ kd T a' = nI 44 then pb (pPs T f m (a' + 1)) (fun a'' l => (a'', some (y :: l))) else (a', some [y]))
def pCol (T : WL) (a : Nat) : Nat × Option (Int32 × Int32) := if kd T a = nI 2 then (if kd T (a + 1) = nI 211 then (a + 1 + 1, some (ct T a, nI 1)) else if kd T (a + 1) = nI 212 then (a + 1 + 1, some (ct T a, nI 2)) else (a + 1, none)) else (a, none)
def pVal (T : WL) (a : Nat) : Nat × Option (Int32 × Int32) :=
  if kd T a = nI 45 then (if kd T (a + 1) = nI 3 then (a + 1 + 1, some (-(ct T (a + 1)), nI 1)) else (a + 1, none))
  else if kd T a = nI 3 then (a + 1, some (ct T a, nI 1))
  else if kd T a = nI 4 then (a + 1, some (ct T a, nI 2))
  else if kd T a = nI 213 then (a + 1, some (ct T a, nI 0))
  else (a, none)
/-- an expression, a condition -/
def pX (T : WL) (a : Nat) : Nat × Option WL := ((pE T 20 (a, [])).2.1, if (pE T 20 (a, [])).1 = true then some (pE T 20 (a, [])).2.2 else none)
def pCn (T : WL) (a : Nat) : Nat × Option WL := ((pC T 20 (a, [])).2.1, if (pC T 20 (a, [])).1 = true then some (pC T 20 (a, [])).2.2 else none)
def pIt (T : WL) (a : Nat) : Nat × Option (Int32 × WL) :=
  if kd T a = nI 218 ∨ kd T a = nI 219 ∨ kd T a = nI 220 ∨ kd T a = nI 221 then pb (pk T (nI 40) (a + 1)) (fun a1 _ => pb (pX T a1) (fun a2 x => pb (pk T (nI 41) a2) (fun a3 _ => (a3, some (kd T a, x)))))
  else pb (pX T a) (fun a2 x => (a2, some (-1, x)))
def pWh (T : WL) (a : Nat) : Nat × Option (Option WL) := if kd T a = nI 207 then pb (pCn T (a + 1)) (fun a' x => (a', some (some x))) else (a, some none)
def pGr (T : WL) (a : Nat) : Nat × Option (Option Nat) := if kd T a = nI 208 then ((pPl T (a + 1, [])).2.1, if (pPl T (a + 1, [])).1 = true then some (some (a + 1)) else none) else (a, some none)
def pOr (T : WL) (a : Nat) : Nat × Option (Int32 × Bool) := if kd T a = nI 209 then (if kd T (a + 1) = nI 3 then (if kd T (a + 1 + 1) = nI 210 then (a + 1 + 1 + 1, some (ct T (a + 1), true)) else (a + 1 + 1, some (ct T (a + 1), false))) else (a + 1, none)) else (a, some (-1, false))
def pCm (T : WL) (a : Nat) : Nat × Option (Option Int32) := if kd T a = nI 44 then pb (pn T (a + 1)) (fun a' x => (a', some (some x))) else (a, some none)
def pAs (T : WL) (a : Nat) : Nat × Option (Int32 × WL) := pb (pn T a) (fun a1 x => pb (pk T (nI 61) a1) (fun a2 _ => pb (pX T a2) (fun a3 w => (a3, some (x, w)))))
def sCr (T : WL) : Nat × Option (Int32 × List (Int32 × Int32)) := pb (pn T 1) (fun a x => pb (pk T (nI 40) a) (fun a _ => pb (pPs T (pCol T) 4 a) (fun a l => pb (pk T (nI 41) a) (fun a _ => (a, some (x, l))))))
def sIn (T : WL) : Nat × Option (Int32 × List (Int32 × Int32)) := pb (pn T 1) (fun a x => pb (pk T (nI 40) a) (fun a _ => pb (pPs T (pVal T) 4 a) (fun a l => pb (pk T (nI 41) a) (fun a _ => (a, some (x, l))))))
def sDe (T : WL) : Nat × Option (Int32 × Option WL) := pb (pn T 1) (fun a x => pb (pWh T a) (fun a c => (a, some (x, c))))
def sUp (T : WL) : Nat × Option (Int32 × (Int32 × WL) × Option WL) := pb (pn T 1) (fun a x => pb (pk T (nI 204) a) (fun a _ => pb (pAs T a) (fun a y => pb (pWh T a) (fun a c => (a, some (x, y, c))))))
def sSe (T : WL) : Nat × Option (IL × Int32 × Option Int32 × Option WL × Option Nat × Int32 × Bool) := pb (pPs T (pIt T) 4 1) (fun a its => pb (pk T (nI 206) a) (fun a _ => pb (pn T a) (fun a x => pb (pCm T a) (fun a y => pb (pWh T a) (fun a c => pb (pGr T a) (fun a g => pb (pOr T a) (fun a o => (a, some (its, x, y, c, g, o.1, o.2)))))))))
end
def whS (S : ST) (n : Nat) (c : Option WL) : ST := si S 6 13 0 (match c with | none => gi S 6 13 0 | some _ => nI n)
def grS (S : ST) (g : Option Nat) : ST := si S 6 14 0 (match g with | none => gi S 6 14 0 | some w => nI w)
def cmS (S : ST) (y : Option Int32) : ST := match y with
  | none => S
  | some x => adT S 1 x
/-- a reading method against its mathematics -/
def RM {α : Type} (rf : RF) (a : Nat) (ws : WL) (S : ST) (x : Nat × Option α) (post : α → WL × ST) : Prop := match x.2 with
  | none => (rf (a, ws) S).1 = false ∧ (rf (a, ws) S).2.1.1 = x.1
  | some y => rf (a, ws) S = (true, (x.1, (post y).1), (post y).2)
section
variable {α β : Type} {T : WL} {a : Nat} {ws : WL} {S : ST}
theorem RM_then {f g : RF} {x : Nat × Option α} {post : α → WL × ST} {k : Nat → α → Nat × Option β} {post' : β → WL × ST} (h1 : RM f a ws S x post) (h2 : ∀ y, x.2 = some y → RM g x.1 (post y).1 (post y).2 (k x.1 y) post') : RM (rThen f g) a ws S (pb x k) post' := by
  unfold RM pb at *
  cases hx : x.2 with
  | none =>
    rw [hx] at h1
    simp only at h1 ⊢
    rw [rThen_f h1.1]
    exact ⟨rfl, h1.2⟩
  | some y =>
    rw [hx] at h1
    have h3 := h2 y hx
    simp only at h1 ⊢
    rw [rThen_t (by rw [h1]), h1]
    exact h3
theorem RM_eq {f : RF} {x x' : Nat × Option α} {post : α → WL × ST} (h : RM f a ws S x post) (e : x = x') : RM f a ws S x' post := e ▸ h
theorem RM_map {f : RF} {x : Nat × Option α} {post : α → WL × ST} {k : α → β} {post' : β → WL × ST} (h : RM f a ws S x post) (e : ∀ y, x.2 = some y → post' (k y) = post y) : RM f a ws S (pb x (fun a y => (a, some (k y)))) post' := by
  unfold RM pb at *
  cases hx : x.2 with
  | none => rw [hx] at h; exact h
  | some y =>
    rw [hx] at h
    simp only at h ⊢
    rw [e y hx]
    exact h
theorem RM_tk (k : Int32) : RM (rTk T k) a ws S (pk T k a) (fun _ => (ws, S)) := by
  unfold RM pk rTk
  by_cases q : kd T a = k
  · simp [q]
  · simp [q]
theorem RM_tab (c : Nat) : RM (rTable T c) a ws S (pn T a) (fun x => (ws, adT S c x)) := by
  unfold RM pn rTable
  by_cases q : kd T a = nI 2
  · simp [q]
  · simp [q]
theorem RM_col (c : Nat) : RM (rColumn T c) a ws S (pCol T a) (fun x => (ws, adC S c x.1 x.2)) := by
  unfold RM pCol rColumn
  by_cases q : kd T a = nI 2
  · by_cases q1 : kd T (a + 1) = nI 211
    · simp [q, q1]
    · by_cases q2 : kd T (a + 1) = nI 212
      · simp [q, q2, show ¬ nI 212 = nI 211 by decide]
      · simp [q, q1, q2]
  · simp [q]
theorem RM_val (c : Nat) : RM (rValue T c) a ws S (pVal T a) (fun x => (ws, adV S c x.1 x.2)) := by
  unfold RM pVal rValue
  by_cases q : kd T a = nI 45
  · by_cases q1 : kd T (a + 1) = nI 3
    · simp [q, q1]
    · simp [q, q1]
  by_cases q2 : kd T a = nI 3
  · simp [q2, show ¬ nI 3 = nI 45 by decide]
  by_cases q3 : kd T a = nI 4
  · simp [q3, show ¬ nI 4 = nI 45 by decide, show ¬ nI 4 = nI 3 by decide]
  by_cases q4 : kd T a = nI 213
  · simp [q4, show ¬ nI 213 = nI 45 by decide, show ¬ nI 213 = nI 3 by decide, show ¬ nI 213 = nI 4 by decide]
  · simp [q, q2, q3, q4]
/-- the expression's words come behind what is there -/
theorem pX_at (ha : a ≤ T.length) (hw : ws.length + (T.length - a) < 255) : ∃ (b : Bool) (a' : Nat) (x : WL), pE T 20 (a, ws) = (b, (a', ws ++ x)) ∧ pX T a = (a', if b = true then some x else none) ∧ a ≤ a' ∧ a' ≤ T.length ∧ (b = true → x.length ≤ a' - a ∧ a < a' ∧ isX T x) := by
  obtain ⟨b, a', x, h1, h2, h3, h4, h5⟩ := PI_E (T := T) 20 a ha
  have e := h5 ws hw
  have e0 := h5 [] (by simp; omega)
  refine ⟨b, a', x, e, ?_, h1, h2, h4⟩
  unfold pX
  rw [e0]
  simp
theorem pCn_at (ha : a ≤ T.length) (hw : ws.length + (T.length - a) < 255) : ∃ (b : Bool) (a' : Nat) (x : WL), pC T 20 (a, ws) = (b, (a', ws ++ x)) ∧ pCn T a = (a', if b = true then some x else none) ∧ a ≤ a' ∧ a' ≤ T.length ∧ (b = true → x.length ≤ a' - a ∧ a < a' ∧ isC T x) := by
  obtain ⟨b, a', x, h1, h2, h3, h4, h5⟩ := PI_C (T := T) 20 a ha
  have e := h5 ws hw
  have e0 := h5 [] (by simp; omega)
  refine ⟨b, a', x, e, ?_, h1, h2, h4⟩
  unfold pCn
  rw [e0]
  simp
theorem RM_itm (c : Nat) (ha : a ≤ T.length) (hw : ws.length + (T.length - a) < 255) : RM (rItem T c) a ws S (pIt T a) (fun y => (ws ++ y.2, adI S c y.1 (ws.length + y.2.length))) := by
  unfold RM pIt rItem
  by_cases q : kd T a = nI 218 ∨ kd T a = nI 219 ∨ kd T a = nI 220 ∨ kd T a = nI 221
  · have hlt : a < T.length := by rcases q with h | h | h | h <;> exact kd_in h (by decide)
    simp only [q, reduceIte]
    by_cases q1 : kd T (a + 1) = nI 40
    · have hlt1 : a + 1 < T.length := kd_in q1 (by decide)
      obtain ⟨b, a', x, e, e2, h1, h2, h3⟩ := pX_at (T := T) (a := a + 1 + 1) (ws := ws) (by omega) (by omega)
      cases b with
      | false => simp [pk, pb, q1, e, e2]
      | true =>
        by_cases q2 : kd T a' = nI 41
        · simp [pk, pb, q1, q2, e, e2]
        · simp [pk, pb, q1, q2, e, e2]
    · simp [pk, pb, q1]
  · simp only [q, reduceIte]
    obtain ⟨b, a', x, e, e2, h1, h2, h3⟩ := pX_at (T := T) (a := a) (ws := ws) ha hw
    cases b with
    | false => simp [pb, e, e2]
    | true => simp [pb, e, e2]
theorem RM_whe (ha : a ≤ T.length) (hw : ws.length + (T.length - a) < 255) : RM (rWhere T) a ws S (pWh T a) (fun y => (ws ++ y.getD [], whS S ws.length y)) := by
  unfold RM pWh rWhere
  by_cases q : kd T a = nI 207
  · have hlt : a < T.length := kd_in q (by decide)
    obtain ⟨b, a', x, e, e2, h1, h2, h3⟩ := pCn_at (T := T) (a := a + 1) (ws := ws) (by omega) (by omega)
    cases b with
    | false => simp [pb, q, e, e2]
    | true => simp [pb, q, e, e2, whS]
  · have es : si S 6 13 0 (gi S 6 13 0) = S := by (apply ST_ext <;> intros <;> (try simp only [mp, gi_si, gi_sl, gi_sz, gi_sr, gi_sa, gi_sb, gi_sy, gl_si, gl_sl, gl_sz, gl_sr, gl_sa, gl_sb, gl_sy, gz_si, gz_sl, gz_sz, gz_sr, gz_sa, gz_sb, gz_sy, gr_si, gr_sl, gr_sz, gr_sr, gr_sa, gr_sb, gr_sy, ga_si, ga_sl, ga_sz, ga_sr, ga_sa, ga_sb, ga_sy, gb_si, gb_sl, gb_sz, gb_sr, gb_sa, gb_sb, gb_sy, gy_si, gy_sl, gy_sz, gy_sr, gy_sa, gy_sb, gy_sy, reduceIte, Nat.reduceEqDiff, and_true, true_and, and_self, false_and, and_false]) <;> (try ((repeat' split) <;> simp_all)))
    simp [q, es, whS]
theorem RM_grp : RM (rGroup T) a ws S (pGr T a) (fun y => (ws, grS S y)) := by
  have epl : ∀ b, pPl T (b, ws) = ((pPl T (b, [])).1, ((pPl T (b, [])).2.1, ws)) := by
    intro b
    unfold pPl
    (repeat' split) <;> first | rfl | simp_all
  unfold RM pGr rGroup
  by_cases q : kd T a = nI 208
  · rw [epl]
    cases hq : (pPl T (a + 1, [])).1 <;> simp [q, hq, grS]
  · have es : si S 6 14 0 (gi S 6 14 0) = S := by (apply ST_ext <;> intros <;> (try simp only [mp, gi_si, gi_sl, gi_sz, gi_sr, gi_sa, gi_sb, gi_sy, gl_si, gl_sl, gl_sz, gl_sr, gl_sa, gl_sb, gl_sy, gz_si, gz_sl, gz_sz, gz_sr, gz_sa, gz_sb, gz_sy, gr_si, gr_sl, gr_sz, gr_sr, gr_sa, gr_sb, gr_sy, ga_si, ga_sl, ga_sz, ga_sr, ga_sa, ga_sb, ga_sy, gb_si, gb_sl, gb_sz, gb_sr, gb_sa, gb_sb, gb_sy, gy_si, gy_sl, gy_sz, gy_sr, gy_sa, gy_sb, gy_sy, reduceIte, Nat.reduceEqDiff, and_true, true_and, and_self, false_and, and_false]) <;> (try ((repeat' split) <;> simp_all)))
    simp [q, es, grS]
theorem RM_ord (h15 : gi S 6 15 0 = -1) (h16 : gz S 6 16 0 = false) : RM (rOrder T) a ws S (pOr T a) (fun y => (ws, sz (si S 6 15 0 y.1) 6 16 0 y.2)) := by
  unfold RM pOr rOrder
  by_cases q : kd T a = nI 209
  · by_cases q1 : kd T (a + 1) = nI 3
    · by_cases q2 : kd T (a + 1 + 1) = nI 210
      · simp [q, q1, q2]
      · simp [q, q1, q2]
    · simp [q, q1]
  · have es : sz (si S 6 15 0 (-1)) 6 16 0 false = S := by (apply ST_ext <;> intros <;> (try simp only [mp, gi_si, gi_sl, gi_sz, gi_sr, gi_sa, gi_sb, gi_sy, gl_si, gl_sl, gl_sz, gl_sr, gl_sa, gl_sb, gl_sy, gz_si, gz_sl, gz_sz, gz_sr, gz_sa, gz_sb, gz_sy, gr_si, gr_sl, gr_sz, gr_sr, gr_sa, gr_sb, gr_sy, ga_si, ga_sl, ga_sz, ga_sr, ga_sa, ga_sb, ga_sy, gb_si, gb_sl, gb_sz, gb_sr, gb_sa, gb_sb, gb_sy, gy_si, gy_sl, gy_sz, gy_sr, gy_sa, gy_sb, gy_sy, reduceIte, Nat.reduceEqDiff, and_true, true_and, and_self, false_and, and_false]) <;> (try ((repeat' split) <;> simp_all)))
    simp [q, es]
theorem RM_com : RM (rComma T) a ws S (pCm T a) (fun y => (ws, cmS S y)) := by
  unfold RM pCm rComma
  by_cases q : kd T a = nI 44
  · by_cases q1 : kd T (a + 1) = nI 2
    · simp [q, pb, pn, rTable, q1, cmS]
    · simp [q, pb, pn, rTable, q1]
  · simp [q, cmS]
theorem RM_asg (ha : a ≤ T.length) (hw : ws.length + (T.length - a) < 255) : RM (rAssign T 0) a ws S (pAs T a) (fun y => (ws ++ y.2, adI (si S 6 11 0 y.1) 0 (-1) (ws.length + y.2.length))) := by
  unfold RM pAs rAssign
  by_cases q : kd T a = nI 2
  · have hlt : a < T.length := kd_in q (by decide)
    by_cases q1 : kd T (a + 1) = nI 61
    · have hlt1 : a + 1 < T.length := kd_in q1 (by decide)
      obtain ⟨b, a', x, e, e2, h1, h2, h3⟩ := pX_at (T := T) (a := a + 1 + 1) (ws := ws) (by omega) (by omega)
      cases b with
      | false => simp [pn, pk, pb, q, q1, e, e2]
      | true => simp [pn, pk, pb, q, q1, e, e2]
    · simp [pn, pk, pb, q, q1]
  · simp [pn, pb, q]
end
