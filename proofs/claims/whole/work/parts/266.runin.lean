-- deps: 265
-- the run of an insert
def colO {α : Type} (f : Nat → α) (r : Nat) : Nat → Nat → (Nat → α) → (Nat → α)
  | 0, _, g => g
  | c + 1, i, g => colO f r c (i + 1) (up1 g (r * 4 + i) (f i))
theorem colO_out {α : Type} {f : Nat → α} {r : Nat} : ∀ {c i : Nat} {g : Nat → α} {k : Nat}, (∀ q, i ≤ q → q < i + c → k ≠ r * 4 + q) → colO f r c i g k = g k := by
  intro c
  induction c with
  | zero => intro i g k h; rfl
  | succ c ih => intro i g k h; rw [colO, ih (fun q h1 h2 => h q (by omega) (by omega)), up1_n (h i (by omega) (by omega))]
theorem colO_in {α : Type} {f : Nat → α} {r : Nat} : ∀ {c i : Nat} {g : Nat → α} {k : Nat}, i ≤ k → k < i + c → colO f r c i g (r * 4 + k) = f k := by
  intro c
  induction c with
  | zero => intro i g k h h2; omega
  | succ c ih =>
    intro i g k h h2
    rw [colO]
    by_cases e : k = i
    · subst e; rw [colO_out (fun q h1 h2 => by omega), up1_s]
    · exact ih (by omega) (by omega)
def inV (ty vl : Nat → Int32) (i : Nat) : Int32 := if ty i = nI 1 ∨ ty i = nI 2 then vl i else nI 0
def inM (ty : Nat → Int32) (i : Nat) : Bool := decide (¬ (ty i = nI 1 ∨ ty i = nI 2))
def dtb (d : DB) (j : Nat) (w : Nat → Int32) (z : Nat → Bool) : DB := (dC d, dN d, dK d, dCN d, dCT d, dR d, up1 (dV d) j w, up1 (dM d) j z)
def inD (d : DB) (j n : Nat) (ty vl : Nat → Int32) : DB := (dC d, dN d, dK d, dCN d, dCT d, up1 (dR d) j (dR d j + 1), up1 (dV d) j (colO (inV ty vl) (dR d j) n 0 (dV d j)), up1 (dM d) j (colO (inM ty) (dR d j) n 0 (dM d j)))
theorem DbC_tb {S : ST} {d : DB} {j : Nat} (w : Nat → Int32) (z : Nat → Bool) (hd : DbC S d) (hj : j < 4) : DbC (tb S j w z) (dtb d j w z) := by
  refine ⟨⟨by simp only [tb, gi_si, gi_sl, gi_sz, gi_sr, gi_sa, gi_sb, gi_sy, gl_si, gl_sl, gl_sz, gl_sr, gl_sa, gl_sb, gl_sy, gz_si, gz_sl, gz_sz, gz_sr, gz_sa, gz_sb, gz_sy, gr_si, gr_sl, gr_sz, gr_sr, gr_sa, gr_sb, gr_sy, ga_si, ga_sl, ga_sz, ga_sr, ga_sa, ga_sb, ga_sy, gb_si, gb_sl, gb_sz, gb_sr, gb_sa, gb_sb, gb_sy, gy_si, gy_sl, gy_sz, gy_sr, gy_sa, gy_sb, gy_sy, reduceIte, Nat.reduceEqDiff, and_true, true_and, and_self, false_and, and_false]; exact hd.1.1, hd.1.2⟩, fun t ht => ?_⟩
  have h1 := hd.2 t ht
  show (gi (tb S j w z) 7 5 t = dN d t ∧ gi (tb S j w z) 7 6 t = nI (dK d t) ∧ gi (tb S j w z) 7 7 t = nI (dR d t)) ∧ (dK d t ≤ 4 ∧ dR d t ≤ 24) ∧ ga (tb S j w z) 29 t = dCN d t ∧ ga (tb S j w z) 30 t = dCT d t ∧ gb (tb S j w z) 31 t = eN (up1 (dV d) j w t) (up1 (dM d) j z t) ∧ gb (tb S j w z) 31 t = eN (up1 (dV d) j w t) (up1 (dM d) j z t)
  have key : gb (tb S j w z) 31 t = eN (up1 (dV d) j w t) (up1 (dM d) j z t) := by
    simp only [tb, gi_si, gi_sl, gi_sz, gi_sr, gi_sa, gi_sb, gi_sy, gl_si, gl_sl, gl_sz, gl_sr, gl_sa, gl_sb, gl_sy, gz_si, gz_sl, gz_sz, gz_sr, gz_sa, gz_sb, gz_sy, gr_si, gr_sl, gr_sz, gr_sr, gr_sa, gr_sb, gr_sy, ga_si, ga_sl, ga_sz, ga_sr, ga_sa, ga_sb, ga_sy, gb_si, gb_sl, gb_sz, gb_sr, gb_sa, gb_sb, gb_sy, gy_si, gy_sl, gy_sz, gy_sr, gy_sa, gy_sb, gy_sy, reduceIte, Nat.reduceEqDiff, and_true, true_and, and_self, false_and, and_false, up1]
    by_cases q : t = j
    · simp [q]
    · simp [q, h1.2.2.2.2.1]
  exact ⟨⟨by simp only [tb, gi_si, gi_sl, gi_sz, gi_sr, gi_sa, gi_sb, gi_sy, gl_si, gl_sl, gl_sz, gl_sr, gl_sa, gl_sb, gl_sy, gz_si, gz_sl, gz_sz, gz_sr, gz_sa, gz_sb, gz_sy, gr_si, gr_sl, gr_sz, gr_sr, gr_sa, gr_sb, gr_sy, ga_si, ga_sl, ga_sz, ga_sr, ga_sa, ga_sb, ga_sy, gb_si, gb_sl, gb_sz, gb_sr, gb_sa, gb_sb, gb_sy, gy_si, gy_sl, gy_sz, gy_sr, gy_sa, gy_sb, gy_sy, reduceIte, Nat.reduceEqDiff, and_true, true_and, and_self, false_and, and_false]; exact h1.1.1, by simp only [tb, gi_si, gi_sl, gi_sz, gi_sr, gi_sa, gi_sb, gi_sy, gl_si, gl_sl, gl_sz, gl_sr, gl_sa, gl_sb, gl_sy, gz_si, gz_sl, gz_sz, gz_sr, gz_sa, gz_sb, gz_sy, gr_si, gr_sl, gr_sz, gr_sr, gr_sa, gr_sb, gr_sy, ga_si, ga_sl, ga_sz, ga_sr, ga_sa, ga_sb, ga_sy, gb_si, gb_sl, gb_sz, gb_sr, gb_sa, gb_sb, gb_sy, gy_si, gy_sl, gy_sz, gy_sr, gy_sa, gy_sb, gy_sy, reduceIte, Nat.reduceEqDiff, and_true, true_and, and_self, false_and, and_false]; exact h1.1.2.1, by simp only [tb, gi_si, gi_sl, gi_sz, gi_sr, gi_sa, gi_sb, gi_sy, gl_si, gl_sl, gl_sz, gl_sr, gl_sa, gl_sb, gl_sy, gz_si, gz_sl, gz_sz, gz_sr, gz_sa, gz_sb, gz_sy, gr_si, gr_sl, gr_sz, gr_sr, gr_sa, gr_sb, gr_sy, ga_si, ga_sl, ga_sz, ga_sr, ga_sa, ga_sb, ga_sy, gb_si, gb_sl, gb_sz, gb_sr, gb_sa, gb_sb, gb_sy, gy_si, gy_sl, gy_sz, gy_sr, gy_sa, gy_sb, gy_sy, reduceIte, Nat.reduceEqDiff, and_true, true_and, and_self, false_and, and_false]; exact h1.1.2.2⟩, h1.2.1, by simp only [tb, gi_si, gi_sl, gi_sz, gi_sr, gi_sa, gi_sb, gi_sy, gl_si, gl_sl, gl_sz, gl_sr, gl_sa, gl_sb, gl_sy, gz_si, gz_sl, gz_sz, gz_sr, gz_sa, gz_sb, gz_sy, gr_si, gr_sl, gr_sz, gr_sr, gr_sa, gr_sb, gr_sy, ga_si, ga_sl, ga_sz, ga_sr, ga_sa, ga_sb, ga_sy, gb_si, gb_sl, gb_sz, gb_sr, gb_sa, gb_sb, gb_sy, gy_si, gy_sl, gy_sz, gy_sr, gy_sa, gy_sb, gy_sy, reduceIte, Nat.reduceEqDiff, and_true, true_and, and_self, false_and, and_false]; exact h1.2.2.1, by simp only [tb, gi_si, gi_sl, gi_sz, gi_sr, gi_sa, gi_sb, gi_sy, gl_si, gl_sl, gl_sz, gl_sr, gl_sa, gl_sb, gl_sy, gz_si, gz_sl, gz_sz, gz_sr, gz_sa, gz_sb, gz_sy, gr_si, gr_sl, gr_sz, gr_sr, gr_sa, gr_sb, gr_sy, ga_si, ga_sl, ga_sz, ga_sr, ga_sa, ga_sb, ga_sy, gb_si, gb_sl, gb_sz, gb_sr, gb_sa, gb_sb, gb_sy, gy_si, gy_sl, gy_sz, gy_sr, gy_sa, gy_sb, gy_sy, reduceIte, Nat.reduceEqDiff, and_true, true_and, and_self, false_and, and_false]; exact h1.2.2.2.1, key, key⟩
section
variable (h : Nat) (x : Int32) (S : ST) (Q : Option AV → ST → Prop) (P : WL) (j : Nat) (d : DB) (ty vl : Nat → Int32)
theorem run_fields (hP : PrC S P) (hr : gz S 2 13 0 = true) (hd : DbC S d) (hj : j < 4) (h7 : gr S 2 5 0 = j) (hR : dR d j < 24) (post : WL) : ∀ (c i a n : Nat) (w : Nat → Int32) (z : Nat → Bool) (v : Nat → Int32) (m : Nat → Bool) (pre : WL), P = pre ++ inW ty vl c i ++ post → a = pre.length → i + c ≤ dK d j → n + 2 * c < 1000000 → (∀ (v' : Nat → Int32) (m' : Nat → Bool), RUN (h + 2) x (n + 2 * c) (mp (rg (tb S j (colO (inV ty vl) (dR d j) c i w) (colO (inM ty) (dR d j) c i z)) (a + 2 * c) (n + 2 * c)) v' m' 0) Q) → RUN (h + 2) x n (mp (rg (tb S j w z) a n) v m 0) Q := by
  intro c
  induction c with
  | zero => intro i a n w z v m pre hp ha hi hn hQ; exact hQ v m
  | succ c ih =>
    intro i a n w z v m pre hp ha hi hn hQ
    have hk4 := (hd.2 j hj).2.1.1
    have hPt : ∀ (w : Nat → Int32) (z : Nat → Bool), PrC (tb S j w z) P := by intro w z; unfold PrC at *; simp only [tb, gi_si, gi_sl, gi_sz, gi_sr, gi_sa, gi_sb, gi_sy, gl_si, gl_sl, gl_sz, gl_sr, gl_sa, gl_sb, gl_sy, gz_si, gz_sl, gz_sz, gz_sr, gz_sa, gz_sb, gz_sy, gr_si, gr_sl, gr_sz, gr_sr, gr_sa, gr_sb, gr_sy, ga_si, ga_sl, ga_sz, ga_sr, ga_sa, ga_sb, ga_sy, gb_si, gb_sl, gb_sz, gb_sr, gb_sa, gb_sb, gb_sy, gy_si, gy_sl, gy_sz, gy_sr, gy_sa, gy_sb, gy_sy, reduceIte, Nat.reduceEqDiff, and_true, true_and, and_self, false_and, and_false]; exact hP
    have key : ∀ o, (o = 1 ∨ o = 2 ∨ o = 3) → (nI o, vl i) = (if ty i = nI 1 then nI 1 else if ty i = nI 2 then nI 2 else nI 3, vl i) → (∀ (v : Nat → Int32) (m : Nat → Bool), ev1 (ldE (dtb d j w z) (fun _ => 0) (fun _ => 0)) (nI o, vl i) v m 0 = (nI 0, up1 v 0 (inV ty vl i), up1 m 0 (inM ty i), 0 + 1)) → RUN (h + 2) x n (mp (rg (tb S j w z) a n) v m 0) Q := by
      intro o ho he hv
      have hev : evs (ldE (dtb d j w z) (fun _ => 0) (fun _ => 0)) [(nI o, vl i)] v m 0 = (nI 0, up1 v 0 (inV ty vl i), up1 m 0 (inM ty i), 0 + 1) := by rw [evs_ok (hv v m) rfl]; rfl
      have hrun := run_words (h + 2) x (tb S j w z) (dtb d j w z) 0 (fun _ => 0) (fun _ => 0) Q P ((nI 45, nI i) :: inW ty vl c (i + 1) ++ post) (hPt w z) (by simp only [tb, gi_si, gi_sl, gi_sz, gi_sr, gi_sa, gi_sb, gi_sy, gl_si, gl_sl, gl_sz, gl_sr, gl_sa, gl_sb, gl_sy, gz_si, gz_sl, gz_sz, gz_sr, gz_sa, gz_sb, gz_sy, gr_si, gr_sl, gr_sz, gr_sr, gr_sa, gr_sb, gr_sy, ga_si, ga_sl, ga_sz, ga_sr, ga_sa, ga_sb, ga_sy, gb_si, gb_sl, gb_sz, gb_sr, gb_sa, gb_sb, gb_sy, gy_si, gy_sl, gy_sz, gy_sr, gy_sa, gy_sb, gy_sy, reduceIte, Nat.reduceEqDiff, and_true, true_and, and_self, false_and, and_false]; exact hr) ⟨DbC_tb w z hd hj, by decide, fun i hi => absurd hi (by omega)⟩ [(nI o, vl i)] pre [] v m 0 n ⟨[false], by rcases ho with rfl | rfl | rfl <;> simp [kws, kw1]⟩ trivial (by rw [hp, he]; simp [inW]) ⟨o, ⟨rfl, by omega, by omega, fun z => by omega, fun z => by omega⟩, by unfold arty; rw [if_pos (by omega)]; omega, by unfold arty; rw [if_pos (by omega)]; omega, trivial⟩ (by decide) (by simp; omega)
      rw [hev] at hrun
      rw [ha]
      refine hrun (fun _ => ?_) (fun z => absurd rfl z)
      simp only [List.length_cons, List.length_nil, Nat.zero_add]
      refine run_T h x (tb S j w z) Q _ P (pre.length + 1) (n + 1) 45 (nI i) (up1 v 0 (inV ty vl i)) (up1 m 0 (inM ty i)) 1 (hPt w z) (by simp only [tb, gi_si, gi_sl, gi_sz, gi_sr, gi_sa, gi_sb, gi_sy, gl_si, gl_sl, gl_sz, gl_sr, gl_sa, gl_sb, gl_sy, gz_si, gz_sl, gz_sz, gz_sr, gz_sa, gz_sb, gz_sy, gr_si, gr_sl, gr_sz, gr_sr, gr_sa, gr_sb, gr_sy, ga_si, ga_sl, ga_sz, ga_sr, ga_sa, ga_sb, ga_sy, gb_si, gb_sl, gb_sz, gb_sr, gb_sa, gb_sb, gb_sy, gy_si, gy_sl, gy_sz, gy_sr, gy_sa, gy_sb, gy_sy, reduceIte, Nat.reduceEqDiff, and_true, true_and, and_self, false_and, and_false]; exact hr) (by rw [hp]; simp [inW]) (by omega) (by decide) (by decide) (c_chField h S (pre.length + 1 + 1) (n + 1 + 1) (up1 v 0 (inV ty vl i)) (up1 m 0 (inM ty i)) 0 d j i w z (by decide) hd hj h7 hR (by omega)) ?_
      rintro S' rfl
      have en : nrm (up1 m 0 (inM ty i) 0) (up1 v 0 (inV ty vl i) 0) = inV ty vl i := by
        rw [up1_s, up1_s, nrm, inM, inV]
        by_cases q : ty i = nI 1 ∨ ty i = nI 2 <;> simp [q]
      rw [en, up1_s]
      refine ih (i + 1) _ _ _ _ _ _ (pre ++ [(nI o, vl i), (nI 45, nI i)]) (by rw [hp, he]; simp [inW]) (by simp) (by omega) (by omega) ?_
      intro v' m'
      have := hQ v' m'
      rw [ha] at this
      rw [show n + 1 + 1 + 2 * c = n + 2 * (c + 1) by omega, show pre.length + 1 + 1 + 2 * c = pre.length + 2 * (c + 1) by omega]
      exact this
    by_cases q1 : ty i = nI 1
    · exact key 1 (Or.inl rfl) (by rw [if_pos q1]) (fun v m => by simp [ev1, inV, inM, q1])
    by_cases q2 : ty i = nI 2
    · exact key 2 (Or.inr (Or.inl rfl)) (by rw [if_neg q1, if_pos q2]) (fun v m => by simp [ev1, inV, inM, q2, show ¬ nI 2 = nI 1 by decide])
    · exact key 3 (Or.inr (Or.inr rfl)) (by rw [if_neg q1, if_neg q2]) (fun v m => by simp [ev1, inV, inM, q1, q2, show ¬ nI 3 = nI 1 by decide, show ¬ nI 3 = nI 2 by decide])
end
theorem inW_len (ty vl : Nat → Int32) : ∀ c i, (inW ty vl c i).length = 2 * c := by
  intro c
  induction c with
  | zero => intro i; rfl
  | succ c ih => intro i; simp [inW, ih]; omega
