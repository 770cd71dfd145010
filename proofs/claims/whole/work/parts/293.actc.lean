-- deps: 292
-- act: create and insert
def pkP (c : Nat) : Bool := decide (c = 0 ∨ c = 1 ∨ c = 4 ∨ c = 6 ∨ c = 9 ∨ c = 10 ∨ c = 12 ∨ c = 13 ∨ c = 14 ∨ (22 ≤ c ∧ c ≤ 28) ∨ c = 37 ∨ c = 38)
def pkA (c : Nat) : Bool := decide (c ≤ 10 ∨ (12 ≤ c ∧ c ≤ 39))
theorem pkP_A : ∀ c, pkA c = false → pkP c = false := by
  intro c h
  unfold pkA pkP at *
  simp at *
  omega
theorem pkR_A : ∀ c, pkA c = false → pkR c = false := by
  intro c h
  unfold pkA pkR at *
  simp at *
  omega
theorem pk6_P : ∀ c, pkP c = false → pk6 c = false := by
  intro c h
  unfold pkP pk6 at *
  simp at *
  omega
section
variable {S S' : ST} {d : DB} {jr : Nat}
theorem AGP_Db (h : AG pkP S S') (hd : DbC S d) : DbC S' d := DbC_same hd (((h 8 rfl).1 1 0).1) (fun k t => ((h 7 rfl).1 k t).1) (fun t => ⟨((h 29 rfl).2 t).1, ((h 30 rfl).2 t).1, ((h 31 rfl).2 t).2.1, ((h 31 rfl).2 t).2.1⟩)
theorem AGP_R (h : AG pkP S S') : SameR S S' jr := ⟨⟨((h 2 rfl).1 3 0).2.2.2, ((h 2 rfl).1 4 0).2.2.2⟩, ⟨((h 5 rfl).1 3 jr).1, ((h 5 rfl).1 4 jr).1⟩, ((h 18 rfl).2 jr).2.1, ((h 18 rfl).2 jr).2.1, ((h 20 rfl).2 jr).1⟩
theorem AGP_K (h : AG pkP S S') (hk : RunK S) : RunK S' := by
  unfold RunK Pil at *
  rw [((h 2 rfl).1 14 0).2.2.1, ((h 2 rfl).1 17 0).2.1, ((h 2 rfl).1 15 0).2.1, ((h 15 rfl).2 0).2.1]
  exact hk
end
abbrev SEL : Type := IL × Int32 × Bool × Nat × AR
abbrev OUT : Type := Int32 × DB × Option SEL
def ResO (S S' : ST) (jr : Nat) (o : Option SEL) : Prop := match o with
  | none => SameR S S' jr
  | some s => ∃ p : Nat → Nat, Ord s.1 s.2.2.2.2 s.2.2.2.1 s.2.1 s.2.2.1 p ∧ ResC S' s.2.2.2.1 s.1.length (fun i b => fV (agI s.1 b) s.2.2.2.2 (p i * 4 + b)) (fun i b => fN (agI s.1 b) s.2.2.2.2 (p i * 4 + b))
/-- what an act of the class answers and leaves -/
def ActQ (S : ST) (jr : Nat) (o : OUT) (r : Option AV) (S' : ST) : Prop := r = some (vI o.1) ∧ AG pkA S S' ∧ DbC S' o.2.1 ∧ RunK S' ∧ (∃ a, a ≤ 1000 ∧ gi S' 4 2 0 = nI a) ∧ gi S' 10 1 0 = nI 0 ∧ ResO S S' jr o.2.2
/-- the states before the run -/
def PreA (S S' : ST) : Prop := AG pkP S S' ∧ (∃ a, a ≤ 1000 ∧ gi S' 4 2 0 = nI a) ∧ gi S' 10 1 0 = nI 0
theorem act_fail {S S' : ST} {d : DB} {jr : Nat} (f : Int32) (hd : DbC S d) (hk : RunK S) (h : PreA S S') : ActQ S jr (f, d, none) (some (vI f)) S' := ⟨rfl, AG_sub h.1 pkP_A, AGP_Db h.1 hd, AGP_K h.1 hk, h.2.1, h.2.2, AGP_R h.1⟩
theorem act_run {S S4 S5 : ST} {d' : DB} {jr : Nat} (f : Int32) (h : PreA S S4) (h5 : OKE S4 S5 d' jr) : ActQ S jr (f, d', none) (some (vI f)) S5 := by
  obtain ⟨a1, a2, a3, a4⟩ := h5
  obtain ⟨⟨a, ha, e4⟩, e10⟩ := h.2
  refine ⟨rfl, AG_trans (AG_sub h.1 pkP_A) (AG_sub a1 pkR_A), a2, a4, ⟨a, ha, ?_⟩, ?_, SameR_trans (AGP_R h.1) a3⟩
  · rw [((a1 4 rfl).1 2 0).1]; exact e4
  · rw [((a1 10 rfl).1 1 0).1]; exact e10
/-- the state behind the reader -/
theorem PreA_read {S X : ST} {c pos : Nat} {g1 g2 g3 g4 : Nat → Int32} {ln : Nat} (hX : AG pk6 (si (wS S c g1 g2) 10 1 0 (nI 0)) X) (hp : pos ≤ 1000) : PreA S (dr X pos g3 g4 ln) := by
  have h0 : AG pkP S (si (wS S c g1 g2) 10 1 0 (nI 0)) := AG_si (AG_si (AG_sa (AG_sa AG_refl rfl) rfl) rfl) rfl
  have h1 := AG_trans h0 (AG_sub hX pk6_P)
  refine ⟨AG_si (AG_sa (AG_sa (AG_si h1 rfl) rfl) rfl) rfl, ⟨pos, hp, by simp only [dr, gi_si, gi_sl, gi_sz, gi_sr, gi_sa, gi_sb, gi_sy, gl_si, gl_sl, gl_sz, gl_sr, gl_sa, gl_sb, gl_sy, gz_si, gz_sl, gz_sz, gz_sr, gz_sa, gz_sb, gz_sy, gr_si, gr_sl, gr_sz, gr_sr, gr_sa, gr_sb, gr_sy, ga_si, ga_sl, ga_sz, ga_sr, ga_sa, ga_sb, ga_sy, gb_si, gb_sl, gb_sz, gb_sr, gb_sa, gb_sb, gb_sy, gy_si, gy_sl, gy_sz, gy_sr, gy_sa, gy_sb, gy_sy, reduceIte, Nat.reduceEqDiff, and_true, true_and, and_self, false_and, and_false]⟩, ?_⟩
  simp only [dr, gi_si, gi_sl, gi_sz, gi_sr, gi_sa, gi_sb, gi_sy, gl_si, gl_sl, gl_sz, gl_sr, gl_sa, gl_sb, gl_sy, gz_si, gz_sl, gz_sz, gz_sr, gz_sa, gz_sb, gz_sy, gr_si, gr_sl, gr_sz, gr_sr, gr_sa, gr_sb, gr_sy, ga_si, ga_sl, ga_sz, ga_sr, ga_sa, ga_sb, ga_sy, gb_si, gb_sl, gb_sz, gb_sr, gb_sa, gb_sb, gb_sy, gy_si, gy_sl, gy_sz, gy_sr, gy_sa, gy_sb, gy_sy, reduceIte, Nat.reduceEqDiff, and_true, true_and, and_self, false_and, and_false]
  rw [((hX 10 rfl).1 1 0).1]
  simp only [gi_si, gi_sl, gi_sz, gi_sr, gi_sa, gi_sb, gi_sy, gl_si, gl_sl, gl_sz, gl_sr, gl_sa, gl_sb, gl_sy, gz_si, gz_sl, gz_sz, gz_sr, gz_sa, gz_sb, gz_sy, gr_si, gr_sl, gr_sz, gr_sr, gr_sa, gr_sb, gr_sy, ga_si, ga_sl, ga_sz, ga_sr, ga_sa, ga_sb, ga_sy, gb_si, gb_sl, gb_sz, gb_sr, gb_sa, gb_sb, gb_sy, gy_si, gy_sl, gy_sz, gy_sr, gy_sa, gy_sb, gy_sy, reduceIte, Nat.reduceEqDiff, and_true, true_and, and_self, false_and, and_false]
theorem PreA_kt {S S2 : ST} (h : PreA S S2) (g23 g1 g2 : Nat → Int32) (m : Nat) (g : Nat → Int32) (n : Nat) : PreA S (kt S2 g23 g1 g2 m g n) := by
  obtain ⟨a1, ⟨a, ha, e4⟩, e10⟩ := h
  refine ⟨AG_si (AG_sa (AG_si (AG_sa (AG_sa (AG_sa a1 rfl) rfl) rfl) rfl) rfl) rfl, ⟨a, ha, ?_⟩, ?_⟩
  · simp only [kt, ck, cd, gi_si, gi_sl, gi_sz, gi_sr, gi_sa, gi_sb, gi_sy, gl_si, gl_sl, gl_sz, gl_sr, gl_sa, gl_sb, gl_sy, gz_si, gz_sl, gz_sz, gz_sr, gz_sa, gz_sb, gz_sy, gr_si, gr_sl, gr_sz, gr_sr, gr_sa, gr_sb, gr_sy, ga_si, ga_sl, ga_sz, ga_sr, ga_sa, ga_sb, ga_sy, gb_si, gb_sl, gb_sz, gb_sr, gb_sa, gb_sb, gb_sy, gy_si, gy_sl, gy_sz, gy_sr, gy_sa, gy_sb, gy_sy, reduceIte, Nat.reduceEqDiff, and_true, true_and, and_self, false_and, and_false]; exact e4
  · simp only [kt, ck, cd, gi_si, gi_sl, gi_sz, gi_sr, gi_sa, gi_sb, gi_sy, gl_si, gl_sl, gl_sz, gl_sr, gl_sa, gl_sb, gl_sy, gz_si, gz_sl, gz_sz, gz_sr, gz_sa, gz_sb, gz_sy, gr_si, gr_sl, gr_sz, gr_sr, gr_sa, gr_sb, gr_sy, ga_si, ga_sl, ga_sz, ga_sr, ga_sa, ga_sb, ga_sy, gb_si, gb_sl, gb_sz, gb_sr, gb_sa, gb_sb, gb_sy, gy_si, gy_sl, gy_sz, gy_sr, gy_sa, gy_sb, gy_sy, reduceIte, Nat.reduceEqDiff, and_true, true_and, and_self, false_and, and_false]; exact e10
theorem PreA_si6 {S S2 : ST} (h : PreA S S2) (k : Nat) (x : Int32) : PreA S (si S2 6 k 0 x) := by
  obtain ⟨a1, ⟨a, ha, e4⟩, e10⟩ := h
  refine ⟨AG_si a1 rfl, ⟨a, ha, ?_⟩, ?_⟩
  · simp only [gi_si, gi_sl, gi_sz, gi_sr, gi_sa, gi_sb, gi_sy, gl_si, gl_sl, gl_sz, gl_sr, gl_sa, gl_sb, gl_sy, gz_si, gz_sl, gz_sz, gz_sr, gz_sa, gz_sb, gz_sy, gr_si, gr_sl, gr_sz, gr_sr, gr_sa, gr_sb, gr_sy, ga_si, ga_sl, ga_sz, ga_sr, ga_sa, ga_sb, ga_sy, gb_si, gb_sl, gb_sz, gb_sr, gb_sa, gb_sb, gb_sy, gy_si, gy_sl, gy_sz, gy_sr, gy_sa, gy_sb, gy_sy, reduceIte, Nat.reduceEqDiff, and_true, true_and, and_self, false_and, and_false]; exact e4
  · simp only [gi_si, gi_sl, gi_sz, gi_sr, gi_sa, gi_sb, gi_sy, gl_si, gl_sl, gl_sz, gl_sr, gl_sa, gl_sb, gl_sy, gz_si, gz_sl, gz_sz, gz_sr, gz_sa, gz_sb, gz_sy, gr_si, gr_sl, gr_sz, gr_sr, gr_sa, gr_sb, gr_sy, ga_si, ga_sl, ga_sz, ga_sr, ga_sa, ga_sb, ga_sy, gb_si, gb_sl, gb_sz, gb_sr, gb_sa, gb_sb, gb_sy, gy_si, gy_sl, gy_sz, gy_sr, gy_sa, gy_sb, gy_sy, reduceIte, Nat.reduceEqDiff, and_true, true_and, and_self, false_and, and_false]; exact e10
theorem PreA_pg {S S2 : ST} (h : PreA S S2) (g1 g2 : Nat → Int32) (n : Nat) : PreA S (pg S2 g1 g2 n) := by
  obtain ⟨a1, ⟨a, ha, e4⟩, e10⟩ := h
  refine ⟨AG_si (AG_sa (AG_sa a1 rfl) rfl) rfl, ⟨a, ha, ?_⟩, ?_⟩
  · simp only [pg, gi_si, gi_sl, gi_sz, gi_sr, gi_sa, gi_sb, gi_sy, gl_si, gl_sl, gl_sz, gl_sr, gl_sa, gl_sb, gl_sy, gz_si, gz_sl, gz_sz, gz_sr, gz_sa, gz_sb, gz_sy, gr_si, gr_sl, gr_sz, gr_sr, gr_sa, gr_sb, gr_sy, ga_si, ga_sl, ga_sz, ga_sr, ga_sa, ga_sb, ga_sy, gb_si, gb_sl, gb_sz, gb_sr, gb_sa, gb_sb, gb_sy, gy_si, gy_sl, gy_sz, gy_sr, gy_sa, gy_sb, gy_sy, reduceIte, Nat.reduceEqDiff, and_true, true_and, and_self, false_and, and_false]; exact e4
  · simp only [pg, gi_si, gi_sl, gi_sz, gi_sr, gi_sa, gi_sb, gi_sy, gl_si, gl_sl, gl_sz, gl_sr, gl_sa, gl_sb, gl_sy, gz_si, gz_sl, gz_sz, gz_sr, gz_sa, gz_sb, gz_sy, gr_si, gr_sl, gr_sz, gr_sr, gr_sa, gr_sb, gr_sy, ga_si, ga_sl, ga_sz, ga_sr, ga_sa, ga_sb, ga_sy, gb_si, gb_sl, gb_sz, gb_sr, gb_sa, gb_sb, gb_sy, gy_si, gy_sl, gy_sz, gy_sr, gy_sa, gy_sb, gy_sy, reduceIte, Nat.reduceEqDiff, and_true, true_and, and_self, false_and, and_false]; exact e10
-- functions that are alike up to n
theorem anyB_cg {p q : Nat → Bool} : ∀ {n : Nat}, (∀ i, i < n → p i = q i) → anyB p n = anyB q n := by
  intro n
  induction n with
  | zero => intro h; rfl
  | succ n ih => intro h; rw [anyB, anyB, ih (fun i hi => h i (by omega)), h n (by omega)]
theorem crF_cg {d : DB} {x : Int32} {g g' : Nat → Int32} {n : Nat} (h : ∀ i, i < n → g i = g' i) : crF d x g n = crF d x g' n := by
  have : dupB g n = dupB g' n := by
    unfold dupB
    refine anyB_cg (fun i hi => anyB_cg (fun j hj => ?_))
    rw [h i hi, h j (by omega)]
  unfold crF
  rw [this]
theorem crW_cg {ty ty' nm nm' : Nat → Int32} : ∀ {c i : Nat}, (∀ k, i ≤ k → k < i + c → ty k = ty' k ∧ nm k = nm' k) → crW ty nm c i = crW ty' nm' c i := by
  intro c
  induction c with
  | zero => intro i h; rfl
  | succ c ih => intro i h; rw [crW, crW, (h i (by omega) (by omega)).1, (h i (by omega) (by omega)).2, ih (fun k h1 h2 => h k (by omega) (by omega))]
theorem inW_cg {ty ty' nm nm' : Nat → Int32} : ∀ {c i : Nat}, (∀ k, i ≤ k → k < i + c → ty k = ty' k ∧ nm k = nm' k) → inW ty nm c i = inW ty' nm' c i := by
  intro c
  induction c with
  | zero => intro i h; rfl
  | succ c ih => intro i h; rw [inW, inW, (h i (by omega) (by omega)).1, (h i (by omega) (by omega)).2, ih (fun k h1 h2 => h k (by omega) (by omega))]
theorem inF_cg {d : DB} {t : Nat} {g g' : Nat → Int32} {n : Nat} (h : ∀ i, i < n → g i = g' i) : inF d t g n = inF d t g' n := by
  have : anyB (fun i => clashB (g i) (dCT d t i)) n = anyB (fun i => clashB (g' i) (dCT d t i)) n := anyB_cg (fun i hi => by rw [h i hi])
  unfold inF
  rw [this]
def l1 (l : List (Int32 × Int32)) (i : Nat) : Int32 := (l.getD i (nI 0, nI 0)).1
def l2 (l : List (Int32 × Int32)) (i : Nat) : Int32 := (l.getD i (nI 0, nI 0)).2
def aCr (d : DB) (y : Int32 × List (Int32 × Int32)) : OUT := if crF d y.1 (l1 y.2) y.2.length = nI 0 then (nI 0, crD d y.1 y.2.length (l1 y.2) (l2 y.2), none) else (crF d y.1 (l1 y.2) y.2.length, d, none)
def aIn (d : DB) (y : Int32 × List (Int32 × Int32)) : OUT := match tfd d y.1 with
  | none => (-1001, d, none)
  | some t => if inF d t (l2 y.2) y.2.length = nI 0 then (nI 1, inD d t (dK d t) (l2 y.2) (l1 y.2), none) else (inF d t (l2 y.2) y.2.length, d, none)
theorem crF_3 (d : DB) (x : Int32) (g : Nat → Int32) (n : Nat) (h : crF d x g n = nI 0) : ¬ dC d = 4 := by
  unfold crF at h
  split at h
  · split at h
    · exact absurd h (by decide)
    · assumption
  · exact absurd h (by decide)
theorem inF_0 {d : DB} {t : Nat} {g : Nat → Int32} {n : Nat} (h : inF d t g n = nI 0) : n = dK d t ∧ ¬ dR d t = 24 := by
  unfold inF at h
  split at h
  · rename_i e
    split at h
    · exact absurd h (by decide)
    · split at h
      · exact absurd h (by decide)
      · exact ⟨e, by assumption⟩
  · exact absurd h (by decide)
section
variable (h : Nat) (S : ST) (d : DB) (jr jf : Nat) (T : WL)
/-- behind a good reading of a create -/
theorem act_cr (S2 : ST) (y : Int32 × List (Int32 × Int32)) (hd : DbC S d) (h0 : ∀ t, dC d ≤ t → dK d t = 0) (hk : RunK S) (hjr : gr S 2 3 0 = jr) (hjf : gr S 2 4 0 = jf) (hj1 : jf < 2) (hne : jr ≠ jf) (hT1 : 1 ≤ T.length) (hT : T.length ≤ 200) (hP : PreA S S2) (h9 : gi S2 9 2 0 = nI T.length) (hy1 : 1 ≤ y.2.length) (hy4 : y.2.length ≤ 4) (e8 : gi S2 6 8 0 = nI 200) (e10 : gi S2 6 10 0 = nI y.2.length) (e22 : ga S2 22 0 0 = y.1) (e24 : ∀ i, i < y.2.length → ga S2 24 0 i = l1 y.2 i ∧ ga S2 25 0 i = l2 y.2 i) : ∃ Qc : Option AV → ST → Prop, Ct MX0_check (h + 79) [vR 0 0] S2 Qc ∧ ∀ r S3, Qc r S3 → ∃ f : Int32, r = some (vI f) ∧ ((¬ f = nI 0 ∧ ActQ S jr (aCr d y) (some (vI f)) S3) ∨ (f = nI 0 ∧ ∃ Qm : Option AV → ST → Prop, Ct MX3_make (h + 79) [vR 3 0] S3 Qm ∧ ∀ r S4, Qm r S4 → r = none ∧ gi S4 9 2 0 = nI T.length ∧ ∃ Qx : Option AV → ST → Prop, Ct MX2_run (h + 79) [vR 2 0, vI (nI T.length)] S4 Qx ∧ ∀ r S5, Qx r S5 → ∃ x : Int32, r = some (vI x) ∧ ActQ S jr (aCr d y) (some (vI x)) S5)) := by
  obtain ⟨n0, h04⟩ := nI_surj (gi S2 0 4 0)
  have eF : crF d (ga S2 22 0 0) (ga S2 24 0) y.2.length = crF d y.1 (l1 y.2) y.2.length := by rw [e22]; exact crF_cg (fun i hi => (e24 i hi).1)
  refine ⟨_, c_check_create (h + 73) S2 d n0 y.2.length h04 (AGP_Db hP.1 hd) e8 e10 hy4, ?_⟩
  rintro r S3 ⟨rfl, rfl⟩
  rw [eF]
  refine ⟨_, rfl, ?_⟩
  by_cases q : crF d y.1 (l1 y.2) y.2.length = nI 0
  · right
    refine ⟨q, ?_⟩
    have hP3 := PreA_kt hP (ga S2 23 0) (ga S2 13 0) (ga S2 14 0) 0 (ga S2 12 0) n0
    obtain ⟨n1, h12⟩ := nI_surj (gi (kt S2 (ga S2 23 0) (ga S2 13 0) (ga S2 14 0) 0 (ga S2 12 0) n0) 1 2 1)
    refine ⟨_, c_make_create (h + 74) _ n1 y.2.length h12 (by simp only [kt, ck, cd, gi_si, gi_sl, gi_sz, gi_sr, gi_sa, gi_sb, gi_sy, gl_si, gl_sl, gl_sz, gl_sr, gl_sa, gl_sb, gl_sy, gz_si, gz_sl, gz_sz, gz_sr, gz_sa, gz_sb, gz_sy, gr_si, gr_sl, gr_sz, gr_sr, gr_sa, gr_sb, gr_sy, ga_si, ga_sl, ga_sz, ga_sr, ga_sa, ga_sb, ga_sy, gb_si, gb_sl, gb_sz, gb_sr, gb_sa, gb_sb, gb_sy, gy_si, gy_sl, gy_sz, gy_sr, gy_sa, gy_sb, gy_sy, reduceIte, Nat.reduceEqDiff, and_true, true_and, and_self, false_and, and_false]; exact e8) (by simp only [kt, ck, cd, gi_si, gi_sl, gi_sz, gi_sr, gi_sa, gi_sb, gi_sy, gl_si, gl_sl, gl_sz, gl_sr, gl_sa, gl_sb, gl_sy, gz_si, gz_sl, gz_sz, gz_sr, gz_sa, gz_sb, gz_sy, gr_si, gr_sl, gr_sz, gr_sr, gr_sa, gr_sb, gr_sy, ga_si, ga_sl, ga_sz, ga_sr, ga_sa, ga_sb, ga_sy, gb_si, gb_sl, gb_sz, gb_sr, gb_sa, gb_sb, gb_sy, gy_si, gy_sl, gy_sz, gy_sr, gy_sa, gy_sb, gy_sy, reduceIte, Nat.reduceEqDiff, and_true, true_and, and_self, false_and, and_false]; exact e10) hy4, ?_⟩
    rintro r S4 ⟨g1, g2, rfl, rfl, hcl⟩
    refine ⟨rfl, by simp only [pg, kt, ck, cd, gi_si, gi_sl, gi_sz, gi_sr, gi_sa, gi_sb, gi_sy, gl_si, gl_sl, gl_sz, gl_sr, gl_sa, gl_sb, gl_sy, gz_si, gz_sl, gz_sz, gz_sr, gz_sa, gz_sb, gz_sy, gr_si, gr_sl, gr_sz, gr_sr, gr_sa, gr_sb, gr_sy, ga_si, ga_sl, ga_sz, ga_sr, ga_sa, ga_sb, ga_sy, gb_si, gb_sl, gb_sz, gb_sr, gb_sa, gb_sb, gb_sy, gy_si, gy_sl, gy_sz, gy_sr, gy_sa, gy_sb, gy_sy, reduceIte, Nat.reduceEqDiff, and_true, true_and, and_self, false_and, and_false]; exact h9, ?_⟩
    have eW : ga (kt S2 (ga S2 23 0) (ga S2 13 0) (ga S2 14 0) 0 (ga S2 12 0) n0) 25 0 = ga S2 25 0 := by simp only [kt, ck, cd, gi_si, gi_sl, gi_sz, gi_sr, gi_sa, gi_sb, gi_sy, gl_si, gl_sl, gl_sz, gl_sr, gl_sa, gl_sb, gl_sy, gz_si, gz_sl, gz_sz, gz_sr, gz_sa, gz_sb, gz_sy, gr_si, gr_sl, gr_sz, gr_sr, gr_sa, gr_sb, gr_sy, ga_si, ga_sl, ga_sz, ga_sr, ga_sa, ga_sb, ga_sy, gb_si, gb_sl, gb_sz, gb_sr, gb_sa, gb_sb, gb_sy, gy_si, gy_sl, gy_sz, gy_sr, gy_sa, gy_sb, gy_sy, reduceIte, Nat.reduceEqDiff, and_true, true_and, and_self, false_and, and_false]
    have eW2 : ga (kt S2 (ga S2 23 0) (ga S2 13 0) (ga S2 14 0) 0 (ga S2 12 0) n0) 24 0 = ga S2 24 0 := by simp only [kt, ck, cd, gi_si, gi_sl, gi_sz, gi_sr, gi_sa, gi_sb, gi_sy, gl_si, gl_sl, gl_sz, gl_sr, gl_sa, gl_sb, gl_sy, gz_si, gz_sl, gz_sz, gz_sr, gz_sa, gz_sb, gz_sy, gr_si, gr_sl, gr_sz, gr_sr, gr_sa, gr_sb, gr_sy, ga_si, ga_sl, ga_sz, ga_sr, ga_sa, ga_sb, ga_sy, gb_si, gb_sl, gb_sz, gb_sr, gb_sa, gb_sb, gb_sy, gy_si, gy_sl, gy_sz, gy_sr, gy_sa, gy_sb, gy_sy, reduceIte, Nat.reduceEqDiff, and_true, true_and, and_self, false_and, and_false]
    have eW3 : ga (kt S2 (ga S2 23 0) (ga S2 13 0) (ga S2 14 0) 0 (ga S2 12 0) n0) 22 0 0 = y.1 := by simp only [kt, ck, cd, gi_si, gi_sl, gi_sz, gi_sr, gi_sa, gi_sb, gi_sy, gl_si, gl_sl, gl_sz, gl_sr, gl_sa, gl_sb, gl_sy, gz_si, gz_sl, gz_sz, gz_sr, gz_sa, gz_sb, gz_sy, gr_si, gr_sl, gr_sz, gr_sr, gr_sa, gr_sb, gr_sy, ga_si, ga_sl, ga_sz, ga_sr, ga_sa, ga_sb, ga_sy, gb_si, gb_sl, gb_sz, gb_sr, gb_sa, gb_sb, gb_sy, gy_si, gy_sl, gy_sz, gy_sr, gy_sa, gy_sb, gy_sy, reduceIte, Nat.reduceEqDiff, and_true, true_and, and_self, false_and, and_false]; exact e22
    have ecr : crW (ga S2 25 0) (ga S2 24 0) y.2.length 0 = crW (l2 y.2) (l1 y.2) y.2.length 0 := crW_cg (fun k _ hk => ⟨(e24 k (by omega)).2, (e24 k (by omega)).1⟩)
    rw [eW, eW2, eW3, ecr] at hcl ⊢
    have hP4 := PreA_pg hP3 g1 g2 (crW (l2 y.2) (l1 y.2) y.2.length 0 ++ [(nI 49, y.1)] ++ [(nI 27, nI 0)]).length
    have hc4 : dC d < 4 := by have := crF_3 _ _ _ _ q; have := hd.1.2; omega
    have hlen : (crW (l2 y.2) (l1 y.2) y.2.length 0).length = y.2.length := by
      have : ∀ c i, (crW (l2 y.2) (l1 y.2) c i).length = c := by
        intro c
        induction c with
        | zero => intro i; rfl
        | succ c ih => intro i; simp [crW, ih]
      exact this _ _
    refine ⟨_, run_create (h + 73) _ d T.length y.2.length jr jf y.1 (l2 y.2) (l1 y.2) (AGP_Db hP4.1 hd) hc4 (h0 _ (Nat.le_refl _)) hy4 hT1 hT ?_ ?_ hj1 hne (AGP_K hP4.1 hk).2.2 ⟨by simp only [pg, gi_si, gi_sl, gi_sz, gi_sr, gi_sa, gi_sb, gi_sy, gl_si, gl_sl, gl_sz, gl_sr, gl_sa, gl_sb, gl_sy, gz_si, gz_sl, gz_sz, gz_sr, gz_sa, gz_sb, gz_sy, gr_si, gr_sl, gr_sz, gr_sr, gr_sa, gr_sb, gr_sy, ga_si, ga_sl, ga_sz, ga_sr, ga_sa, ga_sb, ga_sy, gb_si, gb_sl, gb_sz, gb_sr, gb_sa, gb_sb, gb_sy, gy_si, gy_sl, gy_sz, gy_sr, gy_sa, gy_sb, gy_sy, reduceIte, Nat.reduceEqDiff, and_true, true_and, and_self, false_and, and_false], by simp [hlen]; omega, ?_⟩, ?_⟩
    · rw [((hP4.1 2 rfl).1 3 0).2.2.2]; exact hjr
    · rw [((hP4.1 2 rfl).1 4 0).2.2.2]; exact hjf
    · simp only [pg, gi_si, gi_sl, gi_sz, gi_sr, gi_sa, gi_sb, gi_sy, gl_si, gl_sl, gl_sz, gl_sr, gl_sa, gl_sb, gl_sy, gz_si, gz_sl, gz_sz, gz_sr, gz_sa, gz_sb, gz_sy, gr_si, gr_sl, gr_sz, gr_sr, gr_sa, gr_sb, gr_sy, ga_si, ga_sl, ga_sz, ga_sr, ga_sa, ga_sb, ga_sy, gb_si, gb_sl, gb_sz, gb_sr, gb_sa, gb_sb, gb_sy, gy_si, gy_sl, gy_sz, gy_sr, gy_sa, gy_sb, gy_sy, reduceIte, Nat.reduceEqDiff, and_true, true_and, and_self, false_and, and_false]; exact hcl
    · rintro r S5 ⟨rfl, a1, a2, a3, a4⟩
      refine ⟨_, rfl, ?_⟩
      have := act_run (nI 0) hP4 ⟨a1, a2, a3, a4⟩
      rw [aCr, if_pos q]
      exact this
  · left
    refine ⟨q, ?_⟩
    rw [aCr, if_neg q]
    exact act_fail _ hd hk (PreA_kt hP _ _ _ _ _ _)
theorem act_in (S2 : ST) (y : Int32 × List (Int32 × Int32)) (hd : DbC S d) (hk : RunK S) (hjr : gr S 2 3 0 = jr) (hjf : gr S 2 4 0 = jf) (hj1 : jf < 2) (hne : jr ≠ jf) (hT1 : 1 ≤ T.length) (hT : T.length ≤ 200) (hP : PreA S S2) (h9 : gi S2 9 2 0 = nI T.length) (hy1 : 1 ≤ y.2.length) (hy4 : y.2.length ≤ 4) (e8 : gi S2 6 8 0 = nI 201) (e9 : gi S2 6 9 0 = nI 1) (e10 : gi S2 6 10 0 = nI y.2.length) (e22 : ga S2 22 0 0 = y.1) (e24 : ∀ i, i < y.2.length → ga S2 26 0 i = l1 y.2 i ∧ ga S2 25 0 i = l2 y.2 i) : ∃ Qc : Option AV → ST → Prop, Ct MX0_check (h + 79) [vR 0 0] S2 Qc ∧ ∀ r S3, Qc r S3 → ∃ f : Int32, r = some (vI f) ∧ ((¬ f = nI 0 ∧ ActQ S jr (aIn d y) (some (vI f)) S3) ∨ (f = nI 0 ∧ ∃ Qm : Option AV → ST → Prop, Ct MX3_make (h + 79) [vR 3 0] S3 Qm ∧ ∀ r S4, Qm r S4 → r = none ∧ gi S4 9 2 0 = nI T.length ∧ ∃ Qx : Option AV → ST → Prop, Ct MX2_run (h + 79) [vR 2 0, vI (nI T.length)] S4 Qx ∧ ∀ r S5, Qx r S5 → ∃ x : Int32, r = some (vI x) ∧ ActQ S jr (aIn d y) (some (vI x)) S5)) := by
  obtain ⟨n0, h04⟩ := nI_surj (gi S2 0 4 0)
  have e22' : ∀ i, i < 1 → ga S2 22 0 i = (fun _ => y.1) i := by
    intro i hi
    have : i = 0 := by omega
    subst this
    exact e22
  refine ⟨_, c_check_insert (h + 73) S2 d n0 y.2.length (fun _ => y.1) h04 (AGP_Db hP.1 hd) ⟨e8, e9, by decide, e22'⟩ e10 hy4, ?_⟩
  rintro r S3 ⟨g23, rfl, hcase⟩
  rcases hcase with ⟨hA, rfl⟩ | ⟨hA, hg, rfl⟩
  · refine ⟨_, rfl, Or.inl ⟨by decide, ?_⟩⟩
    have hn : tfd d y.1 = none := by
      cases hq : tfd d y.1 with
      | none => rfl
      | some t => exact absurd (fun i _ => by show tfd d y.1 ≠ none; rw [hq]; simp) hA
    have : aIn d y = (-1001, d, none) := by unfold aIn; rw [hn]
    rw [this]
    exact act_fail _ hd hk (PreA_kt hP _ _ _ _ _ _)
  · have ht : tfd d y.1 = some (tno d (fun _ => y.1) 0) := tno_eq (d := d) (nm := fun _ => y.1) (i := 0) (hA 0 (by decide))
    have htl := tfd_lt ht
    have hdC := hd.1.2
    have eF : inF d (tno d (fun _ => y.1) 0) (ga S2 25 0) y.2.length = inF d (tno d (fun _ => y.1) 0) (l2 y.2) y.2.length := inF_cg (fun i hi => (e24 i hi).2)
    have eA : aIn d y = if inF d (tno d (fun _ => y.1) 0) (l2 y.2) y.2.length = nI 0 then (nI 1, inD d (tno d (fun _ => y.1) 0) (dK d (tno d (fun _ => y.1) 0)) (l2 y.2) (l1 y.2), none) else (inF d (tno d (fun _ => y.1) 0) (l2 y.2) y.2.length, d, none) := by unfold aIn; rw [ht]
    rw [eF]
    refine ⟨_, rfl, ?_⟩
    obtain ⟨t, hte⟩ : ∃ t, t = tno d (fun _ => y.1) 0 := ⟨_, rfl⟩
    rw [← hte] at htl hg eA ⊢
    by_cases q : inF d t (l2 y.2) y.2.length = nI 0
    · right
      refine ⟨q, ?_⟩
      obtain ⟨q1, q2⟩ := inF_0 q
      have hP3 := PreA_kt hP g23 (ga S2 13 0) (ga S2 14 0) 0 (ga S2 12 0) n0
      obtain ⟨n1, h12⟩ := nI_surj (gi (kt S2 g23 (ga S2 13 0) (ga S2 14 0) 0 (ga S2 12 0) n0) 1 2 1)
      refine ⟨_, c_make_insert (h + 74) _ n1 y.2.length t h12 (by simp only [kt, ck, cd, gi_si, gi_sl, gi_sz, gi_sr, gi_sa, gi_sb, gi_sy, gl_si, gl_sl, gl_sz, gl_sr, gl_sa, gl_sb, gl_sy, gz_si, gz_sl, gz_sz, gz_sr, gz_sa, gz_sb, gz_sy, gr_si, gr_sl, gr_sz, gr_sr, gr_sa, gr_sb, gr_sy, ga_si, ga_sl, ga_sz, ga_sr, ga_sa, ga_sb, ga_sy, gb_si, gb_sl, gb_sz, gb_sr, gb_sa, gb_sb, gb_sy, gy_si, gy_sl, gy_sz, gy_sr, gy_sa, gy_sb, gy_sy, reduceIte, Nat.reduceEqDiff, and_true, true_and, and_self, false_and, and_false]; exact e8) (by simp only [kt, ck, cd, gi_si, gi_sl, gi_sz, gi_sr, gi_sa, gi_sb, gi_sy, gl_si, gl_sl, gl_sz, gl_sr, gl_sa, gl_sb, gl_sy, gz_si, gz_sl, gz_sz, gz_sr, gz_sa, gz_sb, gz_sy, gr_si, gr_sl, gr_sz, gr_sr, gr_sa, gr_sb, gr_sy, ga_si, ga_sl, ga_sz, ga_sr, ga_sa, ga_sb, ga_sy, gb_si, gb_sl, gb_sz, gb_sr, gb_sa, gb_sb, gb_sy, gy_si, gy_sl, gy_sz, gy_sr, gy_sa, gy_sb, gy_sy, reduceIte, Nat.reduceEqDiff, and_true, true_and, and_self, false_and, and_false]; exact e10) hy4 (by simp only [kt, ck, cd, gi_si, gi_sl, gi_sz, gi_sr, gi_sa, gi_sb, gi_sy, gl_si, gl_sl, gl_sz, gl_sr, gl_sa, gl_sb, gl_sy, gz_si, gz_sl, gz_sz, gz_sr, gz_sa, gz_sb, gz_sy, gr_si, gr_sl, gr_sz, gr_sr, gr_sa, gr_sb, gr_sy, ga_si, ga_sl, ga_sz, ga_sr, ga_sa, ga_sb, ga_sy, gb_si, gb_sl, gb_sz, gb_sr, gb_sa, gb_sb, gb_sy, gy_si, gy_sl, gy_sz, gy_sr, gy_sa, gy_sb, gy_sy, reduceIte, Nat.reduceEqDiff, and_true, true_and, and_self, false_and, and_false]; exact hg), ?_⟩
      rintro r S4 ⟨g1, g2, rfl, rfl, hcl⟩
      refine ⟨rfl, by simp only [pg, kt, ck, cd, gi_si, gi_sl, gi_sz, gi_sr, gi_sa, gi_sb, gi_sy, gl_si, gl_sl, gl_sz, gl_sr, gl_sa, gl_sb, gl_sy, gz_si, gz_sl, gz_sz, gz_sr, gz_sa, gz_sb, gz_sy, gr_si, gr_sl, gr_sz, gr_sr, gr_sa, gr_sb, gr_sy, ga_si, ga_sl, ga_sz, ga_sr, ga_sa, ga_sb, ga_sy, gb_si, gb_sl, gb_sz, gb_sr, gb_sa, gb_sb, gb_sy, gy_si, gy_sl, gy_sz, gy_sr, gy_sa, gy_sb, gy_sy, reduceIte, Nat.reduceEqDiff, and_true, true_and, and_self, false_and, and_false]; exact h9, ?_⟩
      have eW : ga (kt S2 g23 (ga S2 13 0) (ga S2 14 0) 0 (ga S2 12 0) n0) 25 0 = ga S2 25 0 := by simp only [kt, ck, cd, gi_si, gi_sl, gi_sz, gi_sr, gi_sa, gi_sb, gi_sy, gl_si, gl_sl, gl_sz, gl_sr, gl_sa, gl_sb, gl_sy, gz_si, gz_sl, gz_sz, gz_sr, gz_sa, gz_sb, gz_sy, gr_si, gr_sl, gr_sz, gr_sr, gr_sa, gr_sb, gr_sy, ga_si, ga_sl, ga_sz, ga_sr, ga_sa, ga_sb, ga_sy, gb_si, gb_sl, gb_sz, gb_sr, gb_sa, gb_sb, gb_sy, gy_si, gy_sl, gy_sz, gy_sr, gy_sa, gy_sb, gy_sy, reduceIte, Nat.reduceEqDiff, and_true, true_and, and_self, false_and, and_false]
      have eW2 : ga (kt S2 g23 (ga S2 13 0) (ga S2 14 0) 0 (ga S2 12 0) n0) 26 0 = ga S2 26 0 := by simp only [kt, ck, cd, gi_si, gi_sl, gi_sz, gi_sr, gi_sa, gi_sb, gi_sy, gl_si, gl_sl, gl_sz, gl_sr, gl_sa, gl_sb, gl_sy, gz_si, gz_sl, gz_sz, gz_sr, gz_sa, gz_sb, gz_sy, gr_si, gr_sl, gr_sz, gr_sr, gr_sa, gr_sb, gr_sy, ga_si, ga_sl, ga_sz, ga_sr, ga_sa, ga_sb, ga_sy, gb_si, gb_sl, gb_sz, gb_sr, gb_sa, gb_sb, gb_sy, gy_si, gy_sl, gy_sz, gy_sr, gy_sa, gy_sb, gy_sy, reduceIte, Nat.reduceEqDiff, and_true, true_and, and_self, false_and, and_false]
      have ecr : inW (ga S2 25 0) (ga S2 26 0) y.2.length 0 = inW (l2 y.2) (l1 y.2) y.2.length 0 := inW_cg (fun k _ hk => ⟨(e24 k (by omega)).2, (e24 k (by omega)).1⟩)
      rw [eW, eW2, ecr, q1] at hcl ⊢
      have hP4 := PreA_pg hP3 g1 g2 ([(nI 21, nI t)] ++ inW (l2 y.2) (l1 y.2) (dK d t) 0 ++ [(nI 46, nI 0)] ++ [(nI 27, nI 0)]).length
      have h24 := (hd.2 t (by omega)).2.1
      refine ⟨_, run_insert (h + 73) _ d T.length t jr jf (l2 y.2) (l1 y.2) (AGP_Db hP4.1 hd) (by omega) (by omega) hT1 hT ?_ ?_ hj1 hne (AGP_K hP4.1 hk).2.2 ⟨by simp only [pg, gi_si, gi_sl, gi_sz, gi_sr, gi_sa, gi_sb, gi_sy, gl_si, gl_sl, gl_sz, gl_sr, gl_sa, gl_sb, gl_sy, gz_si, gz_sl, gz_sz, gz_sr, gz_sa, gz_sb, gz_sy, gr_si, gr_sl, gr_sz, gr_sr, gr_sa, gr_sb, gr_sy, ga_si, ga_sl, ga_sz, ga_sr, ga_sa, ga_sb, ga_sy, gb_si, gb_sl, gb_sz, gb_sr, gb_sa, gb_sb, gb_sy, gy_si, gy_sl, gy_sz, gy_sr, gy_sa, gy_sb, gy_sy, reduceIte, Nat.reduceEqDiff, and_true, true_and, and_self, false_and, and_false], by simp [inW_len]; omega, ?_⟩, ?_⟩
      · rw [((hP4.1 2 rfl).1 3 0).2.2.2]; exact hjr
      · rw [((hP4.1 2 rfl).1 4 0).2.2.2]; exact hjf
      · simp only [pg, gi_si, gi_sl, gi_sz, gi_sr, gi_sa, gi_sb, gi_sy, gl_si, gl_sl, gl_sz, gl_sr, gl_sa, gl_sb, gl_sy, gz_si, gz_sl, gz_sz, gz_sr, gz_sa, gz_sb, gz_sy, gr_si, gr_sl, gr_sz, gr_sr, gr_sa, gr_sb, gr_sy, ga_si, ga_sl, ga_sz, ga_sr, ga_sa, ga_sb, ga_sy, gb_si, gb_sl, gb_sz, gb_sr, gb_sa, gb_sb, gb_sy, gy_si, gy_sl, gy_sz, gy_sr, gy_sa, gy_sb, gy_sy, reduceIte, Nat.reduceEqDiff, and_true, true_and, and_self, false_and, and_false]; exact hcl
      · rintro r S5 ⟨rfl, a1, a2, a3, a4⟩
        refine ⟨_, rfl, ?_⟩
        have := act_run (nI 1) hP4 ⟨a1, a2, a3, a4⟩
        rw [eA, if_pos q]
        exact this
    · left
      refine ⟨q, ?_⟩
      rw [eA, if_neg q]
      exact act_fail _ hd hk (PreA_kt hP _ _ _ _ _ _)
end
