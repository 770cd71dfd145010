-- deps: 293
-- act: delete and update
theorem plN_in (d : DB) (T : WL) (nm : Nat → Int32) (no : Nat → Nat) (w : Nat) : ∀ (k i : Nat) (p : Option (Nat × Nat)) (a b : Nat), (∀ a b, p = some (a, b) → a < i + k ∧ b < dK d (no a)) → plN d T nm no w k i p = some (a, b) → a < i + k ∧ b < dK d (no a) := by
  intro k
  induction k with
  | zero => intro i p a b hp h; exact hp a b h
  | succ k ih =>
    intro i p a b hp h
    rw [plN] at h
    cases hf : fcO d T nm no w i with
    | none =>
      rw [hf] at h
      have := ih (i + 1) p a b (fun a b e => by have := hp a b e; omega) h
      omega
    | some c =>
      rw [hf] at h
      cases p with
      | some q => exact absurd h (by simp)
      | none =>
        have hc : c < dK d (no i) := by
          unfold fcO at hf
          split at hf
          · have := fcN_lt hf; omega
          · exact absurd hf (by simp)
        have := ih (i + 1) (some (i, c)) a b (fun a b e => by
          simp only [Option.some.injEq, Prod.mk.injEq] at e
          obtain ⟨rfl, rfl⟩ := e
          exact ⟨by omega, hc⟩) h
        omega
theorem plc_in {d : DB} {T : WL} {nm : Nat → Int32} {no : Nat → Nat} {tc w a b : Nat} (h : plc d T nm no tc w = some (a, b)) : a < tc ∧ b < dK d (no a) := by
  have := plN_in d T nm no w tc 0 none a b (fun a b e => absurd e (by simp)) h
  omega
section
variable (P : Nat → Option (Nat × Nat)) (ty : Nat → Nat → Int32)
def txF (x : WL) : Int32 := (tks P ty x [] 0).1
def txW (x : WL) : WL := (tks P ty x [] 0).2.1
def txT (x : WL) : Int32 := (tks P ty x [] 0).2.2.1.headD (nI 0)
def txH (x : WL) : Nat := (tks P ty x [] 0).2.2.2
end
section
variable {P : Nat → Option (Nat × Nat)} {ty : Nat → Nat → Int32} {K : Nat → Option Nat}
theorem TX_tx {x : WL} {f τ : Int32} {x' : WL} {hg : Nat} (h : TX P ty K x f x' τ hg) : txF P ty x = f ∧ (f = nI 0 → txW P ty x = x' ∧ txT P ty x = τ ∧ txH P ty x = hg) := by
  have := h.2.2.2.2 [] 0
  by_cases q : f = nI 0
  · have e := this.2 q
    unfold txF txW txT txH
    rw [e]
    exact ⟨q.symm, fun _ => ⟨rfl, rfl, by simp⟩⟩
  · exact ⟨this.1 q, fun z => absurd z q⟩
/-- what a tree comes to -/
theorem tx_ok {x : WL} (h : ∃ f x' τ hg, TX P ty K x f x' τ hg) : TX P ty K x (txF P ty x) (txW P ty x) (txT P ty x) (txH P ty x) ∨ (¬ txF P ty x = nI 0 ∧ ∀ st m, (tks P ty x st m).1 = txF P ty x) := by
  obtain ⟨f, x', τ, hg, h⟩ := h
  have e := TX_tx h
  by_cases q : f = nI 0
  · left
    obtain ⟨e1, e2, e3⟩ := e.2 q
    rw [e.1, e1, e2, e3]
    exact h
  · right
    rw [e.1]
    exact ⟨q, fun st m => (h.2.2.2.2 st m).1 q⟩
theorem ck_tx {x : WL} {g : Nat → Int32} {m : Nat} (hw : WH x 0) (h : ∃ f x' τ hg, TX P ty K x f x' τ hg) : (ckWs P ty x g 0 m).1 = txF P ty x ∧ (txF P ty x = nI 0 → (ckWs P ty x g 0 m).2.1 = txW P ty x ∧ (ckWs P ty x g 0 m).2.2.1 0 = txT P ty x ∧ (ckWs P ty x g 0 m).2.2.2.2 = max m (txH P ty x)) := by
  have hs := tks_sim (P := P) (ty := ty) (ws := x) (g := g) (st := []) (m := m) hw trivial
  rcases tx_ok h with hx | ⟨hx, hx2⟩
  · have h2 := hx.2.2.2.2 [] m
    by_cases q : txF P ty x = nI 0
    · have e := h2.2 q
      have e1 : (tks P ty x [] m).1 = nI 0 := by rw [e]
      have h3 := hs.2.2 e1
      rw [e] at h3
      refine ⟨hs.1.trans (e1.trans q.symm), fun _ => ⟨?_, h3.1.1, ?_⟩⟩
      · have := hs.2.1
        rw [e] at this
        exact this
      · have := h3.2.2
        simpa using this
    · exact ⟨hs.1.trans (h2.1 q), fun z => absurd z q⟩
  · exact ⟨hs.1.trans (hx2 [] m), fun z => absurd z hx⟩
end
/-- a condition, checked: the fault, the words then, how high the pile grows -/
def cdF (P : Nat → Option (Nat × Nat)) (ty : Nat → Nat → Int32) (c : Option WL) : Int32 := match c with
  | none => nI 0
  | some x => txF P ty x
def cdW (P : Nat → Option (Nat × Nat)) (ty : Nat → Nat → Int32) (c : Option WL) : Option WL := match c with
  | none => none
  | some x => some (txW P ty x)
def cdH (P : Nat → Option (Nat × Nat)) (ty : Nat → Nat → Int32) (c : Option WL) : Nat := match c with
  | none => 0
  | some x => txH P ty x
theorem cn_tx {P : Nat → Option (Nat × Nat)} {ty : Nat → Nat → Int32} {K : Nat → Option Nat} {c : Option WL} {g : Nat → Int32} {n m : Nat} (hw : WH (c.getD []) 0) (h : ∀ x, c = some x → ∃ f x' τ hg, TX P ty K x f x' τ hg) : (cnF P ty c g n m).1 = cdF P ty c ∧ (cdF P ty c = nI 0 → (cnF P ty c g n m).2.1 = (cdW P ty c).getD [] ∧ (cnF P ty c g n m).2.2.2.2 = max m (cdH P ty c)) := by
  cases c with
  | none => exact ⟨rfl, fun _ => ⟨rfl, by simp [cnF, cdH]⟩⟩
  | some x =>
    have := ck_tx (g := g) (m := m) hw (h x rfl)
    exact ⟨this.1, fun z => ⟨(this.2 z).1, (this.2 z).2.2⟩⟩
/-- the tables of a statement: where places are, what types they have -/
def pl1 (d : DB) (T : WL) (x : Int32) (t : Nat) : Nat → Option (Nat × Nat) := plc d T (fun _ => x) (fun _ => t) 1
def ty1 (d : DB) (t : Nat) : Nat → Nat → Int32 := fun _ c => dCT d t c
def aDe (T : WL) (d : DB) (y : Int32 × Option WL) : OUT := match tfd d y.1 with
  | none => (-1001, d, none)
  | some t =>
    if cdF (pl1 d T y.1 t) (ty1 d t) y.2 = nI 0 then
      (if 10 < cdH (pl1 d T y.1 t) (ty1 d t) y.2 then (-1008, d, none)
       else if fstF (rowF d t (cdW (pl1 d T y.1 t) (ty1 d t) y.2) none) (dR d t) 0 = nI 0 then (nI (dR d t - (delR d t (cdW (pl1 d T y.1 t) (ty1 d t) y.2)).2.2), dset d t (delR d t (cdW (pl1 d T y.1 t) (ty1 d t) y.2)).2.2 (delR d t (cdW (pl1 d T y.1 t) (ty1 d t) y.2)).1 (delR d t (cdW (pl1 d T y.1 t) (ty1 d t) y.2)).2.1, none)
       else (fstF (rowF d t (cdW (pl1 d T y.1 t) (ty1 d t) y.2) none) (dR d t) 0, d, none))
    else (cdF (pl1 d T y.1 t) (ty1 d t) y.2, d, none)
def aUp (T : WL) (d : DB) (y : Int32 × (Int32 × WL) × Option WL) : OUT := match tfd d y.1 with
  | none => (-1001, d, none)
  | some t => match fcN (dCN d t) y.2.1.1 (dK d t) 0 with
    | none => (-1001, d, none)
    | some c =>
      if txF (pl1 d T y.1 t) (ty1 d t) y.2.1.2 = nI 0 then
        (if clashB (txT (pl1 d T y.1 t) (ty1 d t) y.2.1.2) (dCT d t c) = true then (-1002, d, none)
         else if cdF (pl1 d T y.1 t) (ty1 d t) y.2.2 = nI 0 then
          (if 10 < max (txH (pl1 d T y.1 t) (ty1 d t) y.2.1.2) (cdH (pl1 d T y.1 t) (ty1 d t) y.2.2) then (-1008, d, none)
           else if fstF (rowF d t (cdW (pl1 d T y.1 t) (ty1 d t) y.2.2) (some (txW (pl1 d T y.1 t) (ty1 d t) y.2.1.2))) (dR d t) 0 = nI 0 then (nI (updR d t c (cdW (pl1 d T y.1 t) (ty1 d t) y.2.2) (txW (pl1 d T y.1 t) (ty1 d t) y.2.1.2)).2.2, dset d t (dR d t) (updR d t c (cdW (pl1 d T y.1 t) (ty1 d t) y.2.2) (txW (pl1 d T y.1 t) (ty1 d t) y.2.1.2)).1 (updR d t c (cdW (pl1 d T y.1 t) (ty1 d t) y.2.2) (txW (pl1 d T y.1 t) (ty1 d t) y.2.1.2)).2.1, none)
           else (fstF (rowF d t (cdW (pl1 d T y.1 t) (ty1 d t) y.2.2) (some (txW (pl1 d T y.1 t) (ty1 d t) y.2.1.2))) (dR d t) 0, d, none))
         else (cdF (pl1 d T y.1 t) (ty1 d t) y.2.2, d, none))
      else (txF (pl1 d T y.1 t) (ty1 d t) y.2.1.2, d, none)
theorem kw1_b (o : Nat) (h1 : 7 ≤ o) (h2 : o ≤ 20) (hn : ¬ o = 17) (hn2 : ¬ o = 18) (a b : Bool) (ks : List Bool) : kw1 (nI o) (b :: a :: ks) = if o ≤ 10 then some (false :: ks) else if o ≤ 16 then some (true :: ks) else if a = true ∧ b = true then some (true :: ks) else none := by
  have qe_o_1 : (nI o = nI 1) = (o = 1) := n_eqE (by omega) (by omega)
  have ql_o_1 : (nI o < nI 1) = (o < 1) := n_ltE (by omega) (by omega)
  have qg_o_1 : (nI 1 < nI o) = (1 < o) := n_ltE (by omega) (by omega)
  have qle_o_1 : (nI o ≤ nI 1) = (o ≤ 1) := n_leE (by omega) (by omega)
  have qge_o_1 : (nI 1 ≤ nI o) = (1 ≤ o) := n_leE (by omega) (by omega)
  have qe_o_2 : (nI o = nI 2) = (o = 2) := n_eqE (by omega) (by omega)
  have ql_o_2 : (nI o < nI 2) = (o < 2) := n_ltE (by omega) (by omega)
  have qg_o_2 : (nI 2 < nI o) = (2 < o) := n_ltE (by omega) (by omega)
  have qle_o_2 : (nI o ≤ nI 2) = (o ≤ 2) := n_leE (by omega) (by omega)
  have qge_o_2 : (nI 2 ≤ nI o) = (2 ≤ o) := n_leE (by omega) (by omega)
  have qe_o_3 : (nI o = nI 3) = (o = 3) := n_eqE (by omega) (by omega)
  have ql_o_3 : (nI o < nI 3) = (o < 3) := n_ltE (by omega) (by omega)
  have qg_o_3 : (nI 3 < nI o) = (3 < o) := n_ltE (by omega) (by omega)
  have qle_o_3 : (nI o ≤ nI 3) = (o ≤ 3) := n_leE (by omega) (by omega)
  have qge_o_3 : (nI 3 ≤ nI o) = (3 ≤ o) := n_leE (by omega) (by omega)
  have qe_o_4 : (nI o = nI 4) = (o = 4) := n_eqE (by omega) (by omega)
  have ql_o_4 : (nI o < nI 4) = (o < 4) := n_ltE (by omega) (by omega)
  have qg_o_4 : (nI 4 < nI o) = (4 < o) := n_ltE (by omega) (by omega)
  have qle_o_4 : (nI o ≤ nI 4) = (o ≤ 4) := n_leE (by omega) (by omega)
  have qge_o_4 : (nI 4 ≤ nI o) = (4 ≤ o) := n_leE (by omega) (by omega)
  have qe_o_5 : (nI o = nI 5) = (o = 5) := n_eqE (by omega) (by omega)
  have ql_o_5 : (nI o < nI 5) = (o < 5) := n_ltE (by omega) (by omega)
  have qg_o_5 : (nI 5 < nI o) = (5 < o) := n_ltE (by omega) (by omega)
  have qle_o_5 : (nI o ≤ nI 5) = (o ≤ 5) := n_leE (by omega) (by omega)
  have qge_o_5 : (nI 5 ≤ nI o) = (5 ≤ o) := n_leE (by omega) (by omega)
  have qe_o_6 : (nI o = nI 6) = (o = 6) := n_eqE (by omega) (by omega)
  have ql_o_6 : (nI o < nI 6) = (o < 6) := n_ltE (by omega) (by omega)
  have qg_o_6 : (nI 6 < nI o) = (6 < o) := n_ltE (by omega) (by omega)
  have qle_o_6 : (nI o ≤ nI 6) = (o ≤ 6) := n_leE (by omega) (by omega)
  have qge_o_6 : (nI 6 ≤ nI o) = (6 ≤ o) := n_leE (by omega) (by omega)
  have qe_o_10 : (nI o = nI 10) = (o = 10) := n_eqE (by omega) (by omega)
  have ql_o_10 : (nI o < nI 10) = (o < 10) := n_ltE (by omega) (by omega)
  have qg_o_10 : (nI 10 < nI o) = (10 < o) := n_ltE (by omega) (by omega)
  have qle_o_10 : (nI o ≤ nI 10) = (o ≤ 10) := n_leE (by omega) (by omega)
  have qge_o_10 : (nI 10 ≤ nI o) = (10 ≤ o) := n_leE (by omega) (by omega)
  have qe_o_16 : (nI o = nI 16) = (o = 16) := n_eqE (by omega) (by omega)
  have ql_o_16 : (nI o < nI 16) = (o < 16) := n_ltE (by omega) (by omega)
  have qg_o_16 : (nI 16 < nI o) = (16 < o) := n_ltE (by omega) (by omega)
  have qle_o_16 : (nI o ≤ nI 16) = (o ≤ 16) := n_leE (by omega) (by omega)
  have qge_o_16 : (nI 16 ≤ nI o) = (16 ≤ o) := n_leE (by omega) (by omega)
  have qe_o_17 : (nI o = nI 17) = (o = 17) := n_eqE (by omega) (by omega)
  have ql_o_17 : (nI o < nI 17) = (o < 17) := n_ltE (by omega) (by omega)
  have qg_o_17 : (nI 17 < nI o) = (17 < o) := n_ltE (by omega) (by omega)
  have qle_o_17 : (nI o ≤ nI 17) = (o ≤ 17) := n_leE (by omega) (by omega)
  have qge_o_17 : (nI 17 ≤ nI o) = (17 ≤ o) := n_leE (by omega) (by omega)
  have qe_o_18 : (nI o = nI 18) = (o = 18) := n_eqE (by omega) (by omega)
  have ql_o_18 : (nI o < nI 18) = (o < 18) := n_ltE (by omega) (by omega)
  have qg_o_18 : (nI 18 < nI o) = (18 < o) := n_ltE (by omega) (by omega)
  have qle_o_18 : (nI o ≤ nI 18) = (o ≤ 18) := n_leE (by omega) (by omega)
  have qge_o_18 : (nI 18 ≤ nI o) = (18 ≤ o) := n_leE (by omega) (by omega)
  have qe_o_50 : (nI o = nI 50) = (o = 50) := n_eqE (by omega) (by omega)
  have ql_o_50 : (nI o < nI 50) = (o < 50) := n_ltE (by omega) (by omega)
  have qg_o_50 : (nI 50 < nI o) = (50 < o) := n_ltE (by omega) (by omega)
  have qle_o_50 : (nI o ≤ nI 50) = (o ≤ 50) := n_leE (by omega) (by omega)
  have qge_o_50 : (nI 50 ≤ nI o) = (50 ≤ o) := n_leE (by omega) (by omega)
  simp only [kw1, qe_o_1, qe_o_2, qe_o_3, qe_o_4, qe_o_5, qe_o_50, qe_o_6, qe_o_17, qe_o_18, qle_o_10, qle_o_16]
  rw [if_neg (by omega), if_neg (by omega), if_neg hn, if_neg hn2]
theorem kw1_u (o : Nat) (h : o = 6 ∨ o = 17 ∨ o = 18) (b : Bool) (ks : List Bool) : kw1 (nI o) (b :: ks) = if o = 6 then some (false :: ks) else if o = 17 then some (true :: ks) else if b = true then some (true :: ks) else none := by
  have qe_o_1 : (nI o = nI 1) = (o = 1) := n_eqE (by omega) (by omega)
  have ql_o_1 : (nI o < nI 1) = (o < 1) := n_ltE (by omega) (by omega)
  have qg_o_1 : (nI 1 < nI o) = (1 < o) := n_ltE (by omega) (by omega)
  have qle_o_1 : (nI o ≤ nI 1) = (o ≤ 1) := n_leE (by omega) (by omega)
  have qge_o_1 : (nI 1 ≤ nI o) = (1 ≤ o) := n_leE (by omega) (by omega)
  have qe_o_2 : (nI o = nI 2) = (o = 2) := n_eqE (by omega) (by omega)
  have ql_o_2 : (nI o < nI 2) = (o < 2) := n_ltE (by omega) (by omega)
  have qg_o_2 : (nI 2 < nI o) = (2 < o) := n_ltE (by omega) (by omega)
  have qle_o_2 : (nI o ≤ nI 2) = (o ≤ 2) := n_leE (by omega) (by omega)
  have qge_o_2 : (nI 2 ≤ nI o) = (2 ≤ o) := n_leE (by omega) (by omega)
  have qe_o_3 : (nI o = nI 3) = (o = 3) := n_eqE (by omega) (by omega)
  have ql_o_3 : (nI o < nI 3) = (o < 3) := n_ltE (by omega) (by omega)
  have qg_o_3 : (nI 3 < nI o) = (3 < o) := n_ltE (by omega) (by omega)
  have qle_o_3 : (nI o ≤ nI 3) = (o ≤ 3) := n_leE (by omega) (by omega)
  have qge_o_3 : (nI 3 ≤ nI o) = (3 ≤ o) := n_leE (by omega) (by omega)
  have qe_o_4 : (nI o = nI 4) = (o = 4) := n_eqE (by omega) (by omega)
  have ql_o_4 : (nI o < nI 4) = (o < 4) := n_ltE (by omega) (by omega)
  have qg_o_4 : (nI 4 < nI o) = (4 < o) := n_ltE (by omega) (by omega)
  have qle_o_4 : (nI o ≤ nI 4) = (o ≤ 4) := n_leE (by omega) (by omega)
  have qge_o_4 : (nI 4 ≤ nI o) = (4 ≤ o) := n_leE (by omega) (by omega)
  have qe_o_5 : (nI o = nI 5) = (o = 5) := n_eqE (by omega) (by omega)
  have ql_o_5 : (nI o < nI 5) = (o < 5) := n_ltE (by omega) (by omega)
  have qg_o_5 : (nI 5 < nI o) = (5 < o) := n_ltE (by omega) (by omega)
  have qle_o_5 : (nI o ≤ nI 5) = (o ≤ 5) := n_leE (by omega) (by omega)
  have qge_o_5 : (nI 5 ≤ nI o) = (5 ≤ o) := n_leE (by omega) (by omega)
  have qe_o_6 : (nI o = nI 6) = (o = 6) := n_eqE (by omega) (by omega)
  have ql_o_6 : (nI o < nI 6) = (o < 6) := n_ltE (by omega) (by omega)
  have qg_o_6 : (nI 6 < nI o) = (6 < o) := n_ltE (by omega) (by omega)
  have qle_o_6 : (nI o ≤ nI 6) = (o ≤ 6) := n_leE (by omega) (by omega)
  have qge_o_6 : (nI 6 ≤ nI o) = (6 ≤ o) := n_leE (by omega) (by omega)
  have qe_o_10 : (nI o = nI 10) = (o = 10) := n_eqE (by omega) (by omega)
  have ql_o_10 : (nI o < nI 10) = (o < 10) := n_ltE (by omega) (by omega)
  have qg_o_10 : (nI 10 < nI o) = (10 < o) := n_ltE (by omega) (by omega)
  have qle_o_10 : (nI o ≤ nI 10) = (o ≤ 10) := n_leE (by omega) (by omega)
  have qge_o_10 : (nI 10 ≤ nI o) = (10 ≤ o) := n_leE (by omega) (by omega)
  have qe_o_16 : (nI o = nI 16) = (o = 16) := n_eqE (by omega) (by omega)
  have ql_o_16 : (nI o < nI 16) = (o < 16) := n_ltE (by omega) (by omega)
  have qg_o_16 : (nI 16 < nI o) = (16 < o) := n_ltE (by omega) (by omega)
  have qle_o_16 : (nI o ≤ nI 16) = (o ≤ 16) := n_leE (by omega) (by omega)
  have qge_o_16 : (nI 16 ≤ nI o) = (16 ≤ o) := n_leE (by omega) (by omega)
  have qe_o_17 : (nI o = nI 17) = (o = 17) := n_eqE (by omega) (by omega)
  have ql_o_17 : (nI o < nI 17) = (o < 17) := n_ltE (by omega) (by omega)
  have qg_o_17 : (nI 17 < nI o) = (17 < o) := n_ltE (by omega) (by omega)
  have qle_o_17 : (nI o ≤ nI 17) = (o ≤ 17) := n_leE (by omega) (by omega)
  have qge_o_17 : (nI 17 ≤ nI o) = (17 ≤ o) := n_leE (by omega) (by omega)
  have qe_o_18 : (nI o = nI 18) = (o = 18) := n_eqE (by omega) (by omega)
  have ql_o_18 : (nI o < nI 18) = (o < 18) := n_ltE (by omega) (by omega)
  have qg_o_18 : (nI 18 < nI o) = (18 < o) := n_ltE (by omega) (by omega)
  have qle_o_18 : (nI o ≤ nI 18) = (o ≤ 18) := n_leE (by omega) (by omega)
  have qge_o_18 : (nI 18 ≤ nI o) = (18 ≤ o) := n_leE (by omega) (by omega)
  have qe_o_50 : (nI o = nI 50) = (o = 50) := n_eqE (by omega) (by omega)
  have ql_o_50 : (nI o < nI 50) = (o < 50) := n_ltE (by omega) (by omega)
  have qg_o_50 : (nI 50 < nI o) = (50 < o) := n_ltE (by omega) (by omega)
  have qle_o_50 : (nI o ≤ nI 50) = (o ≤ 50) := n_leE (by omega) (by omega)
  have qge_o_50 : (nI 50 ≤ nI o) = (50 ≤ o) := n_leE (by omega) (by omega)
  simp only [kw1, qe_o_1, qe_o_2, qe_o_3, qe_o_4, qe_o_5, qe_o_50, qe_o_6, qe_o_17, qe_o_18, qle_o_10, qle_o_16]
  rw [if_neg (by omega)]
  by_cases h6 : o = 6
  · rw [if_pos h6, if_pos h6]
  rw [if_neg h6, if_neg h6]
  by_cases h17 : o = 17
  · rw [if_pos h17, if_pos h17]
  rw [if_neg h17, if_neg h17, if_pos (by omega)]
theorem kws_1 {w : Int32 × Int32} {ks ks' : List Bool} (h : kw1 w.1 ks = some ks') : kws [w] ks = some ks' := by
  rw [kws, h]
  rfl
/-- an expression leaves a value, a condition a truth value -/
theorem kws_X {T : WL} : ∀ (f : Nat) (x : WL), XW T f x → ∀ ks, kws x ks = some (false :: ks) := by
  intro f
  induction f with
  | zero => intro x h; exact h.elim
  | succ f ih =>
    intro x h ks
    rcases h with ⟨y, rfl⟩ | ⟨y, rfl⟩ | rfl | ⟨p, rfl, _⟩ | ⟨a, ha, rfl⟩ | ⟨a, b, o, ha, hb, ho, rfl⟩
    · exact kws_1 (by simp only [kw1, true_or, reduceIte])
    · exact kws_1 (by simp only [kw1, true_or, or_true, reduceIte])
    · exact kws_1 (by simp only [kw1, true_or, or_true, reduceIte])
    · exact kws_1 (by simp only [kw1, or_true, reduceIte])
    · rw [kws_app a _ ks _ (ih a ha ks)]
      exact kws_1 (by rw [kw1_u 6 (Or.inl rfl), if_pos rfl])
    · rw [List.append_assoc, kws_app a _ ks _ (ih a ha ks), kws_app b _ _ _ (ih b hb _)]
      exact kws_1 (by rw [kw1_b o (by omega) (by omega) (by omega) (by omega), if_pos (by omega)])
theorem kws_C {T : WL} : ∀ (f : Nat) (x : WL), XC T f x → ∀ ks, kws x ks = some (true :: ks) := by
  intro f
  induction f with
  | zero => intro x h; exact h.elim
  | succ f ih =>
    intro x h ks
    rcases h with ⟨a, ha, rfl⟩ | ⟨a, b, o, ha, hb, ho, rfl⟩ | ⟨a, ha, rfl⟩ | ⟨a, b, o, ha, hb, ho, rfl⟩
    · rw [kws_app a _ ks _ (kws_X f a ha ks)]
      exact kws_1 (by rw [kw1_u 17 (Or.inr (Or.inl rfl)), if_neg (by decide), if_pos rfl])
    · rw [List.append_assoc, kws_app a _ ks _ (kws_X f a ha ks), kws_app b _ _ _ (kws_X f b hb _)]
      exact kws_1 (by rw [kw1_b o (by omega) (by omega) (by omega) (by omega), if_neg (by omega), if_pos (by omega)])
    · rw [kws_app a _ ks _ (ih a ha ks)]
      exact kws_1 (by rw [kw1_u 18 (Or.inr (Or.inr rfl)), if_neg (by decide), if_neg (by decide), if_pos rfl])
    · rw [List.append_assoc, kws_app a _ ks _ (ih a ha ks), kws_app b _ _ _ (ih b hb _)]
      exact kws_1 (by rw [kw1_b o (by omega) (by omega) (by omega) (by omega), if_neg (by omega), if_neg (by omega), if_pos ⟨rfl, rfl⟩])
theorem kw1_op {w w' : Int32} (h : w' = w ∨ (w = nI 50 ∧ (w' = nI 4 ∨ w' = nI 5))) (ks : List Bool) : kw1 w' ks = kw1 w ks := by
  rcases h with rfl | ⟨rfl, rfl | rfl⟩
  · rfl
  · simp only [kw1, true_or, or_true, reduceIte]
  · simp only [kw1, true_or, or_true, reduceIte]
section
variable {P : Nat → Option (Nat × Nat)} {ty : Nat → Nat → Int32}
theorem tk1_op (hP : ∀ p i c, P p = some (i, c) → i < 2) (w : Int32 × Int32) (st : List Int32) : (tk1 P ty w st).2.1.1 = w.1 ∨ (w.1 = nI 50 ∧ ((tk1 P ty w st).2.1.1 = nI 4 ∨ (tk1 P ty w st).2.1.1 = nI 5)) := by
  unfold tk1
  split
  · rename_i h50
    cases hp : P w.2.toNatClampNeg with
    | none => exact Or.inl rfl
    | some q =>
      obtain ⟨i, c⟩ := q
      have hi := hP _ _ _ hp
      refine Or.inr ⟨h50, ?_⟩
      have : i = 0 ∨ i = 1 := by omega
      rcases this with rfl | rfl
      · exact Or.inl rfl
      · exact Or.inr rfl
  · (repeat' split) <;> exact Or.inl rfl
theorem kws_tks (hP : ∀ p i c, P p = some (i, c) → i < 2) : ∀ (x : WL) (st : List Int32) (m : Nat) (ks : List Bool), kws (tks P ty x st m).2.1 ks = kws x ks := by
  intro x
  induction x with
  | nil => intro st m ks; rfl
  | cons w ws ih =>
    intro st m ks
    rw [tks]
    split
    · show kws ((tk1 P ty w st).2.1 :: _) ks = _
      rw [kws, kws, kw1_op (tk1_op hP w st)]
      cases kw1 w.1 ks with
      | none => rfl
      | some k1 => exact ih _ _ k1
    · show kws ((tk1 P ty w st).2.1 :: ws) ks = _
      rw [kws, kws, kw1_op (tk1_op hP w st)]
theorem tx_C {T x : WL} (hP : ∀ p i c, P p = some (i, c) → i < 2) (hx : isC T x) : kws (txW P ty x) [] = some [true] := by
  obtain ⟨f, h⟩ := hx
  unfold txW
  rw [kws_tks hP]
  exact kws_C f x h []
theorem tx_K {T x : WL} (hP : ∀ p i c, P p = some (i, c) → i < 2) (hx : isX T x ∨ isC T x) : ∃ ks, kws (txW P ty x) [] = some ks := by
  rcases hx with ⟨f, h⟩ | h
  · refine ⟨[false], ?_⟩
    unfold txW
    rw [kws_tks hP]
    exact kws_X f x h []
  · exact ⟨[true], tx_C hP h⟩
end
/-- what checked trees may be done with -/
theorem tx_EO {d : DB} {T : WL} {nm : Nat → Int32} {no : Nat → Nat} {tc : Nat} {x : WL} (hT : T.length ≤ 200) (htc : tc ≤ 2) (h4 : ∀ i, i < tc → dK d (no i) ≤ 4) (hx : isX T x ∨ isC T x) : (∃ f x' τ hg, TX (plc d T nm no tc) (fun i c => dCT d (no i) c) (fun i => if i < tc then some (dK d (no i)) else none) x f x' τ hg) ∧ WH x 0 ∧ (txF (plc d T nm no tc) (fun i c => dCT d (no i) c) x = nI 0 → (txW (plc d T nm no tc) (fun i c => dCT d (no i) c) x).length = x.length ∧ OV (txW (plc d T nm no tc) (fun i c => dCT d (no i) c) x) ∧ 1 ≤ txH (plc d T nm no tc) (fun i c => dCT d (no i) c) x ∧ (txH (plc d T nm no tc) (fun i c => dCT d (no i) c) x ≤ 10 → EH d tc no (txW (plc d T nm no tc) (fun i c => dCT d (no i) c) x) 0)) := by
  have hP : ∀ p i c, plc d T nm no tc p = some (i, c) → i < 2 ∧ ∃ n, (fun i => if i < tc then some (dK d (no i)) else none) i = some n ∧ c < n := by
    intro p i c h
    have := plc_in h
    exact ⟨by omega, dK d (no i), by simp [this.1], this.2⟩
  have hTX : ∃ f x' τ hg, TX (plc d T nm no tc) (fun i c => dCT d (no i) c) (fun i => if i < tc then some (dK d (no i)) else none) x f x' τ hg := by
    rcases hx with ⟨f, h⟩ | ⟨f, h⟩
    · exact isX_TX hT hP f x h
    · exact isC_TX hT hP f x h
  have hW : WH x 0 := by
    rcases hx with h | h
    · exact WH_x hT h
    · exact WH_c hT h
  refine ⟨hTX, hW, fun h0 => ?_⟩
  have hck := ck_tx (g := fun _ => nI 0) (m := 0) hW hTX
  have hck2 := hck.2 h0
  rcases tx_ok hTX with hx2 | ⟨hx2, _⟩
  · have hy := hx2.2.2.2.1 h0
    refine ⟨hy.1, OV_Y (fun i n hn => ?_) hy.2 (tx_K (fun p i c h => (hP p i c h).1) hx), hx2.2.1, fun hle => ?_⟩
    · by_cases q : i < tc
      · simp [q] at hn; have := h4 i q; omega
      · simp [q] at hn
    · have := EH_ck (P := plc d T nm no tc) (ty := fun i c => dCT d (no i) c) (d := d) (tc := tc) (tj := no) (fun p i c h => by
        have := plc_in h
        exact ⟨this.1, by omega, this.2⟩) (g := fun _ => nI 0) (m := 0) hW (by rw [hck.1]; exact h0) (by rw [hck2.2.2]; omega)
      rw [hck2.1] at this
      exact this
  · exact absurd h0 hx2
theorem cdW_cnI {P : Nat → Option (Nat × Nat)} {ty : Nat → Nat → Int32} (c : Option WL) (n : Nat) : cnI (cdW P ty c) n = cnI c n := by cases c <;> rfl
section
variable (h : Nat) (S : ST) (d : DB) (jr jf : Nat) (T : WL)
theorem act_de (S2 : ST) (y : Int32 × Option WL) (hd : DbC S d) (hk : RunK S) (hjr : gr S 2 3 0 = jr) (hjf : gr S 2 4 0 = jf) (hj1 : jf < 2) (hne : jr ≠ jf) (hT : T.length ≤ 200) (hP : PreA S S2) (h9 : gi S2 9 2 0 = nI T.length) (hTk : TokIs S2 T) (hy : ∀ c, y.2 = some c → isC T c) (hyl : (y.2.getD []).length + 1 ≤ T.length) (e8 : gi S2 6 8 0 = nI 202) (e9 : gi S2 6 9 0 = nI 1) (e22 : ga S2 22 0 0 = y.1) (eL : gi S2 1 2 0 = nI (y.2.getD []).length) (ecl : CL (ga S2 13 0) (ga S2 14 0) (y.2.getD [])) (e13 : gi S2 6 13 0 = cnI y.2 0) : ∃ Qc : Option AV → ST → Prop, Ct MX0_check (h + 79) [vR 0 0] S2 Qc ∧ ∀ r S3, Qc r S3 → ∃ f : Int32, r = some (vI f) ∧ ((¬ f = nI 0 ∧ ActQ S jr (aDe T d y) (some (vI f)) S3) ∨ (f = nI 0 ∧ ∃ Qm : Option AV → ST → Prop, Ct MX3_make (h + 79) [vR 3 0] S3 Qm ∧ ∀ r S4, Qm r S4 → r = none ∧ gi S4 9 2 0 = nI T.length ∧ ∃ Qx : Option AV → ST → Prop, Ct MX2_run (h + 79) [vR 2 0, vI (nI T.length)] S4 Qx ∧ ∀ r S5, Qx r S5 → ∃ x : Int32, r = some (vI x) ∧ ActQ S jr (aDe T d y) (some (vI x)) S5)) := by
  obtain ⟨n0, h04⟩ := nI_surj (gi S2 0 4 0)
  have e22' : ∀ i, i < 1 → ga S2 22 0 i = (fun _ => y.1) i := by
    intro i hi
    have : i = 0 := by omega
    subst this
    exact e22
  have hwc : WH (y.2.getD []) 0 := by
    cases hc : y.2 with
    | none => trivial
    | some c => exact WH_c hT (hy c hc)
  refine ⟨_, c_check_delete (h + 73) S2 d T n0 (y.2.getD []).length (fun _ => y.1) y.2 h04 (AGP_Db hP.1 hd) hTk ⟨e8, e9, by decide, e22'⟩ eL rfl (by omega) ecl hwc e13, ?_⟩
  rintro r S3 ⟨g23, g1, g2, m, g, n, rfl, hcase⟩
  have hP3 := PreA_kt hP g23 g1 g2 m g n
  rcases hcase with ⟨hA, rfl⟩ | ⟨hA, hg, rfl, hcl⟩
  · refine ⟨_, rfl, Or.inl ⟨by decide, ?_⟩⟩
    have hn : tfd d y.1 = none := by
      cases hq : tfd d y.1 with
      | none => rfl
      | some t => exact absurd (fun i _ => by show tfd d y.1 ≠ none; rw [hq]; simp) hA
    have : aDe T d y = (-1001, d, none) := by unfold aDe; rw [hn]
    rw [this]
    exact act_fail _ hd hk hP3
  · have ht : tfd d y.1 = some (tno d (fun _ => y.1) 0) := tno_eq (d := d) (nm := fun _ => y.1) (i := 0) (hA 0 (by decide))
    have htl := tfd_lt ht
    have hdC := hd.1.2
    obtain ⟨t, hte⟩ : ∃ t, t = tno d (fun _ => y.1) 0 := ⟨_, rfl⟩
    have hno : tno d (fun _ => y.1) = fun _ => t := by rw [hte]; rfl
    rw [← hte] at htl hg ht
    rw [hno] at hcl ⊢
    have ht4 : t < 4 := by omega
    have h24 := (hd.2 t ht4).2.1
    have hEO : ∀ c, y.2 = some c → _ := fun c hc => tx_EO (d := d) (T := T) (nm := fun _ => y.1) (no := fun _ => t) (tc := 1) hT (by decide) (fun _ _ => h24.1) (Or.inr (hy c hc))
    have hcn := cn_tx (P := plc d T (fun _ => y.1) (fun _ => t) 1) (ty := fun i c => dCT d t c) (K := fun i => if i < 1 then some (dK d t) else none) (c := y.2) (g := ga S2 12 0) (n := n0) (m := 0) hwc (fun c hc => (hEO c hc).1)
    have eA : aDe T d y = if cdF (pl1 d T y.1 t) (ty1 d t) y.2 = nI 0 then (if 10 < cdH (pl1 d T y.1 t) (ty1 d t) y.2 then (-1008, d, none) else if fstF (rowF d t (cdW (pl1 d T y.1 t) (ty1 d t) y.2) none) (dR d t) 0 = nI 0 then (nI (dR d t - (delR d t (cdW (pl1 d T y.1 t) (ty1 d t) y.2)).2.2), dset d t (delR d t (cdW (pl1 d T y.1 t) (ty1 d t) y.2)).2.2 (delR d t (cdW (pl1 d T y.1 t) (ty1 d t) y.2)).1 (delR d t (cdW (pl1 d T y.1 t) (ty1 d t) y.2)).2.1, none) else (fstF (rowF d t (cdW (pl1 d T y.1 t) (ty1 d t) y.2) none) (dR d t) 0, d, none)) else (cdF (pl1 d T y.1 t) (ty1 d t) y.2, d, none) := by unfold aDe; rw [ht]
    change (cnF (pl1 d T y.1 t) (ty1 d t) y.2 (ga S2 12 0) n0 0).1 = cdF (pl1 d T y.1 t) (ty1 d t) y.2 ∧ (cdF (pl1 d T y.1 t) (ty1 d t) y.2 = nI 0 → (cnF (pl1 d T y.1 t) (ty1 d t) y.2 (ga S2 12 0) n0 0).2.1 = (cdW (pl1 d T y.1 t) (ty1 d t) y.2).getD [] ∧ (cnF (pl1 d T y.1 t) (ty1 d t) y.2 (ga S2 12 0) n0 0).2.2.2.2 = max 0 (cdH (pl1 d T y.1 t) (ty1 d t) y.2)) at hcn
    change CL g1 g2 (cnF (pl1 d T y.1 t) (ty1 d t) y.2 (ga S2 12 0) n0 0).2.1 at hcl
    refine ⟨fin5 (cnF (pl1 d T y.1 t) (ty1 d t) y.2 (ga S2 12 0) n0 0).1 (cnF (pl1 d T y.1 t) (ty1 d t) y.2 (ga S2 12 0) n0 0).2.2.2.2, rfl, ?_⟩
    by_cases q : cdF (pl1 d T y.1 t) (ty1 d t) y.2 = nI 0
    · obtain ⟨w1, w2⟩ := hcn.2 q
      rw [hcn.1, w2, q]
      rw [w1] at hcl
      rw [if_pos q] at eA
      by_cases q10 : 10 < cdH (pl1 d T y.1 t) (ty1 d t) y.2
      · left
        have e5 : fin5 (nI 0) (max 0 (cdH (pl1 d T y.1 t) (ty1 d t) y.2)) = -1008 := by rw [fin5, if_pos ⟨rfl, by omega⟩]
        rw [e5, eA, if_pos q10]
        exact ⟨by decide, act_fail _ hd hk hP3⟩
      · right
        have e5 : fin5 (nI 0) (max 0 (cdH (pl1 d T y.1 t) (ty1 d t) y.2)) = nI 0 := by rw [fin5, if_neg (by omega)]
        refine ⟨e5, ?_⟩
        rw [if_neg q10] at eA
        have hcw : ∀ c, cdW (pl1 d T y.1 t) (ty1 d t) y.2 = some c → EH d 1 (fun _ => t) c 0 ∧ OVC c := by
          intro c hc
          cases hy2 : y.2 with
          | none => rw [hy2] at hc; exact absurd hc (by simp [cdW])
          | some x =>
            have := hEO x hy2
            rw [hy2] at hc q q10
            simp only [cdW, Option.some.injEq] at hc
            subst hc
            have h2 := this.2.2 q
            exact ⟨h2.2.2.2 (by simp only [cdH] at q10; exact Nat.le_of_not_lt q10), h2.2.1, tx_C (fun p i c h => by have := (plc_in h).1; omega) (hy x hy2)⟩
        have hlen : ((cdW (pl1 d T y.1 t) (ty1 d t) y.2).getD []).length = (y.2.getD []).length := by
          cases hy2 : y.2 with
          | none => rfl
          | some x =>
            rw [hy2] at q
            exact ((hEO x hy2).2.2 q).1
        obtain ⟨n1, h12⟩ := nI_surj (gi (kt S2 g23 g1 g2 m g n) 1 2 1)
        refine ⟨_, c_make_delete (h + 74) (kt S2 g23 g1 g2 m g n) n1 (y.2.getD []).length (fun _ => t) (cdW (pl1 d T y.1 t) (ty1 d t) y.2) h12 (by simp only [kt, ck, cd, gi_si, gi_sl, gi_sz, gi_sr, gi_sa, gi_sb, gi_sy, gl_si, gl_sl, gl_sz, gl_sr, gl_sa, gl_sb, gl_sy, gz_si, gz_sl, gz_sz, gz_sr, gz_sa, gz_sb, gz_sy, gr_si, gr_sl, gr_sz, gr_sr, gr_sa, gr_sb, gr_sy, ga_si, ga_sl, ga_sz, ga_sr, ga_sa, ga_sb, ga_sy, gb_si, gb_sl, gb_sz, gb_sr, gb_sa, gb_sb, gb_sy, gy_si, gy_sl, gy_sz, gy_sr, gy_sa, gy_sb, gy_sy, reduceIte, Nat.reduceEqDiff, and_true, true_and, and_self, false_and, and_false]; exact e8) (by simp only [kt, ck, cd, gi_si, gi_sl, gi_sz, gi_sr, gi_sa, gi_sb, gi_sy, gl_si, gl_sl, gl_sz, gl_sr, gl_sa, gl_sb, gl_sy, gz_si, gz_sl, gz_sz, gz_sr, gz_sa, gz_sb, gz_sy, gr_si, gr_sl, gr_sz, gr_sr, gr_sa, gr_sb, gr_sy, ga_si, ga_sl, ga_sz, ga_sr, ga_sa, ga_sb, ga_sy, gb_si, gb_sl, gb_sz, gb_sr, gb_sa, gb_sb, gb_sy, gy_si, gy_sl, gy_sz, gy_sr, gy_sa, gy_sb, gy_sy, reduceIte, Nat.reduceEqDiff, and_true, true_and, and_self, false_and, and_false]; exact eL) hlen.symm (by omega) (by simp only [kt, ck, cd, gi_si, gi_sl, gi_sz, gi_sr, gi_sa, gi_sb, gi_sy, gl_si, gl_sl, gl_sz, gl_sr, gl_sa, gl_sb, gl_sy, gz_si, gz_sl, gz_sz, gz_sr, gz_sa, gz_sb, gz_sy, gr_si, gr_sl, gr_sz, gr_sr, gr_sa, gr_sb, gr_sy, ga_si, ga_sl, ga_sz, ga_sr, ga_sa, ga_sb, ga_sy, gb_si, gb_sl, gb_sz, gb_sr, gb_sa, gb_sb, gb_sy, gy_si, gy_sl, gy_sz, gy_sr, gy_sa, gy_sb, gy_sy, reduceIte, Nat.reduceEqDiff, and_true, true_and, and_self, false_and, and_false]; exact hcl) (by rw [cdW_cnI]; simp only [kt, ck, cd, gi_si, gi_sl, gi_sz, gi_sr, gi_sa, gi_sb, gi_sy, gl_si, gl_sl, gl_sz, gl_sr, gl_sa, gl_sb, gl_sy, gz_si, gz_sl, gz_sz, gz_sr, gz_sa, gz_sb, gz_sy, gr_si, gr_sl, gr_sz, gr_sr, gr_sa, gr_sb, gr_sy, ga_si, ga_sl, ga_sz, ga_sr, ga_sa, ga_sb, ga_sy, gb_si, gb_sl, gb_sz, gb_sr, gb_sa, gb_sb, gb_sy, gy_si, gy_sl, gy_sz, gy_sr, gy_sa, gy_sb, gy_sy, reduceIte, Nat.reduceEqDiff, and_true, true_and, and_self, false_and, and_false]; exact e13) (by simp only [kt, ck, cd, gi_si, gi_sl, gi_sz, gi_sr, gi_sa, gi_sb, gi_sy, gl_si, gl_sl, gl_sz, gl_sr, gl_sa, gl_sb, gl_sy, gz_si, gz_sl, gz_sz, gz_sr, gz_sa, gz_sb, gz_sy, gr_si, gr_sl, gr_sz, gr_sr, gr_sa, gr_sb, gr_sy, ga_si, ga_sl, ga_sz, ga_sr, ga_sa, ga_sb, ga_sy, gb_si, gb_sl, gb_sz, gb_sr, gb_sa, gb_sb, gb_sy, gy_si, gy_sl, gy_sz, gy_sr, gy_sa, gy_sb, gy_sy, reduceIte, Nat.reduceEqDiff, and_true, true_and, and_self, false_and, and_false]; exact e9) (by simp only [kt, ck, cd, gi_si, gi_sl, gi_sz, gi_sr, gi_sa, gi_sb, gi_sy, gl_si, gl_sl, gl_sz, gl_sr, gl_sa, gl_sb, gl_sy, gz_si, gz_sl, gz_sz, gz_sr, gz_sa, gz_sb, gz_sy, gr_si, gr_sl, gr_sz, gr_sr, gr_sa, gr_sb, gr_sy, ga_si, ga_sl, ga_sz, ga_sr, ga_sa, ga_sb, ga_sy, gb_si, gb_sl, gb_sz, gb_sr, gb_sa, gb_sb, gb_sy, gy_si, gy_sl, gy_sz, gy_sr, gy_sa, gy_sb, gy_sy, reduceIte, Nat.reduceEqDiff, and_true, true_and, and_self, false_and, and_false]; exact hg), ?_⟩
        rintro r S4 ⟨g1', g2', rfl, rfl, hcl'⟩
        refine ⟨rfl, by simp only [pg, kt, ck, cd, gi_si, gi_sl, gi_sz, gi_sr, gi_sa, gi_sb, gi_sy, gl_si, gl_sl, gl_sz, gl_sr, gl_sa, gl_sb, gl_sy, gz_si, gz_sl, gz_sz, gz_sr, gz_sa, gz_sb, gz_sy, gr_si, gr_sl, gr_sz, gr_sr, gr_sa, gr_sb, gr_sy, ga_si, ga_sl, ga_sz, ga_sr, ga_sa, ga_sb, ga_sy, gb_si, gb_sl, gb_sz, gb_sr, gb_sa, gb_sb, gb_sy, gy_si, gy_sl, gy_sz, gy_sr, gy_sa, gy_sb, gy_sy, reduceIte, Nat.reduceEqDiff, and_true, true_and, and_self, false_and, and_false]; exact h9, ?_⟩
        have hP4 := PreA_pg hP3 g1' g2' (enR (sr1 0 (fun _ => t) (cdW (pl1 d T y.1 t) (ty1 d t) y.2) ++ [(nI 41, nI 0)]) 1 1 ++ [(nI 43, nI 0)] ++ [(nI 27, nI 0)]).length
        have hul : (unl (cdW (pl1 d T y.1 t) (ty1 d t) y.2) 1).length ≤ (y.2.getD []).length + 1 := by
          rw [← hlen]
          cases cdW (pl1 d T y.1 t) (ty1 d t) y.2 <;> simp [unl]
        refine ⟨_, run_delete (h + 73) _ d T.length t jr jf (cdW (pl1 d T y.1 t) (ty1 d t) y.2) (AGP_Db hP4.1 hd) ht4 (by rw [hlen]; exact hyl) hT ?_ ?_ hj1 hne (AGP_K hP4.1 hk).2.2 (fun _ => t) rfl hcw ⟨by simp only [pg, gi_si, gi_sl, gi_sz, gi_sr, gi_sa, gi_sb, gi_sy, gl_si, gl_sl, gl_sz, gl_sr, gl_sa, gl_sb, gl_sy, gz_si, gz_sl, gz_sz, gz_sr, gz_sa, gz_sb, gz_sy, gr_si, gr_sl, gr_sz, gr_sr, gr_sa, gr_sb, gr_sy, ga_si, ga_sl, ga_sz, ga_sr, ga_sa, ga_sb, ga_sy, gb_si, gb_sl, gb_sz, gb_sr, gb_sa, gb_sb, gb_sy, gy_si, gy_sl, gy_sz, gy_sr, gy_sa, gy_sb, gy_sy, reduceIte, Nat.reduceEqDiff, and_true, true_and, and_self, false_and, and_false], by simp [enR, sr1]; omega, ?_⟩, ?_⟩
        · rw [((hP4.1 2 rfl).1 3 0).2.2.2]; exact hjr
        · rw [((hP4.1 2 rfl).1 4 0).2.2.2]; exact hjf
        · simp only [pg, gi_si, gi_sl, gi_sz, gi_sr, gi_sa, gi_sb, gi_sy, gl_si, gl_sl, gl_sz, gl_sr, gl_sa, gl_sb, gl_sy, gz_si, gz_sl, gz_sz, gz_sr, gz_sa, gz_sb, gz_sy, gr_si, gr_sl, gr_sz, gr_sr, gr_sa, gr_sb, gr_sy, ga_si, ga_sl, ga_sz, ga_sr, ga_sa, ga_sb, ga_sy, gb_si, gb_sl, gb_sz, gb_sr, gb_sa, gb_sb, gb_sy, gy_si, gy_sl, gy_sz, gy_sr, gy_sa, gy_sb, gy_sy, reduceIte, Nat.reduceEqDiff, and_true, true_and, and_self, false_and, and_false]; exact hcl'
        · rintro r S5 hq
          rcases hq with ⟨z, rfl, hO⟩ | ⟨z, rfl, hO⟩
          · refine ⟨_, rfl, ?_⟩
            rw [eA, if_neg z]
            exact act_run _ hP4 hO
          · refine ⟨_, rfl, ?_⟩
            rw [eA, if_pos z]
            exact act_run _ hP4 hO
    · left
      rw [fin5_f (by rw [hcn.1]; exact q), hcn.1, eA, if_neg q]
      exact ⟨q, act_fail _ hd hk hP3⟩
end
