-- deps: 267
-- the rows of a delete or an update
def fstF (f : Nat → Int32) : Nat → Nat → Int32
  | 0, _ => nI 0
  | k + 1, i => if f i = nI 0 then fstF f k (i + 1) else f i
def bw (bd : Option WL) : WL := match bd with
  | none => [(nI 41, nI 0)]
  | some sg => sg ++ [(nI 42, nI 0)]
def bdE (ld : Nat → Nat → VN) (bd : Option WL) : Int32 × VN := match bd with
  | none => (nI 0, (nI 0, true))
  | some sg => evX ld sg
def ld1 (d : DB) (j r : Nat) : Nat → Nat → VN := ldE d (fun _ => j) (fun _ => r)
def rowF (d : DB) (j : Nat) (cnd bd : Option WL) (r : Nat) : Int32 := if (cndE (ld1 d j r) cnd).1 = nI 0 then (if (cndE (ld1 d j r) cnd).2 = true then (bdE (ld1 d j r) bd).1 else nI 0) else (cndE (ld1 d j r) cnd).1
/-- the marks of the rows before r -/
def MkR (d : DB) (j : Nat) (cnd bd : Option WL) (r : Nat) (mk : Nat → Bool) (nr : Nat → Int64) : Prop := ∀ i, i < 24 → mk i = (decide (i < r) && (cndE (ld1 d j i) cnd).2) ∧ (mk i = true → nr i = hN (bdE (ld1 d j i) bd).2.2 (bdE (ld1 d j i) bd).2.1)
section
variable (h : Nat) (x : Int32) (S1 : ST) (Q : Option AV → ST → Prop) (P post : WL) (j : Nat) (d : DB) (cnd bd : Option WL) (E N : Nat)
theorem mkS_P {S1 : ST} {P : WL} (hP : PrC S1 P) (j : Nat) (mk : Nat → Bool) (nr : Nat → Int64) (y : Int32) : PrC (si (mkS S1 j mk nr) 2 7 0 y) P := by unfold PrC at *; simp only [mkS, gi_si, gi_sl, gi_sz, gi_sr, gi_sa, gi_sb, gi_sy, gl_si, gl_sl, gl_sz, gl_sr, gl_sa, gl_sb, gl_sy, gz_si, gz_sl, gz_sz, gz_sr, gz_sa, gz_sb, gz_sy, gr_si, gr_sl, gr_sz, gr_sr, gr_sa, gr_sb, gr_sy, ga_si, ga_sl, ga_sz, ga_sr, ga_sa, ga_sb, ga_sy, gb_si, gb_sl, gb_sz, gb_sr, gb_sa, gb_sb, gb_sy, gy_si, gy_sl, gy_sz, gy_sr, gy_sa, gy_sb, gy_sy, reduceIte, Nat.reduceEqDiff, and_true, true_and, and_self, false_and, and_false]; exact hP
theorem mkS_si (S : ST) (j : Nat) (mk : Nat → Bool) (nr : Nat → Int64) (y : Int32) : si (mkS S j mk nr) 2 7 0 y = mkS (si S 2 7 0 y) j mk nr := by (apply ST_ext <;> intros <;> (try simp only [mkS, gi_si, gi_sl, gi_sz, gi_sr, gi_sa, gi_sb, gi_sy, gl_si, gl_sl, gl_sz, gl_sr, gl_sa, gl_sb, gl_sy, gz_si, gz_sl, gz_sz, gz_sr, gz_sa, gz_sb, gz_sy, gr_si, gr_sl, gr_sz, gr_sr, gr_sa, gr_sb, gr_sy, ga_si, ga_sl, ga_sz, ga_sr, ga_sa, ga_sb, ga_sy, gb_si, gb_sl, gb_sz, gb_sr, gb_sa, gb_sb, gb_sy, gy_si, gy_sl, gy_sz, gy_sr, gy_sa, gy_sb, gy_sy, reduceIte, Nat.reduceEqDiff, and_true, true_and, and_self, false_and, and_false]) <;> (try ((repeat' split) <;> simp_all)))
theorem si_si9 (S : ST) (y y' : Int32) : si (si S 2 7 0 y) 2 7 0 y' = si S 2 7 0 y' := by (apply ST_ext <;> intros <;> (try simp only [mkS, gi_si, gi_sl, gi_sz, gi_sr, gi_sa, gi_sb, gi_sy, gl_si, gl_sl, gl_sz, gl_sr, gl_sa, gl_sb, gl_sy, gz_si, gz_sl, gz_sz, gz_sr, gz_sa, gz_sb, gz_sy, gr_si, gr_sl, gr_sz, gr_sr, gr_sa, gr_sb, gr_sy, ga_si, ga_sl, ga_sz, ga_sr, ga_sa, ga_sb, ga_sy, gb_si, gb_sl, gb_sz, gb_sr, gb_sa, gb_sb, gb_sy, gy_si, gy_sl, gy_sz, gy_sr, gy_sa, gy_sb, gy_sy, reduceIte, Nat.reduceEqDiff, and_true, true_and, and_self, false_and, and_false]) <;> (try ((repeat' split) <;> simp_all)))
theorem mkS_Db {S1 : ST} {d : DB} (hd : DbC S1 d) (j : Nat) (mk : Nat → Bool) (nr : Nat → Int64) : DbC (mkS S1 j mk nr) d := DbC_same hd (by simp only [mkS, gi_si, gi_sl, gi_sz, gi_sr, gi_sa, gi_sb, gi_sy, gl_si, gl_sl, gl_sz, gl_sr, gl_sa, gl_sb, gl_sy, gz_si, gz_sl, gz_sz, gz_sr, gz_sa, gz_sb, gz_sy, gr_si, gr_sl, gr_sz, gr_sr, gr_sa, gr_sb, gr_sy, ga_si, ga_sl, ga_sz, ga_sr, ga_sa, ga_sb, ga_sy, gb_si, gb_sl, gb_sz, gb_sr, gb_sa, gb_sb, gb_sy, gy_si, gy_sl, gy_sz, gy_sr, gy_sa, gy_sb, gy_sy, reduceIte, Nat.reduceEqDiff, and_true, true_and, and_self, false_and, and_false]) (by intro k t; simp only [mkS, gi_si, gi_sl, gi_sz, gi_sr, gi_sa, gi_sb, gi_sy, gl_si, gl_sl, gl_sz, gl_sr, gl_sa, gl_sb, gl_sy, gz_si, gz_sl, gz_sz, gz_sr, gz_sa, gz_sb, gz_sy, gr_si, gr_sl, gr_sz, gr_sr, gr_sa, gr_sb, gr_sy, ga_si, ga_sl, ga_sz, ga_sr, ga_sa, ga_sb, ga_sy, gb_si, gb_sl, gb_sz, gb_sr, gb_sa, gb_sb, gb_sy, gy_si, gy_sl, gy_sz, gy_sr, gy_sa, gy_sb, gy_sy, reduceIte, Nat.reduceEqDiff, and_true, true_and, and_self, false_and, and_false]) (by intro t; simp only [mkS, gi_si, gi_sl, gi_sz, gi_sr, gi_sa, gi_sb, gi_sy, gl_si, gl_sl, gl_sz, gl_sr, gl_sa, gl_sb, gl_sy, gz_si, gz_sl, gz_sz, gz_sr, gz_sa, gz_sb, gz_sy, gr_si, gr_sl, gr_sz, gr_sr, gr_sa, gr_sb, gr_sy, ga_si, ga_sl, ga_sz, ga_sr, ga_sa, ga_sb, ga_sy, gb_si, gb_sl, gb_sz, gb_sr, gb_sa, gb_sb, gb_sy, gy_si, gy_sl, gy_sz, gy_sr, gy_sa, gy_sb, gy_sy, reduceIte, Nat.reduceEqDiff, and_true, true_and, and_self, false_and, and_false]; try exact ⟨rfl, rfl, rfl, rfl⟩)
theorem si9_Db {S1 : ST} {d : DB} (hd : DbC S1 d) (y : Int32) : DbC (si S1 2 7 0 y) d := DbC_same hd (by simp only [gi_si, gi_sl, gi_sz, gi_sr, gi_sa, gi_sb, gi_sy, gl_si, gl_sl, gl_sz, gl_sr, gl_sa, gl_sb, gl_sy, gz_si, gz_sl, gz_sz, gz_sr, gz_sa, gz_sb, gz_sy, gr_si, gr_sl, gr_sz, gr_sr, gr_sa, gr_sb, gr_sy, ga_si, ga_sl, ga_sz, ga_sr, ga_sa, ga_sb, ga_sy, gb_si, gb_sl, gb_sz, gb_sr, gb_sa, gb_sb, gb_sy, gy_si, gy_sl, gy_sz, gy_sr, gy_sa, gy_sb, gy_sy, reduceIte, Nat.reduceEqDiff, and_true, true_and, and_self, false_and, and_false]) (by intro k t; simp only [gi_si, gi_sl, gi_sz, gi_sr, gi_sa, gi_sb, gi_sy, gl_si, gl_sl, gl_sz, gl_sr, gl_sa, gl_sb, gl_sy, gz_si, gz_sl, gz_sz, gz_sr, gz_sa, gz_sb, gz_sy, gr_si, gr_sl, gr_sz, gr_sr, gr_sa, gr_sb, gr_sy, ga_si, ga_sl, ga_sz, ga_sr, ga_sa, ga_sb, ga_sy, gb_si, gb_sl, gb_sz, gb_sr, gb_sa, gb_sb, gb_sy, gy_si, gy_sl, gy_sz, gy_sr, gy_sa, gy_sb, gy_sy, reduceIte, Nat.reduceEqDiff, and_true, true_and, and_self, false_and, and_false]) (by intro t; simp only [gi_si, gi_sl, gi_sz, gi_sr, gi_sa, gi_sb, gi_sy, gl_si, gl_sl, gl_sz, gl_sr, gl_sa, gl_sb, gl_sy, gz_si, gz_sl, gz_sz, gz_sr, gz_sa, gz_sb, gz_sy, gr_si, gr_sl, gr_sz, gr_sr, gr_sa, gr_sb, gr_sy, ga_si, ga_sl, ga_sz, ga_sr, ga_sa, ga_sb, ga_sy, gb_si, gb_sl, gb_sz, gb_sr, gb_sa, gb_sb, gb_sy, gy_si, gy_sl, gy_sz, gy_sr, gy_sa, gy_sb, gy_sy, reduceIte, Nat.reduceEqDiff, and_true, true_and, and_self, false_and, and_false]; try exact ⟨rfl, rfl, rfl, rfl⟩)
theorem upd_loop (hP : PrC S1 P) (hp : P = [(nI 21, nI j), (nI 23, nI E)] ++ unl cnd 1 ++ bw bd ++ [(nI 26, nI 1)] ++ post) (hE : E = 2 + (unl cnd 1).length + (bw bd).length + 1) (hr : gz S1 2 13 0 = true) (hd : DbC S1 d) (hj : j < 4) (h7 : gr S1 2 5 0 = j) (hc : ∀ c, cnd = some c → EH d 1 (fun _ => j) c 0 ∧ OVC c) (hb : ∀ c, bd = some c → EH d 1 (fun _ => j) c 0 ∧ OV c) (hNN : N < 999990)
    (hQf : ∀ (f : Int32) (X : ST) (a n : Nat) (v : Nat → Int32) (m : Nat → Bool) (t : Nat), (∃ mk nr y, X = si (mkS S1 j mk nr) 2 7 0 y) → n ≤ N → f = fstF (rowF d j cnd bd) (dR d j) 0 → ¬ f = nI 0 → Q (some (vI f)) (sl (flS (mp (rg X a n) v m t) f) 2 17 0 (limL X x)))
    (hQe : fstF (rowF d j cnd bd) (dR d j) 0 = nI 0 → ∀ (n : Nat) (mk : Nat → Bool) (nr : Nat → Int64) (y : Int32) (v : Nat → Int32) (m : Nat → Bool), MkR d j cnd bd (dR d j) mk nr → n ≤ N → RUN (h + 2) x n (mp (rg (si (mkS S1 j mk nr) 2 7 0 y) E n) v m 0) Q) :
    ∀ (k r n : Nat) (y : Int32) (mk : Nat → Bool) (nr : Nat → Int64) (v : Nat → Int32) (m : Nat → Bool), r + k = dR d j → y + nI 1 = nI r → MkR d j cnd bd r mk nr → fstF (rowF d j cnd bd) (dR d j) 0 = fstF (rowF d j cnd bd) k r → n + 1 + k * (2 + (unl cnd 1).length + (bw bd).length) ≤ N → RUN (h + 2) x n (mp (rg (si (mkS S1 j mk nr) 2 7 0 y) 1 n) v m 0) Q := by
  have h24 := (hd.2 j hj).2.1.2
  intro k
  induction k with
  | zero =>
    intro r n y mk nr v m hk hy hM hF hn
    refine run_G h x (si (mkS S1 j mk nr) 2 7 0 y) Q _ P 1 n 23 (nI E) v m 0 (mkS_P hP ..) (by simp only [mkS, gi_si, gi_sl, gi_sz, gi_sr, gi_sa, gi_sb, gi_sy, gl_si, gl_sl, gl_sz, gl_sr, gl_sa, gl_sb, gl_sy, gz_si, gz_sl, gz_sz, gz_sr, gz_sa, gz_sb, gz_sy, gr_si, gr_sl, gr_sz, gr_sr, gr_sa, gr_sb, gr_sy, ga_si, ga_sl, ga_sz, ga_sr, ga_sa, ga_sb, ga_sy, gb_si, gb_sl, gb_sz, gb_sr, gb_sa, gb_sb, gb_sy, gy_si, gy_sl, gy_sz, gy_sr, gy_sa, gy_sb, gy_sy, reduceIte, Nat.reduceEqDiff, and_true, true_and, and_self, false_and, and_false]; exact hr) (by rw [hp]; simp) (by omega) (by decide) (by decide) (c_goNextO (h + 2) _ 2 (n + 1) v m 0 d j r E y (si9_Db (mkS_Db hd ..) _) hj (by simp only [mkS, gi_si, gi_sl, gi_sz, gi_sr, gi_sa, gi_sb, gi_sy, gl_si, gl_sl, gl_sz, gl_sr, gl_sa, gl_sb, gl_sy, gz_si, gz_sl, gz_sz, gz_sr, gz_sa, gz_sb, gz_sy, gr_si, gr_sl, gr_sz, gr_sr, gr_sa, gr_sb, gr_sy, ga_si, ga_sl, ga_sz, ga_sr, ga_sa, ga_sb, ga_sy, gb_si, gb_sl, gb_sz, gb_sr, gb_sa, gb_sb, gb_sy, gy_si, gy_sl, gy_sz, gy_sr, gy_sa, gy_sb, gy_sy, reduceIte, Nat.reduceEqDiff, and_true, true_and, and_self, false_and, and_false]; exact h7) (by simp only [gi_si, gi_sl, gi_sz, gi_sr, gi_sa, gi_sb, gi_sy, gl_si, gl_sl, gl_sz, gl_sr, gl_sa, gl_sb, gl_sy, gz_si, gz_sl, gz_sz, gz_sr, gz_sa, gz_sb, gz_sy, gr_si, gr_sl, gr_sz, gr_sr, gr_sa, gr_sb, gr_sy, ga_si, ga_sl, ga_sz, ga_sr, ga_sa, ga_sb, ga_sy, gb_si, gb_sl, gb_sz, gb_sr, gb_sa, gb_sb, gb_sy, gy_si, gy_sl, gy_sz, gy_sr, gy_sa, gy_sb, gy_sy, reduceIte, Nat.reduceEqDiff, and_true, true_and, and_self, false_and, and_false]) hy (by omega)) ?_
    rintro S' rfl
    rw [if_pos (by omega), si_si9]
    have : r = dR d j := by omega
    subst this
    exact hQe hF (n + 1) mk nr _ v m hM (by omega)
  | succ k ih =>
    intro r n y mk nr v m hk hy hM hF hn
    rw [Nat.succ_mul] at hn
    refine run_G h x (si (mkS S1 j mk nr) 2 7 0 y) Q _ P 1 n 23 (nI E) v m 0 (mkS_P hP ..) (by simp only [mkS, gi_si, gi_sl, gi_sz, gi_sr, gi_sa, gi_sb, gi_sy, gl_si, gl_sl, gl_sz, gl_sr, gl_sa, gl_sb, gl_sy, gz_si, gz_sl, gz_sz, gz_sr, gz_sa, gz_sb, gz_sy, gr_si, gr_sl, gr_sz, gr_sr, gr_sa, gr_sb, gr_sy, ga_si, ga_sl, ga_sz, ga_sr, ga_sa, ga_sb, ga_sy, gb_si, gb_sl, gb_sz, gb_sr, gb_sa, gb_sb, gb_sy, gy_si, gy_sl, gy_sz, gy_sr, gy_sa, gy_sb, gy_sy, reduceIte, Nat.reduceEqDiff, and_true, true_and, and_self, false_and, and_false]; exact hr) (by rw [hp]; simp) (by omega) (by decide) (by decide) (c_goNextO (h + 2) _ 2 (n + 1) v m 0 d j r E y (si9_Db (mkS_Db hd ..) _) hj (by simp only [mkS, gi_si, gi_sl, gi_sz, gi_sr, gi_sa, gi_sb, gi_sy, gl_si, gl_sl, gl_sz, gl_sr, gl_sa, gl_sb, gl_sy, gz_si, gz_sl, gz_sz, gz_sr, gz_sa, gz_sb, gz_sy, gr_si, gr_sl, gr_sz, gr_sr, gr_sa, gr_sb, gr_sy, ga_si, ga_sl, ga_sz, ga_sr, ga_sa, ga_sb, ga_sy, gb_si, gb_sl, gb_sz, gb_sr, gb_sa, gb_sb, gb_sy, gy_si, gy_sl, gy_sz, gy_sr, gy_sa, gy_sb, gy_sy, reduceIte, Nat.reduceEqDiff, and_true, true_and, and_self, false_and, and_false]; exact h7) (by simp only [gi_si, gi_sl, gi_sz, gi_sr, gi_sa, gi_sb, gi_sy, gl_si, gl_sl, gl_sz, gl_sr, gl_sa, gl_sb, gl_sy, gz_si, gz_sl, gz_sz, gz_sr, gz_sa, gz_sb, gz_sy, gr_si, gr_sl, gr_sz, gr_sr, gr_sa, gr_sb, gr_sy, ga_si, ga_sl, ga_sz, ga_sr, ga_sa, ga_sb, ga_sy, gb_si, gb_sl, gb_sz, gb_sr, gb_sa, gb_sb, gb_sy, gy_si, gy_sl, gy_sz, gy_sr, gy_sa, gy_sb, gy_sy, reduceIte, Nat.reduceEqDiff, and_true, true_and, and_self, false_and, and_false]) hy (by omega)) ?_
    rintro S' rfl
    rw [if_neg (by omega), si_si9]
    have hEnv : EnvC (si (mkS S1 j mk nr) 2 7 0 (nI r)) d 1 (fun _ => j) (fun _ => r) := ⟨si9_Db (mkS_Db hd ..) _, by decide, fun i hi => by
      have : i = 0 := by omega
      subst this
      exact ⟨⟨by simp only [mkS, gi_si, gi_sl, gi_sz, gi_sr, gi_sa, gi_sb, gi_sy, gl_si, gl_sl, gl_sz, gl_sr, gl_sa, gl_sb, gl_sy, gz_si, gz_sl, gz_sz, gz_sr, gz_sa, gz_sb, gz_sy, gr_si, gr_sl, gr_sz, gr_sr, gr_sa, gr_sb, gr_sy, ga_si, ga_sl, ga_sz, ga_sr, ga_sa, ga_sb, ga_sy, gb_si, gb_sl, gb_sz, gb_sr, gb_sa, gb_sb, gb_sy, gy_si, gy_sl, gy_sz, gy_sr, gy_sa, gy_sb, gy_sy, reduceIte, Nat.reduceEqDiff, and_true, true_and, and_self, false_and, and_false]; exact h7, hj⟩, by simp only [gi_si, gi_sl, gi_sz, gi_sr, gi_sa, gi_sb, gi_sy, gl_si, gl_sl, gl_sz, gl_sr, gl_sa, gl_sb, gl_sy, gz_si, gz_sl, gz_sz, gz_sr, gz_sa, gz_sb, gz_sy, gr_si, gr_sl, gr_sz, gr_sr, gr_sa, gr_sb, gr_sy, ga_si, ga_sl, ga_sz, ga_sr, ga_sa, ga_sb, ga_sy, gb_si, gb_sl, gb_sz, gb_sr, gb_sa, gb_sb, gb_sy, gy_si, gy_sl, gy_sz, gy_sr, gy_sa, gy_sb, gy_sy, reduceIte, Nat.reduceEqDiff, and_true, true_and, and_self, false_and, and_false], (show r < dR d j by omega)⟩⟩
    have hyr : nI r + nI 1 = nI (r + 1) := nI_add r 1
    have hfst : fstF (rowF d j cnd bd) (k + 1) r = if rowF d j cnd bd r = nI 0 then fstF (rowF d j cnd bd) k (r + 1) else rowF d j cnd bd r := rfl
    refine run_cond h x _ d 1 (fun _ => j) (fun _ => r) Q P [(nI 21, nI j), (nI 23, nI E)] (bw bd ++ [(nI 26, nI 1)] ++ post) cnd 1 2 (n + 1) v m (mkS_P hP ..) (by simp only [mkS, gi_si, gi_sl, gi_sz, gi_sr, gi_sa, gi_sb, gi_sy, gl_si, gl_sl, gl_sz, gl_sr, gl_sa, gl_sb, gl_sy, gz_si, gz_sl, gz_sz, gz_sr, gz_sa, gz_sb, gz_sy, gr_si, gr_sl, gr_sz, gr_sr, gr_sa, gr_sb, gr_sy, ga_si, ga_sl, ga_sz, ga_sr, ga_sa, ga_sb, ga_sy, gb_si, gb_sl, gb_sz, gb_sr, gb_sa, gb_sb, gb_sy, gy_si, gy_sl, gy_sz, gy_sr, gy_sa, gy_sb, gy_sy, reduceIte, Nat.reduceEqDiff, and_true, true_and, and_self, false_and, and_false]; exact hr) hEnv (by rw [hp]; simp) rfl (by omega) hc ?_ ?_ ?_
    · intro h0 a' n' v' m' t' hn'
      have e : rowF d j cnd bd r = (cndE (ld1 d j r) cnd).1 := by unfold rowF; exact if_neg h0
      refine hQf _ _ a' n' v' m' t' ⟨mk, nr, _, rfl⟩ (by omega) ?_ h0
      have h1 : ¬ (cndE (ld1 d j r) cnd).1 = nI 0 := h0
      rw [hF, hfst, e, if_neg h1]
      rfl
    · intro h0 hf v' m'
      refine ih (r + 1) _ (nI r) mk nr v' m' (by omega) hyr ?_ ?_ (by omega)
      · intro i hi
        have := hM i hi
        by_cases q : i = r
        · subst q
          have hf2 : (cndE (ld1 d j i) cnd).2 = false := hf
          rw [this.1, hf2]
          simp
        · rw [this.1, show decide (i < r + 1) = decide (i < r) by simp; omega]
          refine ⟨rfl, fun z => this.2 (by rw [this.1]; exact z)⟩
      · have e : rowF d j cnd bd r = nI 0 := by
          unfold rowF
          rw [if_pos (by exact h0), if_neg (by rw [show (cndE (ld1 d j r) cnd).2 = false from hf]; simp)]
        rw [hF, hfst, if_pos e]
    · intro h0 hf v' m'
      have hMn : ∀ nr', (∀ i, i ≠ r → nr' i = nr i) → nr' r = hN (bdE (ld1 d j r) bd).2.2 (bdE (ld1 d j r) bd).2.1 → MkR d j cnd bd (r + 1) (up1 mk r true) nr' := by
        intro nr' hne e1 i hi
        have := hM i hi
        by_cases q : i = r
        · subst q
          have hf2 : (cndE (ld1 d j i) cnd).2 = true := hf
          rw [up1_s, hf2]
          exact ⟨by simp, fun _ => e1⟩
        · rw [up1_n q, this.1, show decide (i < r + 1) = decide (i < r) by simp; omega, hne i q]
          exact ⟨rfl, fun z => this.2 (by rw [this.1]; exact z)⟩
      have hjump : ∀ (n' : Nat) (nr' : Nat → Int64) (v'' : Nat → Int32) (m'' : Nat → Bool), n' = n + 1 + (unl cnd 1).length + (bw bd).length → MkR d j cnd bd (r + 1) (up1 mk r true) nr' → rowF d j cnd bd r = nI 0 → RUN (h + 2) x n' (mp (rg (si (mkS S1 j (up1 mk r true) nr') 2 7 0 (nI r)) (2 + (unl cnd 1).length + (bw bd).length) n') v'' m'' 0) Q := by
        intro n' nr' v'' m'' hn' hM' e
        refine run_G h x _ Q _ P _ n' 26 (nI 1) v'' m'' 0 (mkS_P hP ..) (by simp only [mkS, gi_si, gi_sl, gi_sz, gi_sr, gi_sa, gi_sb, gi_sy, gl_si, gl_sl, gl_sz, gl_sr, gl_sa, gl_sb, gl_sy, gz_si, gz_sl, gz_sz, gz_sr, gz_sa, gz_sb, gz_sy, gr_si, gr_sl, gr_sz, gr_sr, gr_sa, gr_sb, gr_sy, ga_si, ga_sl, ga_sz, ga_sr, ga_sa, ga_sb, ga_sy, gb_si, gb_sl, gb_sz, gb_sr, gb_sa, gb_sb, gb_sy, gy_si, gy_sl, gy_sz, gy_sr, gy_sa, gy_sb, gy_sy, reduceIte, Nat.reduceEqDiff, and_true, true_and, and_self, false_and, and_false]; exact hr) ?_ (by omega) (by decide) (by decide) (c_goJump (h + 2) _ _ (n' + 1) v'' m'' 0 1) ?_
        · rw [hp, List.append_assoc _ [(nI 26, nI 1)] post, List.getElem?_append_right (by simp; omega)]
          simp only [List.length_append, List.length_cons, List.length_nil]
          rw [show 2 + (unl cnd 1).length + (bw bd).length - (0 + 1 + 1 + (unl cnd 1).length + (bw bd).length) = 0 by omega]
          rfl
        · rintro S' rfl
          refine ih (r + 1) (n' + 1) (nI r) _ nr' v'' m'' (by omega) hyr hM' ?_ (by omega)
          rw [hF, hfst, if_pos e]
      cases bd with
      | none =>
        have e : rowF d j cnd none r = nI 0 := by
          unfold rowF
          rw [if_pos (by exact h0), if_pos (by exact hf)]
          rfl
        rw [mkS_si]
        refine run_T h x _ Q _ P (2 + (unl cnd 1).length) _ 41 (nI 0) v' m' 0 (by rw [← mkS_si]; exact mkS_P hP ..) (by simp only [mkS, gi_si, gi_sl, gi_sz, gi_sr, gi_sa, gi_sb, gi_sy, gl_si, gl_sl, gl_sz, gl_sr, gl_sa, gl_sb, gl_sy, gz_si, gz_sl, gz_sz, gz_sr, gz_sa, gz_sb, gz_sy, gr_si, gr_sl, gr_sz, gr_sr, gr_sa, gr_sb, gr_sy, ga_si, ga_sl, ga_sz, ga_sr, ga_sa, ga_sb, ga_sy, gb_si, gb_sl, gb_sz, gb_sr, gb_sa, gb_sb, gb_sy, gy_si, gy_sl, gy_sz, gy_sr, gy_sa, gy_sb, gy_sy, reduceIte, Nat.reduceEqDiff, and_true, true_and, and_self, false_and, and_false]; exact hr) ?_ (by simp only [bw] at hn; simp at hn; omega) (by decide) (by decide) (c_chMark h (si S1 2 7 0 (nI r)) _ _ v' m' 0 d j r mk nr (nI 0) (si9_Db hd _) hj (by simp only [gi_si, gi_sl, gi_sz, gi_sr, gi_sa, gi_sb, gi_sy, gl_si, gl_sl, gl_sz, gl_sr, gl_sa, gl_sb, gl_sy, gz_si, gz_sl, gz_sz, gz_sr, gz_sa, gz_sb, gz_sy, gr_si, gr_sl, gr_sz, gr_sr, gr_sa, gr_sb, gr_sy, ga_si, ga_sl, ga_sz, ga_sr, ga_sa, ga_sb, ga_sy, gb_si, gb_sl, gb_sz, gb_sr, gb_sa, gb_sb, gb_sy, gy_si, gy_sl, gy_sz, gy_sr, gy_sa, gy_sb, gy_sy, reduceIte, Nat.reduceEqDiff, and_true, true_and, and_self, false_and, and_false]; exact h7) (by simp only [gi_si, gi_sl, gi_sz, gi_sr, gi_sa, gi_sb, gi_sy, gl_si, gl_sl, gl_sz, gl_sr, gl_sa, gl_sb, gl_sy, gz_si, gz_sl, gz_sz, gz_sr, gz_sa, gz_sb, gz_sy, gr_si, gr_sl, gr_sz, gr_sr, gr_sa, gr_sb, gr_sy, ga_si, ga_sl, ga_sz, ga_sr, ga_sa, ga_sb, ga_sy, gb_si, gb_sl, gb_sz, gb_sr, gb_sa, gb_sb, gb_sy, gy_si, gy_sl, gy_sz, gy_sr, gy_sa, gy_sb, gy_sy, reduceIte, Nat.reduceEqDiff, and_true, true_and, and_self, false_and, and_false]) (by omega)) ?_
        · rw [hp, List.append_assoc, List.append_assoc, List.getElem?_append_right (by simp; omega)]
          simp [bw]
          rw [show 2 + (unl cnd 1).length - ((unl cnd 1).length + 1 + 1) = 0 by omega]
          rfl
        · rintro S' rfl
          rw [← mkS_si]
          exact hjump _ _ v' m' rfl (hMn _ (fun i hi => up1_n hi) (up1_s ..)) e
      | some sg =>
        obtain ⟨hEH, hOV⟩ := hb sg rfl
        have hlen : (bw (some sg)).length = sg.length + 1 := by simp [bw]
        have hx := evs_X (ld := ld1 d j r) (v := v') (m := m') (WA_EH hEH) hOV
        rw [hlen] at hn hjump
        have eF : rowF d j cnd (some sg) r = (evX (ld1 d j r) sg).1 := by
          unfold rowF
          rw [if_pos (by exact h0), if_pos (by exact hf)]
          rfl
        have hrun := run_words (h + 2) x _ d 1 (fun _ => j) (fun _ => r) Q P ([(nI 42, nI 0)] ++ [(nI 26, nI 1)] ++ post) (mkS_P hP j mk nr (nI r)) (by simp only [mkS, gi_si, gi_sl, gi_sz, gi_sr, gi_sa, gi_sb, gi_sy, gl_si, gl_sl, gl_sz, gl_sr, gl_sa, gl_sb, gl_sy, gz_si, gz_sl, gz_sz, gz_sr, gz_sa, gz_sb, gz_sy, gr_si, gr_sl, gr_sz, gr_sr, gr_sa, gr_sb, gr_sy, ga_si, ga_sl, ga_sz, ga_sr, ga_sa, ga_sb, ga_sy, gb_si, gb_sl, gb_sz, gb_sr, gb_sa, gb_sb, gb_sy, gy_si, gy_sl, gy_sz, gy_sr, gy_sa, gy_sb, gy_sy, reduceIte, Nat.reduceEqDiff, and_true, true_and, and_self, false_and, and_false]; exact hr) hEnv sg ([(nI 21, nI j), (nI 23, nI E)] ++ unl cnd 1) [] v' m' 0 (n + 1 + (unl cnd 1).length) hOV.2 trivial (by rw [hp]; simp [bw]) hEH (by decide) (by omega) ?_ ?_
        · simp only [List.length_append, List.length_cons, List.length_nil] at hrun
          rw [show 0 + 1 + 1 + (unl cnd 1).length = 2 + (unl cnd 1).length by omega] at hrun
          exact hrun
        · intro g0
          have g1 : (evX (ld1 d j r) sg).1 = nI 0 := by rw [← hx.1]; exact g0
          have g2 := hx.2 g1
          have e3 : (evs (ldE d (fun _ => j) (fun _ => r)) sg v' m' 0).2.2.2 = 1 := g2.2.2
          rw [e3]
          simp only [List.length_append, List.length_cons, List.length_nil]
          rw [mkS_si]
          refine run_T h x _ Q _ P _ _ 42 (nI 0) _ _ 1 (by rw [← mkS_si]; exact mkS_P hP ..) (by simp only [mkS, gi_si, gi_sl, gi_sz, gi_sr, gi_sa, gi_sb, gi_sy, gl_si, gl_sl, gl_sz, gl_sr, gl_sa, gl_sb, gl_sy, gz_si, gz_sl, gz_sz, gz_sr, gz_sa, gz_sb, gz_sy, gr_si, gr_sl, gr_sz, gr_sr, gr_sa, gr_sb, gr_sy, ga_si, ga_sl, ga_sz, ga_sr, ga_sa, ga_sb, ga_sy, gb_si, gb_sl, gb_sz, gb_sr, gb_sa, gb_sb, gb_sy, gy_si, gy_sl, gy_sz, gy_sr, gy_sa, gy_sb, gy_sy, reduceIte, Nat.reduceEqDiff, and_true, true_and, and_self, false_and, and_false]; exact hr) ?_ (by omega) (by decide) (by decide) (c_chNote h (si S1 2 7 0 (nI r)) _ _ _ _ 0 d j r mk nr (nI 0) (by decide) (si9_Db hd _) hj (by simp only [gi_si, gi_sl, gi_sz, gi_sr, gi_sa, gi_sb, gi_sy, gl_si, gl_sl, gl_sz, gl_sr, gl_sa, gl_sb, gl_sy, gz_si, gz_sl, gz_sz, gz_sr, gz_sa, gz_sb, gz_sy, gr_si, gr_sl, gr_sz, gr_sr, gr_sa, gr_sb, gr_sy, ga_si, ga_sl, ga_sz, ga_sr, ga_sa, ga_sb, ga_sy, gb_si, gb_sl, gb_sz, gb_sr, gb_sa, gb_sb, gb_sy, gy_si, gy_sl, gy_sz, gy_sr, gy_sa, gy_sb, gy_sy, reduceIte, Nat.reduceEqDiff, and_true, true_and, and_self, false_and, and_false]; exact h7) (by simp only [gi_si, gi_sl, gi_sz, gi_sr, gi_sa, gi_sb, gi_sy, gl_si, gl_sl, gl_sz, gl_sr, gl_sa, gl_sb, gl_sy, gz_si, gz_sl, gz_sz, gz_sr, gz_sa, gz_sb, gz_sy, gr_si, gr_sl, gr_sz, gr_sr, gr_sa, gr_sb, gr_sy, ga_si, ga_sl, ga_sz, ga_sr, ga_sa, ga_sb, ga_sy, gb_si, gb_sl, gb_sz, gb_sr, gb_sa, gb_sb, gb_sy, gy_si, gy_sl, gy_sz, gy_sr, gy_sa, gy_sb, gy_sy, reduceIte, Nat.reduceEqDiff, and_true, true_and, and_self, false_and, and_false]) (by omega)) ?_
          · rw [hp, List.append_assoc _ [(nI 26, nI 1)] post, bw, List.append_assoc _ (sg ++ [(nI 42, nI 0)]) _, List.append_assoc sg, ← List.append_assoc _ sg, List.getElem?_append_right (by simp; omega)]
            simp only [List.length_append, List.length_cons, List.length_nil]
            rw [show 0 + 1 + 1 + (unl cnd 1).length + sg.length - (0 + 1 + 1 + (unl cnd 1).length + sg.length) = 0 by omega]
            rfl
          · rintro S' rfl
            rw [← mkS_si]
            have := hjump (n + 1 + (unl cnd 1).length + sg.length + 1) (up1 nr r (hN ((evs (ldE d (fun _ => j) (fun _ => r)) sg v' m' 0).2.2.1 0) ((evs (ldE d (fun _ => j) (fun _ => r)) sg v' m' 0).2.1 0))) (evs (ldE d (fun _ => j) (fun _ => r)) sg v' m' 0).2.1 (evs (ldE d (fun _ => j) (fun _ => r)) sg v' m' 0).2.2.1 (by omega) (hMn _ (fun i hi => up1_n hi) (by rw [up1_s]; exact congr (congrArg hN g2.2.1) g2.1)) (by rw [eF]; exact g1)
            rw [show 2 + (unl cnd 1).length + (sg.length + 1) = 0 + 1 + 1 + (unl cnd 1).length + sg.length + 1 by omega] at this
            exact this
        · intro g0 a' n' v'' m'' t'' hn'
          have e1 : (evs (ldE d (fun _ => j) (fun _ => r)) sg v' m' 0).1 = (evX (ld1 d j r) sg).1 := hx.1
          rw [e1] at g0 ⊢
          refine hQf _ _ a' n' v'' m'' t'' ⟨mk, nr, _, rfl⟩ (by omega) ?_ g0
          rw [hF, hfst, eF, if_neg g0]
end
