-- deps: 273
-- the rows of a select: one table, two tables
def Yr (S : ST) (y9 y10 : Int32) : ST := si (si S 2 7 0 y9) 2 8 0 y10
section
variable (S : ST) (y9 y10 y : Int32) (jf : Nat) (w : Nat → Int64) (o : Nat → Int32) (k : Nat) (g : Int32)
theorem rs_si9 : si (rs (tg (Yr S y9 y10) g) jf w o k) 2 7 0 y = rs (tg (Yr S y y10) g) jf w o k := by (apply ST_ext <;> intros <;> (try simp only [rs, tg, Yr, gi_si, gi_sl, gi_sz, gi_sr, gi_sa, gi_sb, gi_sy, gl_si, gl_sl, gl_sz, gl_sr, gl_sa, gl_sb, gl_sy, gz_si, gz_sl, gz_sz, gz_sr, gz_sa, gz_sb, gz_sy, gr_si, gr_sl, gr_sz, gr_sr, gr_sa, gr_sb, gr_sy, ga_si, ga_sl, ga_sz, ga_sr, ga_sa, ga_sb, ga_sy, gb_si, gb_sl, gb_sz, gb_sr, gb_sa, gb_sb, gb_sy, gy_si, gy_sl, gy_sz, gy_sr, gy_sa, gy_sb, gy_sy, reduceIte, Nat.reduceEqDiff, and_true, true_and, and_self, false_and, and_false]) <;> (try ((repeat' split) <;> simp_all)))
theorem rs_si10 : si (rs (tg (Yr S y9 y10) g) jf w o k) 2 8 0 y = rs (tg (Yr S y9 y) g) jf w o k := by (apply ST_ext <;> intros <;> (try simp only [rs, tg, Yr, gi_si, gi_sl, gi_sz, gi_sr, gi_sa, gi_sb, gi_sy, gl_si, gl_sl, gl_sz, gl_sr, gl_sa, gl_sb, gl_sy, gz_si, gz_sl, gz_sz, gz_sr, gz_sa, gz_sb, gz_sy, gr_si, gr_sl, gr_sz, gr_sr, gr_sa, gr_sb, gr_sy, ga_si, ga_sl, ga_sz, ga_sr, ga_sa, ga_sb, ga_sy, gb_si, gb_sl, gb_sz, gb_sr, gb_sa, gb_sb, gb_sy, gy_si, gy_sl, gy_sz, gy_sr, gy_sa, gy_sb, gy_sy, reduceIte, Nat.reduceEqDiff, and_true, true_and, and_self, false_and, and_false]) <;> (try ((repeat' split) <;> simp_all)))
theorem Yr_9 : gi (rs (tg (Yr S y9 y10) g) jf w o k) 2 7 0 = y9 := by simp only [rs, tg, Yr, gi_si, gi_sl, gi_sz, gi_sr, gi_sa, gi_sb, gi_sy, gl_si, gl_sl, gl_sz, gl_sr, gl_sa, gl_sb, gl_sy, gz_si, gz_sl, gz_sz, gz_sr, gz_sa, gz_sb, gz_sy, gr_si, gr_sl, gr_sz, gr_sr, gr_sa, gr_sb, gr_sy, ga_si, ga_sl, ga_sz, ga_sr, ga_sa, ga_sb, ga_sy, gb_si, gb_sl, gb_sz, gb_sr, gb_sa, gb_sb, gb_sy, gy_si, gy_sl, gy_sz, gy_sr, gy_sa, gy_sb, gy_sy, reduceIte, Nat.reduceEqDiff, and_true, true_and, and_self, false_and, and_false]
theorem Yr_10 : gi (rs (tg (Yr S y9 y10) g) jf w o k) 2 8 0 = y10 := by simp only [rs, tg, Yr, gi_si, gi_sl, gi_sz, gi_sr, gi_sa, gi_sb, gi_sy, gl_si, gl_sl, gl_sz, gl_sr, gl_sa, gl_sb, gl_sy, gz_si, gz_sl, gz_sz, gz_sr, gz_sa, gz_sb, gz_sy, gr_si, gr_sl, gr_sz, gr_sr, gr_sa, gr_sb, gr_sy, ga_si, ga_sl, ga_sz, ga_sr, ga_sa, ga_sb, ga_sy, gb_si, gb_sl, gb_sz, gb_sr, gb_sa, gb_sb, gb_sy, gy_si, gy_sl, gy_sz, gy_sr, gy_sa, gy_sb, gy_sy, reduceIte, Nat.reduceEqDiff, and_true, true_and, and_self, false_and, and_false]
theorem Yr_7 : gr (rs (tg (Yr S y9 y10) g) jf w o k) 2 5 0 = gr S 2 5 0 := by simp only [rs, tg, Yr, gi_si, gi_sl, gi_sz, gi_sr, gi_sa, gi_sb, gi_sy, gl_si, gl_sl, gl_sz, gl_sr, gl_sa, gl_sb, gl_sy, gz_si, gz_sl, gz_sz, gz_sr, gz_sa, gz_sb, gz_sy, gr_si, gr_sl, gr_sz, gr_sr, gr_sa, gr_sb, gr_sy, ga_si, ga_sl, ga_sz, ga_sr, ga_sa, ga_sb, ga_sy, gb_si, gb_sl, gb_sz, gb_sr, gb_sa, gb_sb, gb_sy, gy_si, gy_sl, gy_sz, gy_sr, gy_sa, gy_sb, gy_sy, reduceIte, Nat.reduceEqDiff, and_true, true_and, and_self, false_and, and_false]
theorem Yr_8 : gr (rs (tg (Yr S y9 y10) g) jf w o k) 2 6 0 = gr S 2 6 0 := by simp only [rs, tg, Yr, gi_si, gi_sl, gi_sz, gi_sr, gi_sa, gi_sb, gi_sy, gl_si, gl_sl, gl_sz, gl_sr, gl_sa, gl_sb, gl_sy, gz_si, gz_sl, gz_sz, gz_sr, gz_sa, gz_sb, gz_sy, gr_si, gr_sl, gr_sz, gr_sr, gr_sa, gr_sb, gr_sy, ga_si, ga_sl, ga_sz, ga_sr, ga_sa, ga_sb, ga_sy, gb_si, gb_sl, gb_sz, gb_sr, gb_sa, gb_sb, gb_sy, gy_si, gy_sl, gy_sz, gy_sr, gy_sa, gy_sb, gy_sy, reduceIte, Nat.reduceEqDiff, and_true, true_and, and_self, false_and, and_false]
theorem Yr_15 : gz (rs (tg (Yr S y9 y10) g) jf w o k) 2 13 0 = gz S 2 13 0 := by simp only [rs, tg, Yr, gi_si, gi_sl, gi_sz, gi_sr, gi_sa, gi_sb, gi_sy, gl_si, gl_sl, gl_sz, gl_sr, gl_sa, gl_sb, gl_sy, gz_si, gz_sl, gz_sz, gz_sr, gz_sa, gz_sb, gz_sy, gr_si, gr_sl, gr_sz, gr_sr, gr_sa, gr_sb, gr_sy, ga_si, ga_sl, ga_sz, ga_sr, ga_sa, ga_sb, ga_sy, gb_si, gb_sl, gb_sz, gb_sr, gb_sa, gb_sb, gb_sy, gy_si, gy_sl, gy_sz, gy_sr, gy_sa, gy_sb, gy_sy, reduceIte, Nat.reduceEqDiff, and_true, true_and, and_self, false_and, and_false]
theorem Yr_P {S : ST} {P : WL} (hP : PrC S P) (y9 y10 : Int32) : PrC (Yr S y9 y10) P := by unfold PrC at *; simp only [Yr, gi_si, gi_sl, gi_sz, gi_sr, gi_sa, gi_sb, gi_sy, gl_si, gl_sl, gl_sz, gl_sr, gl_sa, gl_sb, gl_sy, gz_si, gz_sl, gz_sz, gz_sr, gz_sa, gz_sb, gz_sy, gr_si, gr_sl, gr_sz, gr_sr, gr_sa, gr_sb, gr_sy, ga_si, ga_sl, ga_sz, ga_sr, ga_sa, ga_sb, ga_sy, gb_si, gb_sl, gb_sz, gb_sr, gb_sa, gb_sb, gb_sy, gy_si, gy_sl, gy_sz, gy_sr, gy_sa, gy_sb, gy_sy, reduceIte, Nat.reduceEqDiff, and_true, true_and, and_self, false_and, and_false]; exact hP
theorem Yr_Db {S : ST} {d : DB} (hd : DbC S d) (y9 y10 : Int32) : DbC (Yr S y9 y10) d := DbC_same hd (by simp only [Yr, gi_si, gi_sl, gi_sz, gi_sr, gi_sa, gi_sb, gi_sy, gl_si, gl_sl, gl_sz, gl_sr, gl_sa, gl_sb, gl_sy, gz_si, gz_sl, gz_sz, gz_sr, gz_sa, gz_sb, gz_sy, gr_si, gr_sl, gr_sz, gr_sr, gr_sa, gr_sb, gr_sy, ga_si, ga_sl, ga_sz, ga_sr, ga_sa, ga_sb, ga_sy, gb_si, gb_sl, gb_sz, gb_sr, gb_sa, gb_sb, gb_sy, gy_si, gy_sl, gy_sz, gy_sr, gy_sa, gy_sb, gy_sy, reduceIte, Nat.reduceEqDiff, and_true, true_and, and_self, false_and, and_false]) (by intro k t; simp only [Yr, gi_si, gi_sl, gi_sz, gi_sr, gi_sa, gi_sb, gi_sy, gl_si, gl_sl, gl_sz, gl_sr, gl_sa, gl_sb, gl_sy, gz_si, gz_sl, gz_sz, gz_sr, gz_sa, gz_sb, gz_sy, gr_si, gr_sl, gr_sz, gr_sr, gr_sa, gr_sb, gr_sy, ga_si, ga_sl, ga_sz, ga_sr, ga_sa, ga_sb, ga_sy, gb_si, gb_sl, gb_sz, gb_sr, gb_sa, gb_sb, gb_sy, gy_si, gy_sl, gy_sz, gy_sr, gy_sa, gy_sb, gy_sy, reduceIte, Nat.reduceEqDiff, and_true, true_and, and_self, false_and, and_false]) (by intro t; simp only [Yr, gi_si, gi_sl, gi_sz, gi_sr, gi_sa, gi_sb, gi_sy, gl_si, gl_sl, gl_sz, gl_sr, gl_sa, gl_sb, gl_sy, gz_si, gz_sl, gz_sz, gz_sr, gz_sa, gz_sb, gz_sy, gr_si, gr_sl, gr_sz, gr_sr, gr_sa, gr_sb, gr_sy, ga_si, ga_sl, ga_sz, ga_sr, ga_sa, ga_sb, ga_sy, gb_si, gb_sl, gb_sz, gb_sr, gb_sa, gb_sb, gb_sy, gy_si, gy_sl, gy_sz, gy_sr, gy_sa, gy_sb, gy_sy, reduceIte, Nat.reduceEqDiff, and_true, true_and, and_self, false_and, and_false]; try exact ⟨rfl, rfl, rfl, rfl⟩)
theorem rs_Db {S : ST} {d : DB} (hd : DbC S d) (jf : Nat) (w : Nat → Int64) (o : Nat → Int32) (k : Nat) (g : Int32) : DbC (rs (tg S g) jf w o k) d := DbC_same hd (by simp only [rs, tg, gi_si, gi_sl, gi_sz, gi_sr, gi_sa, gi_sb, gi_sy, gl_si, gl_sl, gl_sz, gl_sr, gl_sa, gl_sb, gl_sy, gz_si, gz_sl, gz_sz, gz_sr, gz_sa, gz_sb, gz_sy, gr_si, gr_sl, gr_sz, gr_sr, gr_sa, gr_sb, gr_sy, ga_si, ga_sl, ga_sz, ga_sr, ga_sa, ga_sb, ga_sy, gb_si, gb_sl, gb_sz, gb_sr, gb_sa, gb_sb, gb_sy, gy_si, gy_sl, gy_sz, gy_sr, gy_sa, gy_sb, gy_sy, reduceIte, Nat.reduceEqDiff, and_true, true_and, and_self, false_and, and_false]) (by intro k t; simp only [rs, tg, gi_si, gi_sl, gi_sz, gi_sr, gi_sa, gi_sb, gi_sy, gl_si, gl_sl, gl_sz, gl_sr, gl_sa, gl_sb, gl_sy, gz_si, gz_sl, gz_sz, gz_sr, gz_sa, gz_sb, gz_sy, gr_si, gr_sl, gr_sz, gr_sr, gr_sa, gr_sb, gr_sy, ga_si, ga_sl, ga_sz, ga_sr, ga_sa, ga_sb, ga_sy, gb_si, gb_sl, gb_sz, gb_sr, gb_sa, gb_sb, gb_sy, gy_si, gy_sl, gy_sz, gy_sr, gy_sa, gy_sb, gy_sy, reduceIte, Nat.reduceEqDiff, and_true, true_and, and_self, false_and, and_false]) (by intro t; simp only [rs, tg, gi_si, gi_sl, gi_sz, gi_sr, gi_sa, gi_sb, gi_sy, gl_si, gl_sl, gl_sz, gl_sr, gl_sa, gl_sb, gl_sy, gz_si, gz_sl, gz_sz, gz_sr, gz_sa, gz_sb, gz_sy, gr_si, gr_sl, gr_sz, gr_sr, gr_sa, gr_sb, gr_sy, ga_si, ga_sl, ga_sz, ga_sr, ga_sa, ga_sb, ga_sy, gb_si, gb_sl, gb_sz, gb_sr, gb_sa, gb_sb, gb_sy, gy_si, gy_sl, gy_sz, gy_sr, gy_sa, gy_sb, gy_sy, reduceIte, Nat.reduceEqDiff, and_true, true_and, and_self, false_and, and_false]; try exact ⟨rfl, rfl, rfl, rfl⟩)
end
section
variable (h : Nat) (x : Int32) (d : DB) (tc : Nat) (tj : Nat → Nat) (Q : Option AV → ST → Prop) (P post : WL) (jf : Nat) (its : IL) (sm gb0 : Bool) (i0 c0 : Nat) (cnd : Option WL)
theorem run_pair (S : ST) (rw : Nat → Nat) (hP : PrC S P) (hr : gz S 2 13 0 = true) (hE : EnvC S d tc tj rw) (hj : jf < 2) (h6 : gr S 2 4 0 = jf) (hM : Mode its sm gb0 i0 c0) (hrw : gb0 = true → rw i0 < 24) (hc : ∀ c, cnd = some c → EH d tc tj c 0 ∧ OVC c) (hI : ∀ y, y ∈ its → EH d tc tj y.2 0 ∧ OV y.2) (nx a n p : Nat) (pre : WL) (σ : Nat × AR) (v : Nat → Int32) (m : Nat → Bool) (w : Nat → Int64) (o : Nat → Int32) (g : Int32) (hp : P = pre ++ unl cnd nx ++ bodW sm gb0 its ++ [(nI 26, nI nx)] ++ post) (ha : a = pre.length) (hg : gb0 = false → sm = true → g = nI 0) (hJ : JS sm gb0 d (tj i0) c0 p σ) (hp5 : p < 576) (hR : RelS its σ.1 σ.2 w o) (hn : n + (unl cnd nx).length + (bodW sm gb0 its).length + 1 < 1000000)
    (hF : ¬ (prS sm gb0 its cnd (ldE d tj rw) σ).1 = nI 0 → ∀ (w : Nat → Int64) (o : Nat → Int32) (k : Nat) (g : Int32) (a' n' : Nat) (v' : Nat → Int32) (m' : Nat → Bool) (t' : Nat), n' ≤ n + (unl cnd nx).length + (bodW sm gb0 its).length → Q (some (vI (prS sm gb0 its cnd (ldE d tj rw) σ).1)) (sl (flS (cS S a' n' v' m' t' jf w o k g) (prS sm gb0 its cnd (ldE d tj rw) σ).1) 2 17 0 (limL S x)))
    (hY : (prS sm gb0 its cnd (ldE d tj rw) σ).1 = nI 0 → ∀ (w : Nat → Int64) (o : Nat → Int32) (g : Int32) (n' : Nat) (v' : Nat → Int32) (m' : Nat → Bool), n' ≤ n + (unl cnd nx).length + (bodW sm gb0 its).length + 1 → (gb0 = false → sm = true → g = nI 0) → RelS its (prS sm gb0 its cnd (ldE d tj rw) σ).2.1 (prS sm gb0 its cnd (ldE d tj rw) σ).2.2 w o → RUN (h + 2) x n' (cS S nx n' v' m' 0 jf w o (prS sm gb0 its cnd (ldE d tj rw) σ).2.1 g) Q) : RUN (h + 2) x n (cS S a n v m 0 jf w o σ.1 g) Q := by
  obtain ⟨k, A⟩ := σ
  have hP' := cS_P hP jf w o k g
  refine run_cond h x (rs (tg S g) jf w o k) d tc tj rw Q P pre (bodW sm gb0 its ++ [(nI 26, nI nx)] ++ post) cnd nx a n v m hP' (by simp only [rs, tg, gi_si, gi_sl, gi_sz, gi_sr, gi_sa, gi_sb, gi_sy, gl_si, gl_sl, gl_sz, gl_sr, gl_sa, gl_sb, gl_sy, gz_si, gz_sl, gz_sz, gz_sr, gz_sa, gz_sb, gz_sy, gr_si, gr_sl, gr_sz, gr_sr, gr_sa, gr_sb, gr_sy, ga_si, ga_sl, ga_sz, ga_sr, ga_sa, ga_sb, ga_sy, gb_si, gb_sl, gb_sz, gb_sr, gb_sa, gb_sb, gb_sy, gy_si, gy_sl, gy_sz, gy_sr, gy_sa, gy_sb, gy_sy, reduceIte, Nat.reduceEqDiff, and_true, true_and, and_self, false_and, and_false]; exact hr) (cS_E hE ..) (by rw [hp]; simp) ha (by omega) hc ?_ ?_ ?_
  · intro h0 a' n' v' m' t' hn'
    have e : prS sm gb0 its cnd (ldE d tj rw) (k, A) = ((cndE (ldE d tj rw) cnd).1, (k, A)) := by unfold prS; rw [if_neg h0]
    rw [e] at hF
    rw [cS_lim]
    exact hF h0 w o k g a' n' v' m' t' (by omega)
  · intro h0 hf v' m'
    have e : prS sm gb0 its cnd (ldE d tj rw) (k, A) = (nI 0, (k, A)) := by unfold prS; rw [if_pos h0, if_neg (by rw [hf]; decide)]
    rw [e] at hY
    exact hY rfl w o g _ v' m' (by omega) hg hR
  · intro h0 hf v' m'
    have hacc := JS_acc (rw := rw) hM hJ hrw
    refine run_body h x S d tc tj rw Q P ([(nI 26, nI nx)] ++ post) jf its sm gb0 hP hr hE hj h6 k A (JS_way hM hJ hp5) hI (fun q hq => ⟨by have hh := (hJ.2.2.2 q hq).1; simp only at hh; omega, (hJ.2.2.2 q hq).2.2⟩) hacc.2 (a + (unl cnd nx).length) (n + (unl cnd nx).length) (pre ++ unl cnd nx) v' m' w o g (by rw [hp]; simp) (by rw [ha]; simp) hg hR (by omega) ?_ ?_
    · intro hi w o k' g a' n' v' m' t' hn'
      have e : prS sm gb0 its cnd (ldE d tj rw) (k, A) = (itF (ldE d tj rw) its, (k, A)) := by unfold prS; rw [if_pos h0, if_pos hf, if_neg hi]
      rw [e] at hF
      exact hF hi w o k' g a' n' v' m' t' (by omega)
    · intro hi w o g v' m' hR' hg'
      have e : prS sm gb0 its cnd (ldE d tj rw) (k, A) = (nI 0, acc sm gb0 its (ldE d tj rw) (k, A)) := by unfold prS; rw [if_pos h0, if_pos hf, if_pos hi]
      rw [e] at hY
      refine run_G h x (rs (tg S g) jf w o (acc sm gb0 its (ldE d tj rw) (k, A)).1) Q _ P _ _ 26 (nI nx) v' m' 0 (cS_P hP ..) (by simp only [rs, tg, gi_si, gi_sl, gi_sz, gi_sr, gi_sa, gi_sb, gi_sy, gl_si, gl_sl, gl_sz, gl_sr, gl_sa, gl_sb, gl_sy, gz_si, gz_sl, gz_sz, gz_sr, gz_sa, gz_sb, gz_sy, gr_si, gr_sl, gr_sz, gr_sr, gr_sa, gr_sb, gr_sy, ga_si, ga_sl, ga_sz, ga_sr, ga_sa, ga_sb, ga_sy, gb_si, gb_sl, gb_sz, gb_sr, gb_sa, gb_sb, gb_sy, gy_si, gy_sl, gy_sz, gy_sr, gy_sa, gy_sb, gy_sy, reduceIte, Nat.reduceEqDiff, and_true, true_and, and_self, false_and, and_false]; exact hr) ?_ (by omega) (by decide) (by decide) (c_goJump (h + 2) _ _ _ v' m' 0 nx) ?_
      · rw [hp, ha, List.append_assoc _ [(nI 26, nI nx)] post, List.getElem?_append_right (by simp; omega)]
        simp only [List.length_append]
        rw [show pre.length + (unl cnd nx).length + (bodW sm gb0 its).length - (pre.length + (unl cnd nx).length + (bodW sm gb0 its).length) = 0 by omega]
        rfl
      · rintro S' rfl
        exact hY rfl w o g _ v' m' (by omega) hg' hR'
variable (S0 : ST) (pre0 : WL) (E N : Nat) (σ0 : Nat × AR)
theorem sel_loop1 (hP : PrC S0 P) (hp : P = pre0 ++ [(nI 23, nI E)] ++ unl cnd pre0.length ++ bodW sm gb0 its ++ [(nI 26, nI pre0.length)] ++ post) (hr : gz S0 2 13 0 = true) (hd : DbC S0 d) (hj0 : tj 0 < 4) (h7 : gr S0 2 5 0 = tj 0) (hj : jf < 2) (h6 : gr S0 2 4 0 = jf) (hM : Mode its sm gb0 i0 c0) (hi0 : gb0 = true → i0 < 1) (hc : ∀ c, cnd = some c → EH d 1 tj c 0 ∧ OVC c) (hI : ∀ y, y ∈ its → EH d 1 tj y.2 0 ∧ OV y.2) (hN : N < 999990)
    (hQf : ∀ (f : Int32) (y9 y10 : Int32) (w : Nat → Int64) (o : Nat → Int32) (k : Nat) (g : Int32) (a n : Nat) (v : Nat → Int32) (m : Nat → Bool) (t : Nat), n ≤ N → f = (selO sm gb0 its cnd d tj 1 (dR d (tj 0)) 0 σ0).1 → ¬ f = nI 0 → Q (some (vI f)) (sl (flS (cS (Yr S0 y9 y10) a n v m t jf w o k g) f) 2 17 0 (limL S0 x)))
    (hQe : (selO sm gb0 its cnd d tj 1 (dR d (tj 0)) 0 σ0).1 = nI 0 → ∀ (y9 y10 : Int32) (w : Nat → Int64) (o : Nat → Int32) (g : Int32) (n : Nat) (v : Nat → Int32) (m : Nat → Bool), n ≤ N → RelS its (selO sm gb0 its cnd d tj 1 (dR d (tj 0)) 0 σ0).2.1 (selO sm gb0 its cnd d tj 1 (dR d (tj 0)) 0 σ0).2.2 w o → RUN (h + 2) x n (cS (Yr S0 y9 y10) E n v m 0 jf w o (selO sm gb0 its cnd d tj 1 (dR d (tj 0)) 0 σ0).2.1 g) Q) :
    ∀ (k r n : Nat) (y y10 : Int32) (σ : Nat × AR) (w : Nat → Int64) (o : Nat → Int32) (g : Int32) (v : Nat → Int32) (m : Nat → Bool), r + k = dR d (tj 0) → y + nI 1 = nI r → RelS its σ.1 σ.2 w o → (gb0 = false → sm = true → g = nI 0) → JS sm gb0 d (tj i0) c0 r σ → selO sm gb0 its cnd d tj 1 (dR d (tj 0)) 0 σ0 = selO sm gb0 its cnd d tj 1 k r σ → n + 1 + k * (2 + (unl cnd pre0.length).length + (bodW sm gb0 its).length) ≤ N → RUN (h + 2) x n (cS (Yr S0 y y10) pre0.length n v m 0 jf w o σ.1 g) Q := by
  have h24 := (hd.2 (tj 0) hj0).2.1.2
  have hw : P[pre0.length]? = some (nI 23, nI E) := by rw [hp]; simp
  intro k
  induction k with
  | zero =>
    intro r n y y10 σ w o g v m hk hy hR hg hJ hS hn
    refine run_G h x (rs (tg (Yr S0 y y10) g) jf w o σ.1) Q _ P pre0.length n 23 (nI E) v m 0 (cS_P (Yr_P hP ..) ..) (by rw [Yr_15]; exact hr) hw (by omega) (by decide) (by decide) (c_goNextO (h + 2) _ _ (n + 1) v m 0 d (tj 0) r E y (rs_Db (Yr_Db hd ..) ..) hj0 (by rw [Yr_7]; exact h7) (Yr_9 ..) hy (by omega)) ?_
    rintro S' rfl
    rw [if_pos (by omega), rs_si9]
    have e : selO sm gb0 its cnd d tj 1 (dR d (tj 0)) 0 σ0 = (nI 0, σ) := hS
    rw [e] at hQe
    exact hQe rfl _ y10 w o g (n + 1) v m (by omega) hR
  | succ k ih =>
    intro r n y y10 σ w o g v m hk hy hR hg hJ hS hn
    rw [Nat.succ_mul] at hn
    refine run_G h x (rs (tg (Yr S0 y y10) g) jf w o σ.1) Q _ P pre0.length n 23 (nI E) v m 0 (cS_P (Yr_P hP ..) ..) (by rw [Yr_15]; exact hr) hw (by omega) (by decide) (by decide) (c_goNextO (h + 2) _ _ (n + 1) v m 0 d (tj 0) r E y (rs_Db (Yr_Db hd ..) ..) hj0 (by rw [Yr_7]; exact h7) (Yr_9 ..) hy (by omega)) ?_
    rintro S' rfl
    rw [if_neg (by omega), rs_si9]
    have hEnv : EnvC (Yr S0 (nI r) y10) d 1 tj (fun i => if i = 0 then r else 0) := ⟨Yr_Db hd .., by decide, fun i hi => by
      have : i = 0 := by omega
      subst this
      refine ⟨⟨by simp only [Yr, gi_si, gi_sl, gi_sz, gi_sr, gi_sa, gi_sb, gi_sy, gl_si, gl_sl, gl_sz, gl_sr, gl_sa, gl_sb, gl_sy, gz_si, gz_sl, gz_sz, gz_sr, gz_sa, gz_sb, gz_sy, gr_si, gr_sl, gr_sz, gr_sr, gr_sa, gr_sb, gr_sy, ga_si, ga_sl, ga_sz, ga_sr, ga_sa, ga_sb, ga_sy, gb_si, gb_sl, gb_sz, gb_sr, gb_sa, gb_sb, gb_sy, gy_si, gy_sl, gy_sz, gy_sr, gy_sa, gy_sb, gy_sy, reduceIte, Nat.reduceEqDiff, and_true, true_and, and_self, false_and, and_false]; exact h7, hj0⟩, by simp only [Yr, gi_si, gi_sl, gi_sz, gi_sr, gi_sa, gi_sb, gi_sy, gl_si, gl_sl, gl_sz, gl_sr, gl_sa, gl_sb, gl_sy, gz_si, gz_sl, gz_sz, gz_sr, gz_sa, gz_sb, gz_sy, gr_si, gr_sl, gr_sz, gr_sr, gr_sa, gr_sb, gr_sy, ga_si, ga_sl, ga_sz, ga_sr, ga_sa, ga_sb, ga_sy, gb_si, gb_sl, gb_sz, gb_sr, gb_sa, gb_sb, gb_sy, gy_si, gy_sl, gy_sz, gy_sr, gy_sa, gy_sb, gy_sy, reduceIte, Nat.reduceEqDiff, and_true, true_and, and_self, false_and, and_false]; rfl, ?_⟩
      simp only [reduceIte]
      omega⟩
    have hyr : nI r + nI 1 = nI (r + 1) := nI_add r 1
    have eI : selI sm gb0 its cnd d tj r 1 0 σ = if (prS sm gb0 its cnd (ld2 d tj r 0) σ).1 = nI 0 then (nI 0, (prS sm gb0 its cnd (ld2 d tj r 0) σ).2) else prS sm gb0 its cnd (ld2 d tj r 0) σ := rfl
    have hrw0 : gb0 = true → (fun i => if i = 0 then r else 0) i0 < 24 := by
      intro e
      have : i0 = 0 := by have := hi0 e; omega
      simp only [this, reduceIte]
      omega
    refine run_pair h x d 1 tj Q P post jf its sm gb0 i0 c0 cnd (Yr S0 (nI r) y10) (fun i => if i = 0 then r else 0) (Yr_P hP ..) (by simp only [Yr, gi_si, gi_sl, gi_sz, gi_sr, gi_sa, gi_sb, gi_sy, gl_si, gl_sl, gl_sz, gl_sr, gl_sa, gl_sb, gl_sy, gz_si, gz_sl, gz_sz, gz_sr, gz_sa, gz_sb, gz_sy, gr_si, gr_sl, gr_sz, gr_sr, gr_sa, gr_sb, gr_sy, ga_si, ga_sl, ga_sz, ga_sr, ga_sa, ga_sb, ga_sy, gb_si, gb_sl, gb_sz, gb_sr, gb_sa, gb_sb, gb_sy, gy_si, gy_sl, gy_sz, gy_sr, gy_sa, gy_sb, gy_sy, reduceIte, Nat.reduceEqDiff, and_true, true_and, and_self, false_and, and_false]; exact hr) hEnv hj (by simp only [Yr, gi_si, gi_sl, gi_sz, gi_sr, gi_sa, gi_sb, gi_sy, gl_si, gl_sl, gl_sz, gl_sr, gl_sa, gl_sb, gl_sy, gz_si, gz_sl, gz_sz, gz_sr, gz_sa, gz_sb, gz_sy, gr_si, gr_sl, gr_sz, gr_sr, gr_sa, gr_sb, gr_sy, ga_si, ga_sl, ga_sz, ga_sr, ga_sa, ga_sb, ga_sy, gb_si, gb_sl, gb_sz, gb_sr, gb_sa, gb_sb, gb_sy, gy_si, gy_sl, gy_sz, gy_sr, gy_sa, gy_sb, gy_sy, reduceIte, Nat.reduceEqDiff, and_true, true_and, and_self, false_and, and_false]; exact h6) hM hrw0 hc hI pre0.length (pre0.length + 1) (n + 1) r (pre0 ++ [(nI 23, nI E)]) σ v m w o g hp (by simp) hg hJ (by omega) hR (by omega) ?_ ?_
    · intro hf w o k' g a' n' v' m' t' hn'
      have eS : selO sm gb0 its cnd d tj 1 (k + 1) r σ = prS sm gb0 its cnd (ld2 d tj r 0) σ := by
        have hf2 : ¬ (prS sm gb0 its cnd (ld2 d tj r 0) σ).1 = nI 0 := hf
        rw [if_neg hf2] at eI
        rw [selO, eI, if_neg hf2]
      have := hQf (prS sm gb0 its cnd (ld2 d tj r 0) σ).1 (nI r) y10 w o k' g a' n' v' m' t' (by omega) (by rw [hS, eS]) hf
      have el : limL (Yr S0 (nI r) y10) x = limL S0 x := by simp only [limL, Yr, gi_si, gi_sl, gi_sz, gi_sr, gi_sa, gi_sb, gi_sy, gl_si, gl_sl, gl_sz, gl_sr, gl_sa, gl_sb, gl_sy, gz_si, gz_sl, gz_sz, gz_sr, gz_sa, gz_sb, gz_sy, gr_si, gr_sl, gr_sz, gr_sr, gr_sa, gr_sb, gr_sy, ga_si, ga_sl, ga_sz, ga_sr, ga_sa, ga_sb, ga_sy, gb_si, gb_sl, gb_sz, gb_sr, gb_sa, gb_sb, gb_sy, gy_si, gy_sl, gy_sz, gy_sr, gy_sa, gy_sb, gy_sy, reduceIte, Nat.reduceEqDiff, and_true, true_and, and_self, false_and, and_false]
      rw [el]
      exact this
    · intro hf w o g n' v' m' hn' hg' hR'
      have eS : selO sm gb0 its cnd d tj 1 (k + 1) r σ = selO sm gb0 its cnd d tj 1 k (r + 1) (prS sm gb0 its cnd (ld2 d tj r 0) σ).2 := by
        have hf2 : (prS sm gb0 its cnd (ld2 d tj r 0) σ).1 = nI 0 := hf
        rw [if_pos hf2] at eI
        rw [selO, eI, if_pos rfl]
      exact ih (r + 1) n' (nI r) y10 _ w o g v' m' (by omega) hyr hR' hg' (JS_pr cnd hM hJ hrw0) (hS.trans eS) (by omega)
theorem sel_inner (r : Nat) (hP : PrC S0 P) (hp : P = pre0 ++ [(nI 24, nI E)] ++ unl cnd pre0.length ++ bodW sm gb0 its ++ [(nI 26, nI pre0.length)] ++ post) (hr : gz S0 2 13 0 = true) (hd : DbC S0 d) (hj0 : tj 0 < 4) (hj1 : tj 1 < 4) (h7 : gr S0 2 5 0 = tj 0) (h8 : gr S0 2 6 0 = tj 1) (hrR : r < dR d (tj 0)) (hj : jf < 2) (h6 : gr S0 2 4 0 = jf) (hM : Mode its sm gb0 i0 c0) (hc : ∀ c, cnd = some c → EH d 2 tj c 0 ∧ OVC c) (hI : ∀ y, y ∈ its → EH d 2 tj y.2 0 ∧ OV y.2) (hN : N < 999990) (hi2 : gb0 = true → i0 < 2)
    (hQf : ∀ (f : Int32) (y9 y10 : Int32) (w : Nat → Int64) (o : Nat → Int32) (k : Nat) (g : Int32) (a n : Nat) (v : Nat → Int32) (m : Nat → Bool) (t : Nat), n ≤ N → f = (selI sm gb0 its cnd d tj r (dR d (tj 1)) 0 σ0).1 → ¬ f = nI 0 → Q (some (vI f)) (sl (flS (cS (Yr S0 y9 y10) a n v m t jf w o k g) f) 2 17 0 (limL S0 x)))
    (hQe : (selI sm gb0 its cnd d tj r (dR d (tj 1)) 0 σ0).1 = nI 0 → ∀ (w : Nat → Int64) (o : Nat → Int32) (g : Int32) (n : Nat) (v : Nat → Int32) (m : Nat → Bool), n ≤ N → (gb0 = false → sm = true → g = nI 0) → JS sm gb0 d (tj i0) c0 (r * dR d (tj 1) + dR d (tj 1)) (selI sm gb0 its cnd d tj r (dR d (tj 1)) 0 σ0).2 → RelS its (selI sm gb0 its cnd d tj r (dR d (tj 1)) 0 σ0).2.1 (selI sm gb0 its cnd d tj r (dR d (tj 1)) 0 σ0).2.2 w o → RUN (h + 2) x n (cS (Yr S0 (nI r) (-1)) E n v m 0 jf w o (selI sm gb0 its cnd d tj r (dR d (tj 1)) 0 σ0).2.1 g) Q) :
    ∀ (k s n : Nat) (y : Int32) (σ : Nat × AR) (w : Nat → Int64) (o : Nat → Int32) (g : Int32) (v : Nat → Int32) (m : Nat → Bool), s + k = dR d (tj 1) → y + nI 1 = nI s → RelS its σ.1 σ.2 w o → (gb0 = false → sm = true → g = nI 0) → JS sm gb0 d (tj i0) c0 (r * dR d (tj 1) + s) σ → selI sm gb0 its cnd d tj r (dR d (tj 1)) 0 σ0 = selI sm gb0 its cnd d tj r k s σ → n + 1 + k * (2 + (unl cnd pre0.length).length + (bodW sm gb0 its).length) ≤ N → RUN (h + 2) x n (cS (Yr S0 (nI r) y) pre0.length n v m 0 jf w o σ.1 g) Q := by
  have h24 := (hd.2 (tj 1) hj1).2.1.2
  have h24' := (hd.2 (tj 0) hj0).2.1.2
  have hw : P[pre0.length]? = some (nI 24, nI E) := by rw [hp]; simp
  have hbd : r * dR d (tj 1) + dR d (tj 1) ≤ 576 := by
    have h1 : (r + 1) * dR d (tj 1) ≤ 24 * 24 := Nat.mul_le_mul (by omega) h24
    rw [Nat.succ_mul] at h1
    omega
  intro k
  induction k with
  | zero =>
    intro s n y σ w o g v m hk hy hR hg hJ hS hn
    refine run_G h x (rs (tg (Yr S0 (nI r) y) g) jf w o σ.1) Q _ P pre0.length n 24 (nI E) v m 0 (cS_P (Yr_P hP ..) ..) (by rw [Yr_15]; exact hr) hw (by omega) (by decide) (by decide) (c_goNextI (h + 2) _ _ (n + 1) v m 0 d (tj 1) s E y (rs_Db (Yr_Db hd ..) ..) hj1 (by rw [Yr_8]; exact h8) (Yr_10 ..) hy (by omega)) ?_
    rintro S' rfl
    rw [if_pos (by omega), if_pos (by omega), rs_si10]
    have e : selI sm gb0 its cnd d tj r (dR d (tj 1)) 0 σ0 = (nI 0, σ) := hS
    rw [e] at hQe
    have : s = dR d (tj 1) := by omega
    rw [this] at hJ
    exact hQe rfl w o g (n + 1) v m (by omega) hg hJ hR
  | succ k ih =>
    intro s n y σ w o g v m hk hy hR hg hJ hS hn
    rw [Nat.succ_mul] at hn
    refine run_G h x (rs (tg (Yr S0 (nI r) y) g) jf w o σ.1) Q _ P pre0.length n 24 (nI E) v m 0 (cS_P (Yr_P hP ..) ..) (by rw [Yr_15]; exact hr) hw (by omega) (by decide) (by decide) (c_goNextI (h + 2) _ _ (n + 1) v m 0 d (tj 1) s E y (rs_Db (Yr_Db hd ..) ..) hj1 (by rw [Yr_8]; exact h8) (Yr_10 ..) hy (by omega)) ?_
    rintro S' rfl
    rw [if_neg (by omega), if_neg (by omega), rs_si10]
    have hEnv : EnvC (Yr S0 (nI r) (nI s)) d 2 tj (fun i => if i = 0 then r else s) := ⟨Yr_Db hd .., by decide, fun i hi => by
      have : i = 0 ∨ i = 1 := by omega
      rcases this with rfl | rfl
      · refine ⟨⟨by simp only [Yr, gi_si, gi_sl, gi_sz, gi_sr, gi_sa, gi_sb, gi_sy, gl_si, gl_sl, gl_sz, gl_sr, gl_sa, gl_sb, gl_sy, gz_si, gz_sl, gz_sz, gz_sr, gz_sa, gz_sb, gz_sy, gr_si, gr_sl, gr_sz, gr_sr, gr_sa, gr_sb, gr_sy, ga_si, ga_sl, ga_sz, ga_sr, ga_sa, ga_sb, ga_sy, gb_si, gb_sl, gb_sz, gb_sr, gb_sa, gb_sb, gb_sy, gy_si, gy_sl, gy_sz, gy_sr, gy_sa, gy_sb, gy_sy, reduceIte, Nat.reduceEqDiff, and_true, true_and, and_self, false_and, and_false]; exact h7, hj0⟩, by simp only [Yr, gi_si, gi_sl, gi_sz, gi_sr, gi_sa, gi_sb, gi_sy, gl_si, gl_sl, gl_sz, gl_sr, gl_sa, gl_sb, gl_sy, gz_si, gz_sl, gz_sz, gz_sr, gz_sa, gz_sb, gz_sy, gr_si, gr_sl, gr_sz, gr_sr, gr_sa, gr_sb, gr_sy, ga_si, ga_sl, ga_sz, ga_sr, ga_sa, ga_sb, ga_sy, gb_si, gb_sl, gb_sz, gb_sr, gb_sa, gb_sb, gb_sy, gy_si, gy_sl, gy_sz, gy_sr, gy_sa, gy_sb, gy_sy, reduceIte, Nat.reduceEqDiff, and_true, true_and, and_self, false_and, and_false]; rfl, ?_⟩
        simp only [reduceIte]
        exact hrR
      · refine ⟨⟨by simp only [Yr, gi_si, gi_sl, gi_sz, gi_sr, gi_sa, gi_sb, gi_sy, gl_si, gl_sl, gl_sz, gl_sr, gl_sa, gl_sb, gl_sy, gz_si, gz_sl, gz_sz, gz_sr, gz_sa, gz_sb, gz_sy, gr_si, gr_sl, gr_sz, gr_sr, gr_sa, gr_sb, gr_sy, ga_si, ga_sl, ga_sz, ga_sr, ga_sa, ga_sb, ga_sy, gb_si, gb_sl, gb_sz, gb_sr, gb_sa, gb_sb, gb_sy, gy_si, gy_sl, gy_sz, gy_sr, gy_sa, gy_sb, gy_sy, reduceIte, Nat.reduceEqDiff, and_true, true_and, and_self, false_and, and_false]; exact h8, hj1⟩, by simp only [Yr, gi_si, gi_sl, gi_sz, gi_sr, gi_sa, gi_sb, gi_sy, gl_si, gl_sl, gl_sz, gl_sr, gl_sa, gl_sb, gl_sy, gz_si, gz_sl, gz_sz, gz_sr, gz_sa, gz_sb, gz_sy, gr_si, gr_sl, gr_sz, gr_sr, gr_sa, gr_sb, gr_sy, ga_si, ga_sl, ga_sz, ga_sr, ga_sa, ga_sb, ga_sy, gb_si, gb_sl, gb_sz, gb_sr, gb_sa, gb_sb, gb_sy, gy_si, gy_sl, gy_sz, gy_sr, gy_sa, gy_sb, gy_sy, reduceIte, Nat.reduceEqDiff, and_true, true_and, and_self, false_and, and_false], ?_⟩
        simp only [Nat.reduceEqDiff, reduceIte]
        omega⟩
    have hyr : nI s + nI 1 = nI (s + 1) := nI_add s 1
    have hrw0 : gb0 = true → (fun i => if i = 0 then r else s) i0 < 24 := by
      intro e
      simp only
      split <;> omega
    refine run_pair h x d 2 tj Q P post jf its sm gb0 i0 c0 cnd (Yr S0 (nI r) (nI s)) (fun i => if i = 0 then r else s) (Yr_P hP ..) (by simp only [Yr, gi_si, gi_sl, gi_sz, gi_sr, gi_sa, gi_sb, gi_sy, gl_si, gl_sl, gl_sz, gl_sr, gl_sa, gl_sb, gl_sy, gz_si, gz_sl, gz_sz, gz_sr, gz_sa, gz_sb, gz_sy, gr_si, gr_sl, gr_sz, gr_sr, gr_sa, gr_sb, gr_sy, ga_si, ga_sl, ga_sz, ga_sr, ga_sa, ga_sb, ga_sy, gb_si, gb_sl, gb_sz, gb_sr, gb_sa, gb_sb, gb_sy, gy_si, gy_sl, gy_sz, gy_sr, gy_sa, gy_sb, gy_sy, reduceIte, Nat.reduceEqDiff, and_true, true_and, and_self, false_and, and_false]; exact hr) hEnv hj (by simp only [Yr, gi_si, gi_sl, gi_sz, gi_sr, gi_sa, gi_sb, gi_sy, gl_si, gl_sl, gl_sz, gl_sr, gl_sa, gl_sb, gl_sy, gz_si, gz_sl, gz_sz, gz_sr, gz_sa, gz_sb, gz_sy, gr_si, gr_sl, gr_sz, gr_sr, gr_sa, gr_sb, gr_sy, ga_si, ga_sl, ga_sz, ga_sr, ga_sa, ga_sb, ga_sy, gb_si, gb_sl, gb_sz, gb_sr, gb_sa, gb_sb, gb_sy, gy_si, gy_sl, gy_sz, gy_sr, gy_sa, gy_sb, gy_sy, reduceIte, Nat.reduceEqDiff, and_true, true_and, and_self, false_and, and_false]; exact h6) hM hrw0 hc hI pre0.length (pre0.length + 1) (n + 1) (r * dR d (tj 1) + s) (pre0 ++ [(nI 24, nI E)]) σ v m w o g hp (by simp) hg hJ (by omega) hR (by omega) ?_ ?_
    · intro hf w o k' g a' n' v' m' t' hn'
      have eS : selI sm gb0 its cnd d tj r (k + 1) s σ = prS sm gb0 its cnd (ld2 d tj r s) σ := by
        rw [selI, if_neg (by exact hf)]
      have := hQf (prS sm gb0 its cnd (ld2 d tj r s) σ).1 (nI r) (nI s) w o k' g a' n' v' m' t' (by omega) (by rw [hS, eS]) hf
      have el : limL (Yr S0 (nI r) (nI s)) x = limL S0 x := by simp only [limL, Yr, gi_si, gi_sl, gi_sz, gi_sr, gi_sa, gi_sb, gi_sy, gl_si, gl_sl, gl_sz, gl_sr, gl_sa, gl_sb, gl_sy, gz_si, gz_sl, gz_sz, gz_sr, gz_sa, gz_sb, gz_sy, gr_si, gr_sl, gr_sz, gr_sr, gr_sa, gr_sb, gr_sy, ga_si, ga_sl, ga_sz, ga_sr, ga_sa, ga_sb, ga_sy, gb_si, gb_sl, gb_sz, gb_sr, gb_sa, gb_sb, gb_sy, gy_si, gy_sl, gy_sz, gy_sr, gy_sa, gy_sb, gy_sy, reduceIte, Nat.reduceEqDiff, and_true, true_and, and_self, false_and, and_false]
      rw [el]
      exact this
    · intro hf w o g n' v' m' hn' hg' hR'
      have eS : selI sm gb0 its cnd d tj r (k + 1) s σ = selI sm gb0 its cnd d tj r k (s + 1) (prS sm gb0 its cnd (ld2 d tj r s) σ).2 := by
        rw [selI, if_pos (by exact hf)]
      exact ih (s + 1) n' (nI s) _ w o g v' m' (by omega) hyr hR' hg' (JS_pr cnd hM hJ hrw0) (hS.trans eS) (by omega)
theorem sel_loop2 (hP : PrC S0 P) (hp : P = pre0 ++ [(nI 23, nI E), (nI 24, nI pre0.length)] ++ unl cnd (pre0.length + 1) ++ bodW sm gb0 its ++ [(nI 26, nI (pre0.length + 1))] ++ post) (hr : gz S0 2 13 0 = true) (hd : DbC S0 d) (hj0 : tj 0 < 4) (hj1 : tj 1 < 4) (h7 : gr S0 2 5 0 = tj 0) (h8 : gr S0 2 6 0 = tj 1) (hj : jf < 2) (h6 : gr S0 2 4 0 = jf) (hM : Mode its sm gb0 i0 c0) (hc : ∀ c, cnd = some c → EH d 2 tj c 0 ∧ OVC c) (hI : ∀ y, y ∈ its → EH d 2 tj y.2 0 ∧ OV y.2) (hN : N < 999990) (hi2 : gb0 = true → i0 < 2)
    (hQf : ∀ (f : Int32) (y9 y10 : Int32) (w : Nat → Int64) (o : Nat → Int32) (k : Nat) (g : Int32) (a n : Nat) (v : Nat → Int32) (m : Nat → Bool) (t : Nat), n ≤ N → f = (selO sm gb0 its cnd d tj (dR d (tj 1)) (dR d (tj 0)) 0 σ0).1 → ¬ f = nI 0 → Q (some (vI f)) (sl (flS (cS (Yr S0 y9 y10) a n v m t jf w o k g) f) 2 17 0 (limL S0 x)))
    (hQe : (selO sm gb0 its cnd d tj (dR d (tj 1)) (dR d (tj 0)) 0 σ0).1 = nI 0 → ∀ (y9 y10 : Int32) (w : Nat → Int64) (o : Nat → Int32) (g : Int32) (n : Nat) (v : Nat → Int32) (m : Nat → Bool), n ≤ N → RelS its (selO sm gb0 its cnd d tj (dR d (tj 1)) (dR d (tj 0)) 0 σ0).2.1 (selO sm gb0 its cnd d tj (dR d (tj 1)) (dR d (tj 0)) 0 σ0).2.2 w o → RUN (h + 2) x n (cS (Yr S0 y9 y10) E n v m 0 jf w o (selO sm gb0 its cnd d tj (dR d (tj 1)) (dR d (tj 0)) 0 σ0).2.1 g) Q) :
    ∀ (k r n : Nat) (y : Int32) (σ : Nat × AR) (w : Nat → Int64) (o : Nat → Int32) (g : Int32) (v : Nat → Int32) (m : Nat → Bool), r + k = dR d (tj 0) → y + nI 1 = nI r → RelS its σ.1 σ.2 w o → (gb0 = false → sm = true → g = nI 0) → JS sm gb0 d (tj i0) c0 (r * dR d (tj 1)) σ → selO sm gb0 its cnd d tj (dR d (tj 1)) (dR d (tj 0)) 0 σ0 = selO sm gb0 its cnd d tj (dR d (tj 1)) k r σ → n + 1 + k * (2 + dR d (tj 1) * (2 + (unl cnd (pre0.length + 1)).length + (bodW sm gb0 its).length)) ≤ N → RUN (h + 2) x n (cS (Yr S0 y (-1)) pre0.length n v m 0 jf w o σ.1 g) Q := by
  have h24 := (hd.2 (tj 0) hj0).2.1.2
  have hw : P[pre0.length]? = some (nI 23, nI E) := by rw [hp]; simp
  have hl1 : (pre0 ++ [(nI 23, nI E)]).length = pre0.length + 1 := by simp
  intro k
  induction k with
  | zero =>
    intro r n y σ w o g v m hk hy hR hg hJ hS hn
    refine run_G h x (rs (tg (Yr S0 y (-1)) g) jf w o σ.1) Q _ P pre0.length n 23 (nI E) v m 0 (cS_P (Yr_P hP ..) ..) (by rw [Yr_15]; exact hr) hw (by omega) (by decide) (by decide) (c_goNextO (h + 2) _ _ (n + 1) v m 0 d (tj 0) r E y (rs_Db (Yr_Db hd ..) ..) hj0 (by rw [Yr_7]; exact h7) (Yr_9 ..) hy (by omega)) ?_
    rintro S' rfl
    rw [if_pos (by omega), rs_si9]
    have e : selO sm gb0 its cnd d tj (dR d (tj 1)) (dR d (tj 0)) 0 σ0 = (nI 0, σ) := hS
    rw [e] at hQe
    exact hQe rfl _ (-1) w o g (n + 1) v m (by omega) hR
  | succ k ih =>
    intro r n y σ w o g v m hk hy hR hg hJ hS hn
    rw [Nat.succ_mul] at hn
    refine run_G h x (rs (tg (Yr S0 y (-1)) g) jf w o σ.1) Q _ P pre0.length n 23 (nI E) v m 0 (cS_P (Yr_P hP ..) ..) (by rw [Yr_15]; exact hr) hw (by omega) (by decide) (by decide) (c_goNextO (h + 2) _ _ (n + 1) v m 0 d (tj 0) r E y (rs_Db (Yr_Db hd ..) ..) hj0 (by rw [Yr_7]; exact h7) (Yr_9 ..) hy (by omega)) ?_
    rintro S' rfl
    rw [if_neg (by omega), rs_si9]
    have hyr : nI r + nI 1 = nI (r + 1) := nI_add r 1
    rw [← hl1]
    refine sel_inner h x d tj Q P post jf its sm gb0 i0 c0 cnd S0 (pre0 ++ [(nI 23, nI E)]) pre0.length (n + 2 + dR d (tj 1) * (2 + (unl cnd (pre0.length + 1)).length + (bodW sm gb0 its).length)) σ r hP (by rw [hp, hl1]; simp) hr hd hj0 hj1 h7 h8 (by omega) hj h6 hM hc hI (by omega) hi2 ?_ ?_ (dR d (tj 1)) 0 (n + 1) (-1) σ w o g v m (by omega) (by decide) hR hg hJ rfl (by rw [hl1]; omega)
    · intro f y9 y10 w o k' g a' n' v' m' t' hn' ef hf
      refine hQf f y9 y10 w o k' g a' n' v' m' t' (by omega) ?_ hf
      rw [hS, selO, if_neg (by rw [← ef]; exact hf)]
      exact ef
    · intro hf w o g n' v' m' hn' hg' hJ' hR'
      have eS : selO sm gb0 its cnd d tj (dR d (tj 1)) (k + 1) r σ = selO sm gb0 its cnd d tj (dR d (tj 1)) k (r + 1) (selI sm gb0 its cnd d tj r (dR d (tj 1)) 0 σ).2 := by
        rw [selO, if_pos hf]
      refine ih (r + 1) n' (nI r) _ w o g v' m' (by omega) hyr hR' hg' (by rw [Nat.succ_mul]; exact hJ') (hS.trans eS) ?_
      omega
end
