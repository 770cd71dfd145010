-- deps: 241
-- words of an expression, one after the other
def evs (ld : Nat → Nat → Int32 × Bool) : List (Int32 × Int32) → (Nat → Int32) → (Nat → Bool) → Nat → Int32 × (Nat → Int32) × (Nat → Bool) × Nat
  | [], v, m, t => (nI 0, v, m, t)
  | w :: ws, v, m, t => if (ev1 ld w v m t).1 = nI 0 then evs ld ws (ev1 ld w v m t).2.1 (ev1 ld w v m t).2.2.1 (ev1 ld w v m t).2.2.2 else ev1 ld w v m t
def EH (d : DB) (tc : Nat) (tj : Nat → Nat) : List (Int32 × Int32) → Nat → Prop
  | [], _ => True
  | w :: ws, t => ∃ o, EW d tc tj w o ∧ arty o ≤ t ∧ t - arty o + 1 ≤ 10 ∧ EH d tc tj ws (t - arty o + 1)
theorem calV_t {v : Nat → Int32} {m : Nat → Bool} {i : Nat} {o l r : Int32} {z : Bool} (h : (calV v m i o l r z).1 = nI 0) : (calV v m i o l r z).2.2.2 = i + 1 := by
  have h1 : ¬ ((-1004 : Int32) = nI 0) := by decide
  have h2 : ¬ ((-1005 : Int32) = nI 0) := by decide
  unfold calV at *
  (repeat' split) <;> simp_all
theorem ev1_t {ld : Nat → Nat → Int32 × Bool} {d : DB} {tc : Nat} {tj : Nat → Nat} {w : Int32 × Int32} {o : Nat} {v : Nat → Int32} {m : Nat → Bool} {t : Nat} (hw : EW d tc tj w o) (ha : arty o ≤ t) (h : (ev1 ld w v m t).1 = nI 0) : (ev1 ld w v m t).2.2.2 = t - arty o + 1 := by
  obtain ⟨w1, y⟩ := w
  obtain ⟨rfl, ho1, ho2, _, _⟩ := hw
  have qe_o_1 : (nI o = nI 1) = (o = 1) := n_eqE (by omega) (by omega)
  have ql_o_1 : (nI o < nI 1) = (o < 1) := n_ltE (by omega) (by omega)
  have qg_o_1 : (nI 1 < nI o) = (1 < o) := n_ltE (by omega) (by omega)
  have qle_o_1 : (nI o ≤ nI 1) = (o ≤ 1) := n_leE (by omega) (by omega)
  have qge_o_1 : (nI 1 ≤ nI o) = (1 ≤ o) := n_leE (by omega) (by omega)
  have qe_o_2 : (nI o = nI 2) = (o = 2) := n_eqE (by omega) (by omega)
  have ql_o_2 : (nI o < nI 2) = (o < 2) := n_ltE (by omega) (by omega)
  have qg_o_2 : (nI 2 < nI o) = (2 < o) := n_ltE (by omega) (by omega)
  have qle_o_2 : (nI o ≤ nI 2) = (o ≤ 2) := n_leE (by omega) (by omega)
  have qge_o_2 : (nI 2 ≤ nI o) = (2 ≤ o) := n_leE (by omega) (by omega)
  have qe_o_3 : (nI o = nI 3) = (o = 3) := n_eqE (by omega) (by omega)
  have ql_o_3 : (nI o < nI 3) = (o < 3) := n_ltE (by omega) (by omega)
  have qg_o_3 : (nI 3 < nI o) = (3 < o) := n_ltE (by omega) (by omega)
  have qle_o_3 : (nI o ≤ nI 3) = (o ≤ 3) := n_leE (by omega) (by omega)
  have qge_o_3 : (nI 3 ≤ nI o) = (3 ≤ o) := n_leE (by omega) (by omega)
  have qe_o_4 : (nI o = nI 4) = (o = 4) := n_eqE (by omega) (by omega)
  have ql_o_4 : (nI o < nI 4) = (o < 4) := n_ltE (by omega) (by omega)
  have qg_o_4 : (nI 4 < nI o) = (4 < o) := n_ltE (by omega) (by omega)
  have qle_o_4 : (nI o ≤ nI 4) = (o ≤ 4) := n_leE (by omega) (by omega)
  have qge_o_4 : (nI 4 ≤ nI o) = (4 ≤ o) := n_leE (by omega) (by omega)
  have qe_o_5 : (nI o = nI 5) = (o = 5) := n_eqE (by omega) (by omega)
  have ql_o_5 : (nI o < nI 5) = (o < 5) := n_ltE (by omega) (by omega)
  have qg_o_5 : (nI 5 < nI o) = (5 < o) := n_ltE (by omega) (by omega)
  have qle_o_5 : (nI o ≤ nI 5) = (o ≤ 5) := n_leE (by omega) (by omega)
  have qge_o_5 : (nI 5 ≤ nI o) = (5 ≤ o) := n_leE (by omega) (by omega)
  have qe_o_6 : (nI o = nI 6) = (o = 6) := n_eqE (by omega) (by omega)
  have ql_o_6 : (nI o < nI 6) = (o < 6) := n_ltE (by omega) (by omega)
  have qg_o_6 : (nI 6 < nI o) = (6 < o) := n_ltE (by omega) (by omega)
  have qle_o_6 : (nI o ≤ nI 6) = (o ≤ 6) := n_leE (by omega) (by omega)
  have qge_o_6 : (nI 6 ≤ nI o) = (6 ≤ o) := n_leE (by omega) (by omega)
  have qe_o_10 : (nI o = nI 10) = (o = 10) := n_eqE (by omega) (by omega)
  have ql_o_10 : (nI o < nI 10) = (o < 10) := n_ltE (by omega) (by omega)
  have qg_o_10 : (nI 10 < nI o) = (10 < o) := n_ltE (by omega) (by omega)
  have qle_o_10 : (nI o ≤ nI 10) = (o ≤ 10) := n_leE (by omega) (by omega)
  have qge_o_10 : (nI 10 ≤ nI o) = (10 ≤ o) := n_leE (by omega) (by omega)
  have qe_o_16 : (nI o = nI 16) = (o = 16) := n_eqE (by omega) (by omega)
  have ql_o_16 : (nI o < nI 16) = (o < 16) := n_ltE (by omega) (by omega)
  have qg_o_16 : (nI 16 < nI o) = (16 < o) := n_ltE (by omega) (by omega)
  have qle_o_16 : (nI o ≤ nI 16) = (o ≤ 16) := n_leE (by omega) (by omega)
  have qge_o_16 : (nI 16 ≤ nI o) = (16 ≤ o) := n_leE (by omega) (by omega)
  have qe_o_17 : (nI o = nI 17) = (o = 17) := n_eqE (by omega) (by omega)
  have ql_o_17 : (nI o < nI 17) = (o < 17) := n_ltE (by omega) (by omega)
  have qg_o_17 : (nI 17 < nI o) = (17 < o) := n_ltE (by omega) (by omega)
  have qle_o_17 : (nI o ≤ nI 17) = (o ≤ 17) := n_leE (by omega) (by omega)
  have qge_o_17 : (nI 17 ≤ nI o) = (17 ≤ o) := n_leE (by omega) (by omega)
  have qe_o_18 : (nI o = nI 18) = (o = 18) := n_eqE (by omega) (by omega)
  have ql_o_18 : (nI o < nI 18) = (o < 18) := n_ltE (by omega) (by omega)
  have qg_o_18 : (nI 18 < nI o) = (18 < o) := n_ltE (by omega) (by omega)
  have qle_o_18 : (nI o ≤ nI 18) = (o ≤ 18) := n_leE (by omega) (by omega)
  have qge_o_18 : (nI 18 ≤ nI o) = (18 ≤ o) := n_leE (by omega) (by omega)
  have qe_o_19 : (nI o = nI 19) = (o = 19) := n_eqE (by omega) (by omega)
  have ql_o_19 : (nI o < nI 19) = (o < 19) := n_ltE (by omega) (by omega)
  have qg_o_19 : (nI 19 < nI o) = (19 < o) := n_ltE (by omega) (by omega)
  have qle_o_19 : (nI o ≤ nI 19) = (o ≤ 19) := n_leE (by omega) (by omega)
  have qge_o_19 : (nI 19 ≤ nI o) = (19 ≤ o) := n_leE (by omega) (by omega)
  simp only [ev1, qe_o_1, qe_o_2, qe_o_3, qe_o_4, qe_o_5, qe_o_6, qle_o_10, qle_o_16, qe_o_17, qe_o_18, qe_o_19] at h ⊢
  have hz : arty o = if o ≤ 5 then 0 else if o = 6 ∨ o = 17 ∨ o = 18 then 1 else 2 := by unfold arty; by_cases hq : o ≤ 5 <;> simp [hq]; omega
  rw [hz] at ha ⊢
  by_cases c1 : o = 1
  · simp [c1]
  by_cases c2 : o = 2
  · simp [c2]
  by_cases c3 : o = 3
  · simp [c3]
  by_cases c4 : o = 4
  · simp [c4]
  by_cases c5 : o = 5
  · simp [c5]
  have n5 : ¬ o ≤ 5 := by omega
  simp only [c1, c2, c3, c4, c5, n5, reduceIte] at h ha ⊢
  by_cases c6 : o = 6
  · simp only [c6, reduceIte, true_or] at h ha ⊢
    exact calV_t h
  simp only [c6, reduceIte, false_or] at h ha ⊢
  by_cases c10 : o ≤ 10
  · have e17 : ¬ (o = 17 ∨ o = 18) := by omega
    simp only [c10, e17, reduceIte] at h ha ⊢
    exact calV_t h
  by_cases c16 : o ≤ 16
  · have e17 : ¬ (o = 17 ∨ o = 18) := by omega
    simp only [c10, c16, e17, reduceIte]
  by_cases c17 : o = 17
  · simp [c17]
  by_cases c18 : o = 18
  · simp [c18]
  by_cases c19 : o = 19
  · simp [c19]
  · simp [c10, c16, c17, c18, c19]
section
variable {ld : Nat → Nat → Int32 × Bool} {w : Int32 × Int32} {ws : List (Int32 × Int32)} {v v' : Nat → Int32} {m m' : Nat → Bool} {t t' : Nat} {f : Int32}
theorem evs_ok (h : ev1 ld w v m t = (f, v', m', t')) (hf : f = nI 0) : evs ld (w :: ws) v m t = evs ld ws v' m' t' := by simp only [evs, h, hf, reduceIte]
theorem evs_f (h : ev1 ld w v m t = (f, v', m', t')) (hf : ¬ f = nI 0) : evs ld (w :: ws) v m t = (f, v', m', t') := by simp only [evs, h, hf, reduceIte]
end
theorem EnvC_rg {S : ST} {d : DB} {tc : Nat} {tj rw : Nat → Nat} (h : EnvC S d tc tj rw) (a n : Nat) : EnvC (rg S a n) d tc tj rw := by
  refine ⟨DbC_same h.1 (by rw [rg_gi8]) (by intro k t; rw [rg_gi7]) (by intro t; rw [rg_ga29, rg_ga30, rg_ga31, rg_gy32]; exact ⟨rfl, rfl, rfl, rfl⟩), h.2.1, fun i hi => ?_⟩
  have := h.2.2 i hi
  have h2 := h.2.1
  rw [rg_gr2, rg_i _ _ _ _ (by omega)]
  exact this
theorem PrC_mp {S : ST} {P : List (Int32 × Int32)} (h : PrC S P) (a n : Nat) (v : Nat → Int32) (m : Nat → Bool) (t : Nat) : PrC (mp (rg S a n) v m t) P := by
  unfold PrC at *
  rw [mp_gi1, rg_gi1, mp_ga13, rg_ga13, mp_ga14, rg_ga14]
  exact h
def limL (S : ST) (x : Int32) : Int64 := lN 400 * x.toInt64 * (gl S 2 18 0 + lN 1)
theorem run_words (h : Nat) (x : Int32) (S : ST) (d : DB) (tc : Nat) (tj rw : Nat → Nat) (Q : Option AV → ST → Prop) (P post : List (Int32 × Int32)) (hP : PrC S P) (hr : gz S 2 15 0 = true) (hE : EnvC S d tc tj rw) : ∀ (ws pre : List (Int32 × Int32)) (v : Nat → Int32) (m : Nat → Bool) (t n : Nat), P = pre ++ ws ++ post → EH d tc tj ws t → t ≤ 10 → n + ws.length < 1000000 → ((evs (ldE d tj rw) ws v m t).1 = nI 0 → RUN h x (n + ws.length) (mp (rg S (pre.length + ws.length) (n + ws.length)) (evs (ldE d tj rw) ws v m t).2.1 (evs (ldE d tj rw) ws v m t).2.2.1 (evs (ldE d tj rw) ws v m t).2.2.2) Q) → (¬ (evs (ldE d tj rw) ws v m t).1 = nI 0 → ∀ (a' n' : Nat) (v' : Nat → Int32) (m' : Nat → Bool) (t' : Nat), n' ≤ n + ws.length → Q (some (vI (evs (ldE d tj rw) ws v m t).1)) (sl (flS (mp (rg S a' n') v' m' t') (evs (ldE d tj rw) ws v m t).1) 2 19 0 (limL S x))) → RUN h x n (mp (rg S pre.length n) v m t) Q := by
  intro ws
  induction ws with
  | nil =>
    intro pre v m t n hp he ht hn h1 h2
    exact h1 rfl
  | cons w ws ih =>
    intro pre v m t n hp he ht hn h1 h2
    obtain ⟨o, hw, ha, ht2, he2⟩ := he
    have hs := c_stepE h (rg S (pre.length + 1) (n + 1)) d tc tj rw v m t w o (EnvC_rg hE _ _) hw ha ht ht2
    have hT := ev1_t (ld := ldE d tj rw) (v := v) (m := m) hw ha
    simp only [List.length_cons] at hn h1 h2
    rcases hk : ev1 (ldE d tj rw) w v m t with ⟨f, v', m', t'⟩
    rw [hk] at hs hT
    simp only at hT
    refine run_step h x n (mp (rg S pre.length n) v m t) _ Q P pre.length w (PrC_mp hP _ _ _ _ _) (by rw [mp_gz2, rg_gz2]; exact hr) (by rw [mp_i _ _ _ _ _ (by decide), rg_a]) (by rw [mp_gl2, rg_n]) (by rw [hp]; simp) (by omega) (by rw [rg_mp]; exact hs) ?_
    by_cases hf : f = nI 0
    · rw [evs_ok hk hf] at h1 h2
      rw [evS, if_pos (by exact hf)]
      have := ih (pre ++ [w]) v' m' t' (n + 1) (by rw [hp]; simp) (by rw [hT hf]; exact he2) (by rw [hT hf]; exact ht2) (by omega) (by
        intro z
        have := h1 z
        rw [List.length_append, List.length_cons, List.length_nil, show pre.length + (0 + 1) + ws.length = pre.length + (ws.length + 1) by omega, show n + 1 + ws.length = n + (ws.length + 1) by omega]
        exact this) (by
        intro z a' n' v'' m'' t'' hle
        exact h2 z a' n' v'' m'' t'' (by omega))
      rw [List.length_append] at this
      exact this
    · rw [evs_f hk hf] at h2
      rw [evS, if_neg (by exact hf)]
      refine run_exit h x (n + 1) _ Q (by simp only [flS, gi_si, gi_sl, gi_sz, gi_sr, gi_sa, gi_sb, gi_sy, gl_si, gl_sl, gl_sz, gl_sr, gl_sa, gl_sb, gl_sy, gz_si, gz_sl, gz_sz, gz_sr, gz_sa, gz_sb, gz_sy, gr_si, gr_sl, gr_sz, gr_sr, gr_sa, gr_sb, gr_sy, ga_si, ga_sl, ga_sz, ga_sr, ga_sa, ga_sb, ga_sy, gb_si, gb_sl, gb_sz, gb_sr, gb_sa, gb_sb, gb_sy, gy_si, gy_sl, gy_sz, gy_sr, gy_sa, gy_sb, gy_sy, reduceIte, Nat.reduceEqDiff, and_true, true_and, and_self, false_and, and_false]) (by omega) ?_
      have := h2 hf (pre.length + 1) (n + 1) v' m' t' (by omega)
      have e1 : gi (flS (mp (rg S (pre.length + 1) (n + 1)) v' m' t') f) 2 14 0 = f := by simp only [flS, gi_si, gi_sl, gi_sz, gi_sr, gi_sa, gi_sb, gi_sy, gl_si, gl_sl, gl_sz, gl_sr, gl_sa, gl_sb, gl_sy, gz_si, gz_sl, gz_sz, gz_sr, gz_sa, gz_sb, gz_sy, gr_si, gr_sl, gr_sz, gr_sr, gr_sa, gr_sb, gr_sy, ga_si, ga_sl, ga_sz, ga_sr, ga_sa, ga_sb, ga_sy, gb_si, gb_sl, gb_sz, gb_sr, gb_sa, gb_sb, gb_sy, gy_si, gy_sl, gy_sz, gy_sr, gy_sa, gy_sb, gy_sy, reduceIte, Nat.reduceEqDiff, and_true, true_and, and_self, false_and, and_false]
      have e2 : gl (flS (mp (rg S (pre.length + 1) (n + 1)) v' m' t') f) 2 18 0 = gl S 2 18 0 := by simp only [flS, mp, rg, gi_si, gi_sl, gi_sz, gi_sr, gi_sa, gi_sb, gi_sy, gl_si, gl_sl, gl_sz, gl_sr, gl_sa, gl_sb, gl_sy, gz_si, gz_sl, gz_sz, gz_sr, gz_sa, gz_sb, gz_sy, gr_si, gr_sl, gr_sz, gr_sr, gr_sa, gr_sb, gr_sy, ga_si, ga_sl, ga_sz, ga_sr, ga_sa, ga_sb, ga_sy, gb_si, gb_sl, gb_sz, gb_sr, gb_sa, gb_sb, gb_sy, gy_si, gy_sl, gy_sz, gy_sr, gy_sa, gy_sb, gy_sy, reduceIte, Nat.reduceEqDiff, and_true, true_and, and_self, false_and, and_false]
      simp only [e1, e2]
      exact this
