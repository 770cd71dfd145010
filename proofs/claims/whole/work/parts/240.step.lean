-- deps: 220 231
-- one word of an expression or a condition, done by the machine
def flS (S : ST) (f : Int32) : ST := sz (si S 2 12 0 f) 2 13 0 false
def calV (v : Nat → Int32) (m : Nat → Bool) (i : Nat) (o l r : Int32) (z : Bool) : Int32 × (Nat → Int32) × (Nat → Bool) × Nat :=
  if z = true then (nI 0, up1 v i (nI 0), up1 m i true, i + 1)
  else if o = nI 10 ∧ r.toInt64 = lN 0 then (-1004, v, m, i)
  else if fitsB (calcN o l.toInt64 r.toInt64) = true then (nI 0, up1 v i (calcN o l.toInt64 r.toInt64).toInt32, up1 m i false, i + 1)
  else (-1005, v, m, i)
/-- what a word's doing leaves: the pile, or the fault -/
def evS (S : ST) (q : Int32 × (Nat → Int32) × (Nat → Bool) × Nat) : ST := if q.1 = nI 0 then mp S q.2.1 q.2.2.1 q.2.2.2 else flS (mp S q.2.1 q.2.2.1 q.2.2.2) q.1
theorem calS_eq (S : ST) (v : Nat → Int32) (m : Nat → Bool) (i : Nat) (o l r : Int32) (z : Bool) : calS S v m i o l r z = evS S (calV v m i o l r z) := by
  unfold calS calV
  have h1 : ¬ ((-1004 : Int32) = nI 0) := by decide
  have h2 : ¬ ((-1005 : Int32) = nI 0) := by decide
  (repeat' split) <;> simp_all [evS, flS]
/-- one word: 0 or the fault, and the pile -/
def ev1 (ld : Nat → Nat → Int32 × Bool) (w : Int32 × Int32) (v : Nat → Int32) (m : Nat → Bool) (t : Nat) : Int32 × (Nat → Int32) × (Nat → Bool) × Nat :=
  if w.1 = nI 1 then (nI 0, up1 v t w.2, up1 m t false, t + 1)
  else if w.1 = nI 2 then (nI 0, up1 v t w.2, up1 m t false, t + 1)
  else if w.1 = nI 3 then (nI 0, up1 v t (nI 0), up1 m t true, t + 1)
  else if w.1 = nI 4 then (nI 0, up1 v t (ld 0 w.2.toNatClampNeg).1, up1 m t (ld 0 w.2.toNatClampNeg).2, t + 1)
  else if w.1 = nI 5 then (nI 0, up1 v t (ld 1 w.2.toNatClampNeg).1, up1 m t (ld 1 w.2.toNatClampNeg).2, t + 1)
  else if w.1 = nI 6 then calV v m (t - 1) (nI 6) (nI 0) (v (t - 1)) (m (t - 1))
  else if w.1 ≤ nI 10 then calV v m (t - 2) w.1 (v (t - 2)) (v (t - 2 + 1)) (m (t - 2 + 1) || m (t - 2))
  else if w.1 ≤ nI 16 then (nI 0, up1 v (t - 2) (cmpV w.1 (v (t - 2)) (v (t - 2 + 1)) (m (t - 2 + 1) || m (t - 2))), up1 m (t - 2) false, t - 2 + 1)
  else if w.1 = nI 17 then (nI 0, up1 v (t - 1) (if m (t - 1) = true then nI 2 else nI 0), up1 m (t - 1) false, t - 1 + 1)
  else if w.1 = nI 18 then (nI 0, up1 v (t - 1) (nI 2 - v (t - 1)), up1 m (t - 1) false, t - 1 + 1)
  else if w.1 = nI 19 then (nI 0, up1 v (t - 2) (if v (t - 2 + 1) < v (t - 2) then v (t - 2 + 1) else v (t - 2)), up1 m (t - 2) false, t - 2 + 1)
  else (nI 0, up1 v (t - 2) (if v (t - 2) < v (t - 2 + 1) then v (t - 2 + 1) else v (t - 2)), up1 m (t - 2) false, t - 2 + 1)
/-- the rows that the machine stands at: tables tj, rows rw -/
def EnvC (S : ST) (d : DB) (tc : Nat) (tj rw : Nat → Nat) : Prop := DbC S d ∧ tc ≤ 2 ∧ ∀ i, i < tc → (gr S 2 (5 + i) 0 = tj i ∧ tj i < 4) ∧ gi S 2 (7 + i) 0 = nI (rw i) ∧ rw i < dR d (tj i)
def ldE (d : DB) (tj rw : Nat → Nat) (i c : Nat) : Int32 × Bool := (dV d (tj i) (rw i * 4 + c), dM d (tj i) (rw i * 4 + c))
/-- may the word stand there -/
def EW (d : DB) (tc : Nat) (tj : Nat → Nat) (w : Int32 × Int32) (o : Nat) : Prop := w.1 = nI o ∧ 1 ≤ o ∧ o ≤ 20 ∧ (o = 4 → 0 < tc ∧ ∃ c, w.2 = nI c ∧ c < dK d (tj 0)) ∧ (o = 5 → 1 < tc ∧ ∃ c, w.2 = nI c ∧ c < dK d (tj 1))
section
variable (h : Nat) (S : ST) (d : DB) (tc : Nat) (tj rw : Nat → Nat) (v : Nat → Int32) (m : Nat → Bool) (t : Nat)
theorem c_stepB (o : Nat) (y : Int32) (ho : 1 ≤ o) (ho2 : o ≤ 5) (q : Int32 × (Nat → Int32) × (Nat → Bool) × Nat) (hB : Ct MX2_bring (h + 2) [vR 2 0, vI (nI o), vI y] (mp S v m t) (fun r S' => r = none ∧ S' = evS S q)) : Ct MX2_step (h + 3) [vR 2 0, vI (nI o), vI y] (mp S v m t) (fun r S' => r = none ∧ S' = evS S q) := by
  have qe_o_1 : (nI o = nI 1) = (o = 1) := n_eqE (by omega) (by omega)
  have ql_o_1 : (nI o < nI 1) = (o < 1) := n_ltE (by omega) (by omega)
  have qg_o_1 : (nI 1 < nI o) = (1 < o) := n_ltE (by omega) (by omega)
  have qle_o_1 : (nI o ≤ nI 1) = (o ≤ 1) := n_leE (by omega) (by omega)
  have qge_o_1 : (nI 1 ≤ nI o) = (1 ≤ o) := n_leE (by omega) (by omega)
  have qe_o_5 : (nI o = nI 5) = (o = 5) := n_eqE (by omega) (by omega)
  have ql_o_5 : (nI o < nI 5) = (o < 5) := n_ltE (by omega) (by omega)
  have qg_o_5 : (nI 5 < nI o) = (5 < o) := n_ltE (by omega) (by omega)
  have qle_o_5 : (nI o ≤ nI 5) = (o ≤ 5) := n_leE (by omega) (by omega)
  have qge_o_5 : (nI 5 ≤ nI o) = (5 ≤ o) := n_leE (by omega) (by omega)
  have qe_o_49 : (nI o = nI 49) = (o = 49) := n_eqE (by omega) (by omega)
  have ql_o_49 : (nI o < nI 49) = (o < 49) := n_ltE (by omega) (by omega)
  have qg_o_49 : (nI 49 < nI o) = (49 < o) := n_ltE (by omega) (by omega)
  have qle_o_49 : (nI o ≤ nI 49) = (o ≤ 49) := n_leE (by omega) (by omega)
  have qge_o_49 : (nI 49 ≤ nI o) = (49 ≤ o) := n_leE (by omega) (by omega)
  refine e_X2_step ?_
  repeat' (first | ((first | with_reducible refine b_X2_step_0 ?_ | with_reducible refine b_X2_step_5 ?_ | with_reducible refine b_X2_step_11 ?_ | with_reducible refine b_X2_step_24 ?_ | with_reducible refine b_X2_step_29 ?_ | ((with_reducible refine k_X2_step_32 (hB) ?_ (by first | decide | assumption | (simp only [NI]; omega)) (Nat.le_of_ble_eq_true rfl)); rintro r S' ⟨rfl, rfl⟩) | with_reducible refine b_X2_step_35 ?_ | with_reducible refine b_X2_step_38 ?_ | with_reducible refine b_X2_step_44 ?_ | with_reducible refine b_X2_step_49 ?_ | with_reducible refine b_X2_step_52 ?_ | with_reducible refine b_X2_step_58 ?_ | with_reducible refine b_X2_step_63 ?_ | with_reducible refine b_X2_step_66 ?_ | with_reducible refine b_X2_step_72 ?_ | with_reducible refine b_X2_step_77 ?_ | with_reducible refine b_X2_step_80 ?_ | with_reducible refine b_X2_step_86 ?_ | with_reducible refine b_X2_step_92 ?_ | with_reducible refine b_X2_step_95 ?_ | with_reducible refine b_X2_step_101 ?_ | with_reducible refine b_X2_step_107 ?_ | with_reducible refine b_X2_step_110 ?_ | with_reducible refine b_X2_step_116 ?_ | with_reducible refine b_X2_step_122 ?_ | with_reducible refine b_X2_step_125 ?_ | with_reducible refine b_X2_step_131 ?_) <;> (try simp only [o_al, o_c, o_il, o_putz, t_2, t_vr, decide_true, decide_false, Bool.decide_eq_true, Bool.not_eq_false, Bool.not_eq_true, bft, btf, false_implies, true_implies, decide_eq_true_eq, decide_eq_false_iff_not, fv, st1, st2, kl, cat1, List.getElem?_cons_zero, List.getElem?_cons_succ, List.set_cons_zero, List.set_cons_succ, List.length_cons, List.length_nil, List.forall_mem_cons, List.not_mem_nil, Option.toList_some, Option.toList_none, List.cons_append, List.nil_append, and_true, true_and, and_self, reduceIte, Nat.reduceEqDiff, Nat.reduceLT, Nat.reduceAdd, Nat.lt_add_one, Nat.zero_lt_one, Nat.reduceLeDiff, false_and, and_false, forall_const, eq_self, not_true_eq_false, not_false_eq_true, implies_true, forall_eq, b2i_t, b2i_f, true_or, or_true, or_self, or_false, false_or, z01, z10, d10, d01, b2i_01, b2i_d, b2i_eq0, b2i_eq1, b2i_inj, Bool.true_eq_false, Bool.false_eq_true, gi_si, gi_sl, gi_sz, gi_sr, gi_sa, gi_sb, gi_sy, gl_si, gl_sl, gl_sz, gl_sr, gl_sa, gl_sb, gl_sy, gz_si, gz_sl, gz_sz, gz_sr, gz_sa, gz_sb, gz_sy, gr_si, gr_sl, gr_sz, gr_sr, gr_sa, gr_sb, gr_sy, ga_si, ga_sl, ga_sz, ga_sr, ga_sa, ga_sb, ga_sy, gb_si, gb_sl, gb_sz, gb_sr, gb_sa, gb_sb, gb_sy, gy_si, gy_sl, gy_sz, gy_sr, gy_sa, gy_sb, gy_sy, NI_2, LY_2, qe_o_1, ql_o_1, qg_o_1, qle_o_1, qge_o_1, qe_o_5, ql_o_5, qg_o_5, qle_o_5, qge_o_5, qe_o_49, ql_o_49, qg_o_49, qle_o_49, qge_o_49])) | ((with_reducible apply br_V) <;> intro hc) | ((with_reducible apply br_C) <;> try intro hc) | (with_reducible apply an_I) | (with_reducible apply an_V) | (with_reducible apply an_A))
  all_goals (exfalso; omega)
theorem c_stepC (o : Nat) (y : Int32) (ho : 6 ≤ o) (ho2 : o ≤ 10) (q : Int32 × (Nat → Int32) × (Nat → Bool) × Nat) (hB : Ct MX2_calculate (h + 2) [vR 2 0, vI (nI o)] (mp S v m t) (fun r S' => r = none ∧ S' = evS S q)) : Ct MX2_step (h + 3) [vR 2 0, vI (nI o), vI y] (mp S v m t) (fun r S' => r = none ∧ S' = evS S q) := by
  have qe_o_1 : (nI o = nI 1) = (o = 1) := n_eqE (by omega) (by omega)
  have ql_o_1 : (nI o < nI 1) = (o < 1) := n_ltE (by omega) (by omega)
  have qg_o_1 : (nI 1 < nI o) = (1 < o) := n_ltE (by omega) (by omega)
  have qle_o_1 : (nI o ≤ nI 1) = (o ≤ 1) := n_leE (by omega) (by omega)
  have qge_o_1 : (nI 1 ≤ nI o) = (1 ≤ o) := n_leE (by omega) (by omega)
  have qe_o_5 : (nI o = nI 5) = (o = 5) := n_eqE (by omega) (by omega)
  have ql_o_5 : (nI o < nI 5) = (o < 5) := n_ltE (by omega) (by omega)
  have qg_o_5 : (nI 5 < nI o) = (5 < o) := n_ltE (by omega) (by omega)
  have qle_o_5 : (nI o ≤ nI 5) = (o ≤ 5) := n_leE (by omega) (by omega)
  have qge_o_5 : (nI 5 ≤ nI o) = (5 ≤ o) := n_leE (by omega) (by omega)
  have qe_o_49 : (nI o = nI 49) = (o = 49) := n_eqE (by omega) (by omega)
  have ql_o_49 : (nI o < nI 49) = (o < 49) := n_ltE (by omega) (by omega)
  have qg_o_49 : (nI 49 < nI o) = (49 < o) := n_ltE (by omega) (by omega)
  have qle_o_49 : (nI o ≤ nI 49) = (o ≤ 49) := n_leE (by omega) (by omega)
  have qge_o_49 : (nI 49 ≤ nI o) = (49 ≤ o) := n_leE (by omega) (by omega)
  have qe_o_10 : (nI o = nI 10) = (o = 10) := n_eqE (by omega) (by omega)
  have ql_o_10 : (nI o < nI 10) = (o < 10) := n_ltE (by omega) (by omega)
  have qg_o_10 : (nI 10 < nI o) = (10 < o) := n_ltE (by omega) (by omega)
  have qle_o_10 : (nI o ≤ nI 10) = (o ≤ 10) := n_leE (by omega) (by omega)
  have qge_o_10 : (nI 10 ≤ nI o) = (10 ≤ o) := n_leE (by omega) (by omega)
  refine e_X2_step ?_
  repeat' (first | ((first | with_reducible refine b_X2_step_0 ?_ | with_reducible refine b_X2_step_5 ?_ | with_reducible refine b_X2_step_11 ?_ | with_reducible refine b_X2_step_24 ?_ | with_reducible refine b_X2_step_29 ?_ | with_reducible refine b_X2_step_35 ?_ | with_reducible refine b_X2_step_38 ?_ | with_reducible refine b_X2_step_44 ?_ | ((with_reducible refine k_X2_step_46 (hB) ?_ (by first | decide | assumption | (simp only [NI]; omega)) (Nat.le_of_ble_eq_true rfl)); rintro r S' ⟨rfl, rfl⟩) | with_reducible refine b_X2_step_49 ?_ | with_reducible refine b_X2_step_52 ?_ | with_reducible refine b_X2_step_58 ?_ | with_reducible refine b_X2_step_63 ?_ | with_reducible refine b_X2_step_66 ?_ | with_reducible refine b_X2_step_72 ?_ | with_reducible refine b_X2_step_77 ?_ | with_reducible refine b_X2_step_80 ?_ | with_reducible refine b_X2_step_86 ?_ | with_reducible refine b_X2_step_92 ?_ | with_reducible refine b_X2_step_95 ?_ | with_reducible refine b_X2_step_101 ?_ | with_reducible refine b_X2_step_107 ?_ | with_reducible refine b_X2_step_110 ?_ | with_reducible refine b_X2_step_116 ?_ | with_reducible refine b_X2_step_122 ?_ | with_reducible refine b_X2_step_125 ?_ | with_reducible refine b_X2_step_131 ?_) <;> (try simp only [o_al, o_c, o_il, o_putz, t_2, t_vr, decide_true, decide_false, Bool.decide_eq_true, Bool.not_eq_false, Bool.not_eq_true, bft, btf, false_implies, true_implies, decide_eq_true_eq, decide_eq_false_iff_not, fv, st1, st2, kl, cat1, List.getElem?_cons_zero, List.getElem?_cons_succ, List.set_cons_zero, List.set_cons_succ, List.length_cons, List.length_nil, List.forall_mem_cons, List.not_mem_nil, Option.toList_some, Option.toList_none, List.cons_append, List.nil_append, and_true, true_and, and_self, reduceIte, Nat.reduceEqDiff, Nat.reduceLT, Nat.reduceAdd, Nat.lt_add_one, Nat.zero_lt_one, Nat.reduceLeDiff, false_and, and_false, forall_const, eq_self, not_true_eq_false, not_false_eq_true, implies_true, forall_eq, b2i_t, b2i_f, true_or, or_true, or_self, or_false, false_or, z01, z10, d10, d01, b2i_01, b2i_d, b2i_eq0, b2i_eq1, b2i_inj, Bool.true_eq_false, Bool.false_eq_true, gi_si, gi_sl, gi_sz, gi_sr, gi_sa, gi_sb, gi_sy, gl_si, gl_sl, gl_sz, gl_sr, gl_sa, gl_sb, gl_sy, gz_si, gz_sl, gz_sz, gz_sr, gz_sa, gz_sb, gz_sy, gr_si, gr_sl, gr_sz, gr_sr, gr_sa, gr_sb, gr_sy, ga_si, ga_sl, ga_sz, ga_sr, ga_sa, ga_sb, ga_sy, gb_si, gb_sl, gb_sz, gb_sr, gb_sa, gb_sb, gb_sy, gy_si, gy_sl, gy_sz, gy_sr, gy_sa, gy_sb, gy_sy, NI_2, LY_2, qe_o_1, ql_o_1, qg_o_1, qle_o_1, qge_o_1, qe_o_5, ql_o_5, qg_o_5, qle_o_5, qge_o_5, qe_o_49, ql_o_49, qg_o_49, qle_o_49, qge_o_49, qe_o_10, ql_o_10, qg_o_10, qle_o_10, qge_o_10])) | ((with_reducible apply br_V) <;> intro hc) | ((with_reducible apply br_C) <;> try intro hc) | (with_reducible apply an_I) | (with_reducible apply an_V) | (with_reducible apply an_A))
  all_goals (exfalso; omega)
theorem c_stepD (o : Nat) (y : Int32) (ho : 11 ≤ o) (ho2 : o ≤ 16) (q : Int32 × (Nat → Int32) × (Nat → Bool) × Nat) (hB : Ct MX2_compare (h + 2) [vR 2 0, vI (nI o)] (mp S v m t) (fun r S' => r = none ∧ S' = evS S q)) : Ct MX2_step (h + 3) [vR 2 0, vI (nI o), vI y] (mp S v m t) (fun r S' => r = none ∧ S' = evS S q) := by
  have qe_o_1 : (nI o = nI 1) = (o = 1) := n_eqE (by omega) (by omega)
  have ql_o_1 : (nI o < nI 1) = (o < 1) := n_ltE (by omega) (by omega)
  have qg_o_1 : (nI 1 < nI o) = (1 < o) := n_ltE (by omega) (by omega)
  have qle_o_1 : (nI o ≤ nI 1) = (o ≤ 1) := n_leE (by omega) (by omega)
  have qge_o_1 : (nI 1 ≤ nI o) = (1 ≤ o) := n_leE (by omega) (by omega)
  have qe_o_5 : (nI o = nI 5) = (o = 5) := n_eqE (by omega) (by omega)
  have ql_o_5 : (nI o < nI 5) = (o < 5) := n_ltE (by omega) (by omega)
  have qg_o_5 : (nI 5 < nI o) = (5 < o) := n_ltE (by omega) (by omega)
  have qle_o_5 : (nI o ≤ nI 5) = (o ≤ 5) := n_leE (by omega) (by omega)
  have qge_o_5 : (nI 5 ≤ nI o) = (5 ≤ o) := n_leE (by omega) (by omega)
  have qe_o_49 : (nI o = nI 49) = (o = 49) := n_eqE (by omega) (by omega)
  have ql_o_49 : (nI o < nI 49) = (o < 49) := n_ltE (by omega) (by omega)
  have qg_o_49 : (nI 49 < nI o) = (49 < o) := n_ltE (by omega) (by omega)
  have qle_o_49 : (nI o ≤ nI 49) = (o ≤ 49) := n_leE (by omega) (by omega)
  have qge_o_49 : (nI 49 ≤ nI o) = (49 ≤ o) := n_leE (by omega) (by omega)
  have qe_o_10 : (nI o = nI 10) = (o = 10) := n_eqE (by omega) (by omega)
  have ql_o_10 : (nI o < nI 10) = (o < 10) := n_ltE (by omega) (by omega)
  have qg_o_10 : (nI 10 < nI o) = (10 < o) := n_ltE (by omega) (by omega)
  have qle_o_10 : (nI o ≤ nI 10) = (o ≤ 10) := n_leE (by omega) (by omega)
  have qge_o_10 : (nI 10 ≤ nI o) = (10 ≤ o) := n_leE (by omega) (by omega)
  have qe_o_16 : (nI o = nI 16) = (o = 16) := n_eqE (by omega) (by omega)
  have ql_o_16 : (nI o < nI 16) = (o < 16) := n_ltE (by omega) (by omega)
  have qg_o_16 : (nI 16 < nI o) = (16 < o) := n_ltE (by omega) (by omega)
  have qle_o_16 : (nI o ≤ nI 16) = (o ≤ 16) := n_leE (by omega) (by omega)
  have qge_o_16 : (nI 16 ≤ nI o) = (16 ≤ o) := n_leE (by omega) (by omega)
  refine e_X2_step ?_
  repeat' (first | ((first | with_reducible refine b_X2_step_0 ?_ | with_reducible refine b_X2_step_5 ?_ | with_reducible refine b_X2_step_11 ?_ | with_reducible refine b_X2_step_24 ?_ | with_reducible refine b_X2_step_29 ?_ | with_reducible refine b_X2_step_35 ?_ | with_reducible refine b_X2_step_38 ?_ | with_reducible refine b_X2_step_44 ?_ | with_reducible refine b_X2_step_49 ?_ | with_reducible refine b_X2_step_52 ?_ | with_reducible refine b_X2_step_58 ?_ | ((with_reducible refine k_X2_step_60 (hB) ?_ (by first | decide | assumption | (simp only [NI]; omega)) (Nat.le_of_ble_eq_true rfl)); rintro r S' ⟨rfl, rfl⟩) | with_reducible refine b_X2_step_63 ?_ | with_reducible refine b_X2_step_66 ?_ | with_reducible refine b_X2_step_72 ?_ | with_reducible refine b_X2_step_77 ?_ | with_reducible refine b_X2_step_80 ?_ | with_reducible refine b_X2_step_86 ?_ | with_reducible refine b_X2_step_92 ?_ | with_reducible refine b_X2_step_95 ?_ | with_reducible refine b_X2_step_101 ?_ | with_reducible refine b_X2_step_107 ?_ | with_reducible refine b_X2_step_110 ?_ | with_reducible refine b_X2_step_116 ?_ | with_reducible refine b_X2_step_122 ?_ | with_reducible refine b_X2_step_125 ?_ | with_reducible refine b_X2_step_131 ?_) <;> (try simp only [o_al, o_c, o_il, o_putz, t_2, t_vr, decide_true, decide_false, Bool.decide_eq_true, Bool.not_eq_false, Bool.not_eq_true, bft, btf, false_implies, true_implies, decide_eq_true_eq, decide_eq_false_iff_not, fv, st1, st2, kl, cat1, List.getElem?_cons_zero, List.getElem?_cons_succ, List.set_cons_zero, List.set_cons_succ, List.length_cons, List.length_nil, List.forall_mem_cons, List.not_mem_nil, Option.toList_some, Option.toList_none, List.cons_append, List.nil_append, and_true, true_and, and_self, reduceIte, Nat.reduceEqDiff, Nat.reduceLT, Nat.reduceAdd, Nat.lt_add_one, Nat.zero_lt_one, Nat.reduceLeDiff, false_and, and_false, forall_const, eq_self, not_true_eq_false, not_false_eq_true, implies_true, forall_eq, b2i_t, b2i_f, true_or, or_true, or_self, or_false, false_or, z01, z10, d10, d01, b2i_01, b2i_d, b2i_eq0, b2i_eq1, b2i_inj, Bool.true_eq_false, Bool.false_eq_true, gi_si, gi_sl, gi_sz, gi_sr, gi_sa, gi_sb, gi_sy, gl_si, gl_sl, gl_sz, gl_sr, gl_sa, gl_sb, gl_sy, gz_si, gz_sl, gz_sz, gz_sr, gz_sa, gz_sb, gz_sy, gr_si, gr_sl, gr_sz, gr_sr, gr_sa, gr_sb, gr_sy, ga_si, ga_sl, ga_sz, ga_sr, ga_sa, ga_sb, ga_sy, gb_si, gb_sl, gb_sz, gb_sr, gb_sa, gb_sb, gb_sy, gy_si, gy_sl, gy_sz, gy_sr, gy_sa, gy_sb, gy_sy, NI_2, LY_2, qe_o_1, ql_o_1, qg_o_1, qle_o_1, qge_o_1, qe_o_5, ql_o_5, qg_o_5, qle_o_5, qge_o_5, qe_o_49, ql_o_49, qg_o_49, qle_o_49, qge_o_49, qe_o_10, ql_o_10, qg_o_10, qle_o_10, qge_o_10, qe_o_16, ql_o_16, qg_o_16, qle_o_16, qge_o_16])) | ((with_reducible apply br_V) <;> intro hc) | ((with_reducible apply br_C) <;> try intro hc) | (with_reducible apply an_I) | (with_reducible apply an_V) | (with_reducible apply an_A))
  all_goals (exfalso; omega)
theorem c_stepJ (o : Nat) (y : Int32) (ho : 17 ≤ o) (ho2 : o ≤ 20) (q : Int32 × (Nat → Int32) × (Nat → Bool) × Nat) (hB : Ct MX2_judge (h + 2) [vR 2 0, vI (nI o)] (mp S v m t) (fun r S' => r = none ∧ S' = evS S q)) : Ct MX2_step (h + 3) [vR 2 0, vI (nI o), vI y] (mp S v m t) (fun r S' => r = none ∧ S' = evS S q) := by
  have qe_o_1 : (nI o = nI 1) = (o = 1) := n_eqE (by omega) (by omega)
  have ql_o_1 : (nI o < nI 1) = (o < 1) := n_ltE (by omega) (by omega)
  have qg_o_1 : (nI 1 < nI o) = (1 < o) := n_ltE (by omega) (by omega)
  have qle_o_1 : (nI o ≤ nI 1) = (o ≤ 1) := n_leE (by omega) (by omega)
  have qge_o_1 : (nI 1 ≤ nI o) = (1 ≤ o) := n_leE (by omega) (by omega)
  have qe_o_5 : (nI o = nI 5) = (o = 5) := n_eqE (by omega) (by omega)
  have ql_o_5 : (nI o < nI 5) = (o < 5) := n_ltE (by omega) (by omega)
  have qg_o_5 : (nI 5 < nI o) = (5 < o) := n_ltE (by omega) (by omega)
  have qle_o_5 : (nI o ≤ nI 5) = (o ≤ 5) := n_leE (by omega) (by omega)
  have qge_o_5 : (nI 5 ≤ nI o) = (5 ≤ o) := n_leE (by omega) (by omega)
  have qe_o_49 : (nI o = nI 49) = (o = 49) := n_eqE (by omega) (by omega)
  have ql_o_49 : (nI o < nI 49) = (o < 49) := n_ltE (by omega) (by omega)
  have qg_o_49 : (nI 49 < nI o) = (49 < o) := n_ltE (by omega) (by omega)
  have qle_o_49 : (nI o ≤ nI 49) = (o ≤ 49) := n_leE (by omega) (by omega)
  have qge_o_49 : (nI 49 ≤ nI o) = (49 ≤ o) := n_leE (by omega) (by omega)
  have qe_o_10 : (nI o = nI 10) = (o = 10) := n_eqE (by omega) (by omega)
  have ql_o_10 : (nI o < nI 10) = (o < 10) := n_ltE (by omega) (by omega)
  have qg_o_10 : (nI 10 < nI o) = (10 < o) := n_ltE (by omega) (by omega)
  have qle_o_10 : (nI o ≤ nI 10) = (o ≤ 10) := n_leE (by omega) (by omega)
  have qge_o_10 : (nI 10 ≤ nI o) = (10 ≤ o) := n_leE (by omega) (by omega)
  have qe_o_16 : (nI o = nI 16) = (o = 16) := n_eqE (by omega) (by omega)
  have ql_o_16 : (nI o < nI 16) = (o < 16) := n_ltE (by omega) (by omega)
  have qg_o_16 : (nI 16 < nI o) = (16 < o) := n_ltE (by omega) (by omega)
  have qle_o_16 : (nI o ≤ nI 16) = (o ≤ 16) := n_leE (by omega) (by omega)
  have qge_o_16 : (nI 16 ≤ nI o) = (16 ≤ o) := n_leE (by omega) (by omega)
  have qe_o_20 : (nI o = nI 20) = (o = 20) := n_eqE (by omega) (by omega)
  have ql_o_20 : (nI o < nI 20) = (o < 20) := n_ltE (by omega) (by omega)
  have qg_o_20 : (nI 20 < nI o) = (20 < o) := n_ltE (by omega) (by omega)
  have qle_o_20 : (nI o ≤ nI 20) = (o ≤ 20) := n_leE (by omega) (by omega)
  have qge_o_20 : (nI 20 ≤ nI o) = (20 ≤ o) := n_leE (by omega) (by omega)
  refine e_X2_step ?_
  repeat' (first | ((first | with_reducible refine b_X2_step_0 ?_ | with_reducible refine b_X2_step_5 ?_ | with_reducible refine b_X2_step_11 ?_ | with_reducible refine b_X2_step_24 ?_ | with_reducible refine b_X2_step_29 ?_ | with_reducible refine b_X2_step_35 ?_ | with_reducible refine b_X2_step_38 ?_ | with_reducible refine b_X2_step_44 ?_ | with_reducible refine b_X2_step_49 ?_ | with_reducible refine b_X2_step_52 ?_ | with_reducible refine b_X2_step_58 ?_ | with_reducible refine b_X2_step_63 ?_ | with_reducible refine b_X2_step_66 ?_ | with_reducible refine b_X2_step_72 ?_ | ((with_reducible refine k_X2_step_74 (hB) ?_ (by first | decide | assumption | (simp only [NI]; omega)) (Nat.le_of_ble_eq_true rfl)); rintro r S' ⟨rfl, rfl⟩) | with_reducible refine b_X2_step_77 ?_ | with_reducible refine b_X2_step_80 ?_ | with_reducible refine b_X2_step_86 ?_ | with_reducible refine b_X2_step_92 ?_ | with_reducible refine b_X2_step_95 ?_ | with_reducible refine b_X2_step_101 ?_ | with_reducible refine b_X2_step_107 ?_ | with_reducible refine b_X2_step_110 ?_ | with_reducible refine b_X2_step_116 ?_ | with_reducible refine b_X2_step_122 ?_ | with_reducible refine b_X2_step_125 ?_ | with_reducible refine b_X2_step_131 ?_) <;> (try simp only [o_al, o_c, o_il, o_putz, t_2, t_vr, decide_true, decide_false, Bool.decide_eq_true, Bool.not_eq_false, Bool.not_eq_true, bft, btf, false_implies, true_implies, decide_eq_true_eq, decide_eq_false_iff_not, fv, st1, st2, kl, cat1, List.getElem?_cons_zero, List.getElem?_cons_succ, List.set_cons_zero, List.set_cons_succ, List.length_cons, List.length_nil, List.forall_mem_cons, List.not_mem_nil, Option.toList_some, Option.toList_none, List.cons_append, List.nil_append, and_true, true_and, and_self, reduceIte, Nat.reduceEqDiff, Nat.reduceLT, Nat.reduceAdd, Nat.lt_add_one, Nat.zero_lt_one, Nat.reduceLeDiff, false_and, and_false, forall_const, eq_self, not_true_eq_false, not_false_eq_true, implies_true, forall_eq, b2i_t, b2i_f, true_or, or_true, or_self, or_false, false_or, z01, z10, d10, d01, b2i_01, b2i_d, b2i_eq0, b2i_eq1, b2i_inj, Bool.true_eq_false, Bool.false_eq_true, gi_si, gi_sl, gi_sz, gi_sr, gi_sa, gi_sb, gi_sy, gl_si, gl_sl, gl_sz, gl_sr, gl_sa, gl_sb, gl_sy, gz_si, gz_sl, gz_sz, gz_sr, gz_sa, gz_sb, gz_sy, gr_si, gr_sl, gr_sz, gr_sr, gr_sa, gr_sb, gr_sy, ga_si, ga_sl, ga_sz, ga_sr, ga_sa, ga_sb, ga_sy, gb_si, gb_sl, gb_sz, gb_sr, gb_sa, gb_sb, gb_sy, gy_si, gy_sl, gy_sz, gy_sr, gy_sa, gy_sb, gy_sy, NI_2, LY_2, qe_o_1, ql_o_1, qg_o_1, qle_o_1, qge_o_1, qe_o_5, ql_o_5, qg_o_5, qle_o_5, qge_o_5, qe_o_49, ql_o_49, qg_o_49, qle_o_49, qge_o_49, qe_o_10, ql_o_10, qg_o_10, qle_o_10, qge_o_10, qe_o_16, ql_o_16, qg_o_16, qle_o_16, qge_o_16, qe_o_20, ql_o_20, qg_o_20, qle_o_20, qge_o_20])) | ((with_reducible apply br_V) <;> intro hc) | ((with_reducible apply br_C) <;> try intro hc) | (with_reducible apply an_I) | (with_reducible apply an_V) | (with_reducible apply an_A))
  all_goals (exfalso; omega)
theorem evS_0 {q : Int32 × (Nat → Int32) × (Nat → Bool) × Nat} (h : q.1 = nI 0) : evS S q = mp S q.2.1 q.2.2.1 q.2.2.2 := if_pos h
theorem c_stepE (w : Int32 × Int32) (o : Nat) (hE : EnvC S d tc tj rw) (hw : EW d tc tj w o) (ha : arty o ≤ t) (ht0 : t ≤ 10) (ht : t - arty o + 1 ≤ 10) (hT1 : 18 ≤ o → isT v m (t - 1)) (hT2 : 19 ≤ o → isT v m (t - 2)) : Ct MX2_step (h + 3) [vR 2 0, vI w.1, vI w.2] (mp S v m t) (fun r S' => r = none ∧ S' = evS S (ev1 (ldE d tj rw) w v m t)) := by
  obtain ⟨w1, y⟩ := w
  obtain ⟨rfl, ho1, ho2, h4, h5⟩ := hw
  simp only at h4 h5
  have qe_o_1 : (nI o = nI 1) = (o = 1) := n_eqE (by omega) (by omega)
  have ql_o_1 : (nI o < nI 1) = (o < 1) := n_ltE (by omega) (by omega)
  have qg_o_1 : (nI 1 < nI o) = (1 < o) := n_ltE (by omega) (by omega)
  have qle_o_1 : (nI o ≤ nI 1) = (o ≤ 1) := n_leE (by omega) (by omega)
  have qge_o_1 : (nI 1 ≤ nI o) = (1 ≤ o) := n_leE (by omega) (by omega)
  have qe_o_2 : (nI o = nI 2) = (o = 2) := n_eqE (by omega) (by omega)
  have ql_o_2 : (nI o < nI 2) = (o < 2) := n_ltE (by omega) (by omega)
  have qg_o_2 : (nI 2 < nI o) = (2 < o) := n_ltE (by omega) (by omega)
  have qle_o_2 : (nI o ≤ nI 2) = (o ≤ 2) := n_leE (by omega) (by omega)
  have qge_o_2 : (nI 2 ≤ nI o) = (2 ≤ o) := n_leE (by omega) (by omega)
  have qe_o_3 : (nI o = nI 3) = (o = 3) := n_eqE (by omega) (by omega)
  have ql_o_3 : (nI o < nI 3) = (o < 3) := n_ltE (by omega) (by omega)
  have qg_o_3 : (nI 3 < nI o) = (3 < o) := n_ltE (by omega) (by omega)
  have qle_o_3 : (nI o ≤ nI 3) = (o ≤ 3) := n_leE (by omega) (by omega)
  have qge_o_3 : (nI 3 ≤ nI o) = (3 ≤ o) := n_leE (by omega) (by omega)
  have qe_o_4 : (nI o = nI 4) = (o = 4) := n_eqE (by omega) (by omega)
  have ql_o_4 : (nI o < nI 4) = (o < 4) := n_ltE (by omega) (by omega)
  have qg_o_4 : (nI 4 < nI o) = (4 < o) := n_ltE (by omega) (by omega)
  have qle_o_4 : (nI o ≤ nI 4) = (o ≤ 4) := n_leE (by omega) (by omega)
  have qge_o_4 : (nI 4 ≤ nI o) = (4 ≤ o) := n_leE (by omega) (by omega)
  have qe_o_5 : (nI o = nI 5) = (o = 5) := n_eqE (by omega) (by omega)
  have ql_o_5 : (nI o < nI 5) = (o < 5) := n_ltE (by omega) (by omega)
  have qg_o_5 : (nI 5 < nI o) = (5 < o) := n_ltE (by omega) (by omega)
  have qle_o_5 : (nI o ≤ nI 5) = (o ≤ 5) := n_leE (by omega) (by omega)
  have qge_o_5 : (nI 5 ≤ nI o) = (5 ≤ o) := n_leE (by omega) (by omega)
  have qe_o_6 : (nI o = nI 6) = (o = 6) := n_eqE (by omega) (by omega)
  have ql_o_6 : (nI o < nI 6) = (o < 6) := n_ltE (by omega) (by omega)
  have qg_o_6 : (nI 6 < nI o) = (6 < o) := n_ltE (by omega) (by omega)
  have qle_o_6 : (nI o ≤ nI 6) = (o ≤ 6) := n_leE (by omega) (by omega)
  have qge_o_6 : (nI 6 ≤ nI o) = (6 ≤ o) := n_leE (by omega) (by omega)
  have qe_o_10 : (nI o = nI 10) = (o = 10) := n_eqE (by omega) (by omega)
  have ql_o_10 : (nI o < nI 10) = (o < 10) := n_ltE (by omega) (by omega)
  have qg_o_10 : (nI 10 < nI o) = (10 < o) := n_ltE (by omega) (by omega)
  have qle_o_10 : (nI o ≤ nI 10) = (o ≤ 10) := n_leE (by omega) (by omega)
  have qge_o_10 : (nI 10 ≤ nI o) = (10 ≤ o) := n_leE (by omega) (by omega)
  have qe_o_16 : (nI o = nI 16) = (o = 16) := n_eqE (by omega) (by omega)
  have ql_o_16 : (nI o < nI 16) = (o < 16) := n_ltE (by omega) (by omega)
  have qg_o_16 : (nI 16 < nI o) = (16 < o) := n_ltE (by omega) (by omega)
  have qle_o_16 : (nI o ≤ nI 16) = (o ≤ 16) := n_leE (by omega) (by omega)
  have qge_o_16 : (nI 16 ≤ nI o) = (16 ≤ o) := n_leE (by omega) (by omega)
  have qe_o_17 : (nI o = nI 17) = (o = 17) := n_eqE (by omega) (by omega)
  have ql_o_17 : (nI o < nI 17) = (o < 17) := n_ltE (by omega) (by omega)
  have qg_o_17 : (nI 17 < nI o) = (17 < o) := n_ltE (by omega) (by omega)
  have qle_o_17 : (nI o ≤ nI 17) = (o ≤ 17) := n_leE (by omega) (by omega)
  have qge_o_17 : (nI 17 ≤ nI o) = (17 ≤ o) := n_leE (by omega) (by omega)
  have qe_o_18 : (nI o = nI 18) = (o = 18) := n_eqE (by omega) (by omega)
  have ql_o_18 : (nI o < nI 18) = (o < 18) := n_ltE (by omega) (by omega)
  have qg_o_18 : (nI 18 < nI o) = (18 < o) := n_ltE (by omega) (by omega)
  have qle_o_18 : (nI o ≤ nI 18) = (o ≤ 18) := n_leE (by omega) (by omega)
  have qge_o_18 : (nI 18 ≤ nI o) = (18 ≤ o) := n_leE (by omega) (by omega)
  have qe_o_19 : (nI o = nI 19) = (o = 19) := n_eqE (by omega) (by omega)
  have ql_o_19 : (nI o < nI 19) = (o < 19) := n_ltE (by omega) (by omega)
  have qg_o_19 : (nI 19 < nI o) = (19 < o) := n_ltE (by omega) (by omega)
  have qle_o_19 : (nI o ≤ nI 19) = (o ≤ 19) := n_leE (by omega) (by omega)
  have qge_o_19 : (nI 19 ≤ nI o) = (19 ≤ o) := n_leE (by omega) (by omega)
  by_cases c1 : o = 1 ∨ o = 2
  · have e : ev1 (ldE d tj rw) (nI o, y) v m t = (nI 0, up1 v t y, up1 m t false, t + 1) := by
      simp only [ev1, qe_o_1, qe_o_2]
      rcases c1 with rfl | rfl <;> simp
    rw [e]
    have ht2 : t < 10 := by rcases c1 with rfl | rfl <;> simp [arty] at ht <;> omega
    refine c_stepB h S v m t o y ho1 (by omega) _ ?_
    rw [evS_0 S rfl]
    exact c_bringC (h + 1) S v m t (nI o) y (by rcases c1 with rfl | rfl <;> simp) ht2
  by_cases c3 : o = 3
  · subst c3
    have e : ev1 (ldE d tj rw) (nI 3, y) v m t = (nI 0, up1 v t (nI 0), up1 m t true, t + 1) := by
      simp only [ev1, qe_o_1, qe_o_2, qe_o_3]; simp
    rw [e]
    have ht2 : t < 10 := by simp [arty] at ht; omega
    refine c_stepB h S v m t 3 y ho1 (by omega) _ ?_
    rw [evS_0 S rfl]
    exact c_bringN (h + 1) S v m t y ht2
  by_cases c4 : o = 4
  · subst c4
    obtain ⟨htc, c, rfl, hc⟩ := h4 rfl
    have kc : (nI c).toNatClampNeg = c := nI_clamp (by have := (hE.1.2 (tj 0) ((hE.2.2 0 htc).1.2)).2.1.1; omega)
    have e : ev1 (ldE d tj rw) (nI 4, nI c) v m t = (nI 0, up1 v t (ldE d tj rw 0 c).1, up1 m t (ldE d tj rw 0 c).2, t + 1) := by
      simp only [ev1, qe_o_1, qe_o_2, qe_o_3, qe_o_4, kc]; simp
    rw [e]
    have ht2 : t < 10 := by simp [arty] at ht; omega
    obtain ⟨⟨g7, gl⟩, g9, gr9⟩ := hE.2.2 0 htc
    obtain ⟨⟨a1, a2, a3⟩, ⟨a4, a5⟩, a6, a7, a8, a9⟩ := hE.1.2 (tj 0) gl
    refine c_stepB h S v m t 4 _ ho1 (by omega) _ ?_
    rw [evS_0 S rfl]
    have := c_bringO h S v m t (dR d (tj 0)) (dK d (tj 0)) (rw 0) c (ldE d tj rw 0 c).1 (ldE d tj rw 0 c).2 (by rw [g7]; exact gl) g9 (by rw [g7]; exact a3) (by rw [g7]; exact a2) a5 a4 gr9 hc ht2 (by rw [g7, a8]; rfl)
    exact this
  by_cases c5 : o = 5
  · subst c5
    obtain ⟨htc, c, rfl, hc⟩ := h5 rfl
    have kc : (nI c).toNatClampNeg = c := nI_clamp (by have := (hE.1.2 (tj 1) ((hE.2.2 1 htc).1.2)).2.1.1; omega)
    have e : ev1 (ldE d tj rw) (nI 5, nI c) v m t = (nI 0, up1 v t (ldE d tj rw 1 c).1, up1 m t (ldE d tj rw 1 c).2, t + 1) := by
      simp only [ev1, qe_o_1, qe_o_2, qe_o_3, qe_o_4, qe_o_5, kc]; simp
    rw [e]
    have ht2 : t < 10 := by simp [arty] at ht; omega
    obtain ⟨⟨g7, gl⟩, g9, gr9⟩ := hE.2.2 1 htc
    obtain ⟨⟨a1, a2, a3⟩, ⟨a4, a5⟩, a6, a7, a8, a9⟩ := hE.1.2 (tj 1) gl
    refine c_stepB h S v m t 5 _ ho1 (by omega) _ ?_
    rw [evS_0 S rfl]
    have := c_bringI h S v m t (dR d (tj 1)) (dK d (tj 1)) (rw 1) c (ldE d tj rw 1 c).1 (ldE d tj rw 1 c).2 (by rw [g7]; exact gl) g9 (by rw [g7]; exact a3) (by rw [g7]; exact a2) a5 a4 gr9 hc ht2 (by rw [g7, a8]; rfl)
    exact this
  clear h4 h5
  by_cases c6 : o = 6
  · subst c6
    simp only [arty, Nat.reduceLeDiff, Nat.reduceEqDiff, or_self, true_or, reduceIte] at ha ht
    have e : ev1 (ldE d tj rw) (nI 6, y) v m t = calV v m (t - 1) (nI 6) (nI 0) (v (t - 1)) (m (t - 1)) := by
      simp only [ev1, qe_o_1, qe_o_2, qe_o_3, qe_o_4, qe_o_5, qe_o_6]; simp
    rw [e]
    obtain ⟨i, rfl⟩ : ∃ i, t = i + 1 := ⟨t - 1, by omega⟩
    refine c_stepC h S v m (i + 1) 6 y (by omega) (by omega) _ ?_
    rw [← calS_eq]
    exact c_calculate1 (h + 1) S v m i (by omega)
  by_cases c17 : o = 17
  · subst c17
    simp only [arty, Nat.reduceLeDiff, Nat.reduceEqDiff, or_self, true_or, or_true, reduceIte] at ha ht
    have e : ev1 (ldE d tj rw) (nI 17, y) v m t = (nI 0, up1 v (t - 1) (if m (t - 1) = true then nI 2 else nI 0), up1 m (t - 1) false, t - 1 + 1) := by
      simp only [ev1, qe_o_1, qe_o_2, qe_o_3, qe_o_4, qe_o_5, qe_o_6, qle_o_10, qle_o_16, qe_o_17]; simp
    rw [e]
    obtain ⟨i, rfl⟩ : ∃ i, t = i + 1 := ⟨t - 1, by omega⟩
    refine c_stepJ h S v m (i + 1) 17 y (by omega) (by omega) _ ?_
    rw [evS_0 S rfl]
    exact c_isNullW (h + 1) S v m i (by omega)
  by_cases c18 : o = 18
  · subst c18
    simp only [arty, Nat.reduceLeDiff, Nat.reduceEqDiff, or_self, true_or, or_true, reduceIte] at ha ht
    have e : ev1 (ldE d tj rw) (nI 18, y) v m t = (nI 0, up1 v (t - 1) (nI 2 - v (t - 1)), up1 m (t - 1) false, t - 1 + 1) := by
      simp only [ev1, qe_o_1, qe_o_2, qe_o_3, qe_o_4, qe_o_5, qe_o_6, qle_o_10, qle_o_16, qe_o_17, qe_o_18]; simp
    rw [e]
    obtain ⟨i, rfl⟩ : ∃ i, t = i + 1 := ⟨t - 1, by omega⟩
    refine c_stepJ h S v m (i + 1) 18 y (by omega) (by omega) _ ?_
    rw [evS_0 S rfl]
    exact c_notW (h + 1) S v m i (by omega) (hT1 (by decide))
  have ha2 : arty o = 2 := by unfold arty; rw [if_neg (by omega), if_neg (by omega)]
  rw [ha2] at ha ht
  obtain ⟨i, rfl⟩ : ∃ i, t = i + 2 := ⟨t - 2, by omega⟩
  have e1 : ¬ o = 1 := by omega
  have e2 : ¬ o = 2 := by omega
  by_cases c10 : o ≤ 10
  · have e : ev1 (ldE d tj rw) (nI o, y) v m (i + 2) = calV v m i (nI o) (v i) (v (i + 1)) (m (i + 1) || m i) := by
      simp only [ev1, qe_o_1, qe_o_2, qe_o_3, qe_o_4, qe_o_5, qe_o_6, qle_o_10, e1, e2, c3, c4, c5, c6, c10, reduceIte, Nat.add_sub_cancel]
    rw [e]
    refine c_stepC h S v m (i + 2) o y (by omega) (by omega) _ ?_
    rw [← calS_eq]
    exact c_calculate2 (h + 1) S v m i (nI o) (by rw [qe_o_6]; exact c6) (by omega)
  by_cases c16 : o ≤ 16
  · have e : ev1 (ldE d tj rw) (nI o, y) v m (i + 2) = (nI 0, up1 v i (cmpV (nI o) (v i) (v (i + 1)) (m (i + 1) || m i)), up1 m i false, i + 1) := by
      simp only [ev1, qe_o_1, qe_o_2, qe_o_3, qe_o_4, qe_o_5, qe_o_6, qle_o_10, qle_o_16, e1, e2, c3, c4, c5, c6, c10, c16, reduceIte, Nat.add_sub_cancel]
    rw [e]
    refine c_stepD h S v m (i + 2) o y (by omega) (by omega) _ ?_
    rw [evS_0 S rfl]
    exact c_compare (h + 1) S v m i (nI o) (by omega)
  by_cases c19 : o = 19
  · subst c19
    have e : ev1 (ldE d tj rw) (nI 19, y) v m (i + 2) = (nI 0, up1 v i (if v (i + 1) < v i then v (i + 1) else v i), up1 m i false, i + 1) := by
      simp only [ev1, qe_o_1, qe_o_2, qe_o_3, qe_o_4, qe_o_5, qe_o_6, qle_o_10, qle_o_16, qe_o_17, qe_o_18, qe_o_19]; simp
    rw [e]
    refine c_stepJ h S v m (i + 2) 19 y (by omega) (by omega) _ ?_
    rw [evS_0 S rfl]
    exact c_andW (h + 1) S v m i (by omega) (hT1 (by decide)) (hT2 (by decide))
  · have c20 : o = 20 := by omega
    subst c20
    have e : ev1 (ldE d tj rw) (nI 20, y) v m (i + 2) = (nI 0, up1 v i (if v i < v (i + 1) then v (i + 1) else v i), up1 m i false, i + 1) := by
      simp only [ev1, qe_o_1, qe_o_2, qe_o_3, qe_o_4, qe_o_5, qe_o_6, qle_o_10, qle_o_16, qe_o_17, qe_o_18, qe_o_19]; simp
    rw [e]
    refine c_stepJ h S v m (i + 2) 20 y (by omega) (by omega) _ ?_
    rw [evS_0 S rfl]
    exact c_orW (h + 1) S v m i (by omega) (hT1 (by decide)) (hT2 (by decide))
end
