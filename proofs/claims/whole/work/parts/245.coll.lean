-- deps: 244 219
-- words that collect rows
theorem ne_28_29 : (nI 28 = nI 29) = False := by simp only [eq_iff_iff, iff_false]; decide
theorem ne_28_30 : (nI 28 = nI 30) = False := by simp only [eq_iff_iff, iff_false]; decide
theorem ne_28_31 : (nI 28 = nI 31) = False := by simp only [eq_iff_iff, iff_false]; decide
theorem ne_28_32 : (nI 28 = nI 32) = False := by simp only [eq_iff_iff, iff_false]; decide
theorem ne_28_33 : (nI 28 = nI 33) = False := by simp only [eq_iff_iff, iff_false]; decide
theorem ne_28_34 : (nI 28 = nI 34) = False := by simp only [eq_iff_iff, iff_false]; decide
theorem ne_28_35 : (nI 28 = nI 35) = False := by simp only [eq_iff_iff, iff_false]; decide
theorem ne_29_28 : (nI 29 = nI 28) = False := by simp only [eq_iff_iff, iff_false]; decide
theorem ne_29_30 : (nI 29 = nI 30) = False := by simp only [eq_iff_iff, iff_false]; decide
theorem ne_29_31 : (nI 29 = nI 31) = False := by simp only [eq_iff_iff, iff_false]; decide
theorem ne_29_32 : (nI 29 = nI 32) = False := by simp only [eq_iff_iff, iff_false]; decide
theorem ne_29_33 : (nI 29 = nI 33) = False := by simp only [eq_iff_iff, iff_false]; decide
theorem ne_29_34 : (nI 29 = nI 34) = False := by simp only [eq_iff_iff, iff_false]; decide
theorem ne_29_35 : (nI 29 = nI 35) = False := by simp only [eq_iff_iff, iff_false]; decide
theorem ne_30_28 : (nI 30 = nI 28) = False := by simp only [eq_iff_iff, iff_false]; decide
theorem ne_30_29 : (nI 30 = nI 29) = False := by simp only [eq_iff_iff, iff_false]; decide
theorem ne_30_31 : (nI 30 = nI 31) = False := by simp only [eq_iff_iff, iff_false]; decide
theorem ne_30_32 : (nI 30 = nI 32) = False := by simp only [eq_iff_iff, iff_false]; decide
theorem ne_30_33 : (nI 30 = nI 33) = False := by simp only [eq_iff_iff, iff_false]; decide
theorem ne_30_34 : (nI 30 = nI 34) = False := by simp only [eq_iff_iff, iff_false]; decide
theorem ne_30_35 : (nI 30 = nI 35) = False := by simp only [eq_iff_iff, iff_false]; decide
theorem ne_31_28 : (nI 31 = nI 28) = False := by simp only [eq_iff_iff, iff_false]; decide
theorem ne_31_29 : (nI 31 = nI 29) = False := by simp only [eq_iff_iff, iff_false]; decide
theorem ne_31_30 : (nI 31 = nI 30) = False := by simp only [eq_iff_iff, iff_false]; decide
theorem ne_31_32 : (nI 31 = nI 32) = False := by simp only [eq_iff_iff, iff_false]; decide
theorem ne_31_33 : (nI 31 = nI 33) = False := by simp only [eq_iff_iff, iff_false]; decide
theorem ne_31_34 : (nI 31 = nI 34) = False := by simp only [eq_iff_iff, iff_false]; decide
theorem ne_31_35 : (nI 31 = nI 35) = False := by simp only [eq_iff_iff, iff_false]; decide
theorem ne_32_28 : (nI 32 = nI 28) = False := by simp only [eq_iff_iff, iff_false]; decide
theorem ne_32_29 : (nI 32 = nI 29) = False := by simp only [eq_iff_iff, iff_false]; decide
theorem ne_32_30 : (nI 32 = nI 30) = False := by simp only [eq_iff_iff, iff_false]; decide
theorem ne_32_31 : (nI 32 = nI 31) = False := by simp only [eq_iff_iff, iff_false]; decide
theorem ne_32_33 : (nI 32 = nI 33) = False := by simp only [eq_iff_iff, iff_false]; decide
theorem ne_32_34 : (nI 32 = nI 34) = False := by simp only [eq_iff_iff, iff_false]; decide
theorem ne_32_35 : (nI 32 = nI 35) = False := by simp only [eq_iff_iff, iff_false]; decide
theorem ne_33_28 : (nI 33 = nI 28) = False := by simp only [eq_iff_iff, iff_false]; decide
theorem ne_33_29 : (nI 33 = nI 29) = False := by simp only [eq_iff_iff, iff_false]; decide
theorem ne_33_30 : (nI 33 = nI 30) = False := by simp only [eq_iff_iff, iff_false]; decide
theorem ne_33_31 : (nI 33 = nI 31) = False := by simp only [eq_iff_iff, iff_false]; decide
theorem ne_33_32 : (nI 33 = nI 32) = False := by simp only [eq_iff_iff, iff_false]; decide
theorem ne_33_34 : (nI 33 = nI 34) = False := by simp only [eq_iff_iff, iff_false]; decide
theorem ne_33_35 : (nI 33 = nI 35) = False := by simp only [eq_iff_iff, iff_false]; decide
theorem ne_34_28 : (nI 34 = nI 28) = False := by simp only [eq_iff_iff, iff_false]; decide
theorem ne_34_29 : (nI 34 = nI 29) = False := by simp only [eq_iff_iff, iff_false]; decide
theorem ne_34_30 : (nI 34 = nI 30) = False := by simp only [eq_iff_iff, iff_false]; decide
theorem ne_34_31 : (nI 34 = nI 31) = False := by simp only [eq_iff_iff, iff_false]; decide
theorem ne_34_32 : (nI 34 = nI 32) = False := by simp only [eq_iff_iff, iff_false]; decide
theorem ne_34_33 : (nI 34 = nI 33) = False := by simp only [eq_iff_iff, iff_false]; decide
theorem ne_34_35 : (nI 34 = nI 35) = False := by simp only [eq_iff_iff, iff_false]; decide
theorem ne_35_28 : (nI 35 = nI 28) = False := by simp only [eq_iff_iff, iff_false]; decide
theorem ne_35_29 : (nI 35 = nI 29) = False := by simp only [eq_iff_iff, iff_false]; decide
theorem ne_35_30 : (nI 35 = nI 30) = False := by simp only [eq_iff_iff, iff_false]; decide
theorem ne_35_31 : (nI 35 = nI 31) = False := by simp only [eq_iff_iff, iff_false]; decide
theorem ne_35_32 : (nI 35 = nI 32) = False := by simp only [eq_iff_iff, iff_false]; decide
theorem ne_35_33 : (nI 35 = nI 33) = False := by simp only [eq_iff_iff, iff_false]; decide
theorem ne_35_34 : (nI 35 = nI 34) = False := by simp only [eq_iff_iff, iff_false]; decide
def tg (S : ST) (g : Int32) : ST := si S 2 10 0 g
def zr4 {α : Type} (f : Nat → α) (n : Nat) (x : α) : Nat → α := up1 (up1 (up1 (up1 f (n * 4 + 0) x) (n * 4 + 1) x) (n * 4 + 2) x) (n * 4 + 3) x
section
variable (h : Nat) (S : ST) (a n : Nat) (v : Nat → Int32) (m : Nat → Bool) (t : Nat)
theorem c_stepL (o : Nat) (y : Int32) (X : ST) (R : ST → Prop) (ho : 28 ≤ o) (ho2 : o ≤ 35) (hB : Ct MX2_collect (h + 4) [vR 2 0, vI (nI o), vI y] X (fun r S' => r = none ∧ R S')) : Ct MX2_step (h + 5) [vR 2 0, vI (nI o), vI y] X (fun r S' => r = none ∧ R S') := by
  have qe_o_1 : (nI o = nI 1) = (o = 1) := n_eqE (by omega) (by omega)
  have ql_o_1 : (nI o < nI 1) = (o < 1) := n_ltE (by omega) (by omega)
  have qg_o_1 : (nI 1 < nI o) = (1 < o) := n_ltE (by omega) (by omega)
  have qle_o_1 : (nI o ≤ nI 1) = (o ≤ 1) := n_leE (by omega) (by omega)
  have qge_o_1 : (nI 1 ≤ nI o) = (1 ≤ o) := n_leE (by omega) (by omega)
  have qe_o_5 : (nI o = nI 5) = (o = 5) := n_eqE (by omega) (by omega)
  have ql_o_5 : (nI o < nI 5) = (o < 5) := n_ltE (by omega) (by omega)
  have qg_o_5 : (nI 5 < nI o) = (5 < o) := n_ltE (by omega) (by omega)
  have qle_o_5 : (nI o ≤ nI 5) = (o ≤ 5) := n_leE (by omega) (by omega)
  have qge_o_5 : (nI 5 ≤ nI o) = (5 ≤ o) := n_leE (by omega) (by omega)
  have qe_o_49 : (nI o = nI 49) = (o = 49) := n_eqE (by omega) (by omega)
  have ql_o_49 : (nI o < nI 49) = (o < 49) := n_ltE (by omega) (by omega)
  have qg_o_49 : (nI 49 < nI o) = (49 < o) := n_ltE (by omega) (by omega)
  have qle_o_49 : (nI o ≤ nI 49) = (o ≤ 49) := n_leE (by omega) (by omega)
  have qge_o_49 : (nI 49 ≤ nI o) = (49 ≤ o) := n_leE (by omega) (by omega)
  have qe_o_10 : (nI o = nI 10) = (o = 10) := n_eqE (by omega) (by omega)
  have ql_o_10 : (nI o < nI 10) = (o < 10) := n_ltE (by omega) (by omega)
  have qg_o_10 : (nI 10 < nI o) = (10 < o) := n_ltE (by omega) (by omega)
  have qle_o_10 : (nI o ≤ nI 10) = (o ≤ 10) := n_leE (by omega) (by omega)
  have qge_o_10 : (nI 10 ≤ nI o) = (10 ≤ o) := n_leE (by omega) (by omega)
  have qe_o_16 : (nI o = nI 16) = (o = 16) := n_eqE (by omega) (by omega)
  have ql_o_16 : (nI o < nI 16) = (o < 16) := n_ltE (by omega) (by omega)
  have qg_o_16 : (nI 16 < nI o) = (16 < o) := n_ltE (by omega) (by omega)
  have qle_o_16 : (nI o ≤ nI 16) = (o ≤ 16) := n_leE (by omega) (by omega)
  have qge_o_16 : (nI 16 ≤ nI o) = (16 ≤ o) := n_leE (by omega) (by omega)
  have qe_o_20 : (nI o = nI 20) = (o = 20) := n_eqE (by omega) (by omega)
  have ql_o_20 : (nI o < nI 20) = (o < 20) := n_ltE (by omega) (by omega)
  have qg_o_20 : (nI 20 < nI o) = (20 < o) := n_ltE (by omega) (by omega)
  have qle_o_20 : (nI o ≤ nI 20) = (o ≤ 20) := n_leE (by omega) (by omega)
  have qge_o_20 : (nI 20 ≤ nI o) = (20 ≤ o) := n_leE (by omega) (by omega)
  have qe_o_27 : (nI o = nI 27) = (o = 27) := n_eqE (by omega) (by omega)
  have ql_o_27 : (nI o < nI 27) = (o < 27) := n_ltE (by omega) (by omega)
  have qg_o_27 : (nI 27 < nI o) = (27 < o) := n_ltE (by omega) (by omega)
  have qle_o_27 : (nI o ≤ nI 27) = (o ≤ 27) := n_leE (by omega) (by omega)
  have qge_o_27 : (nI 27 ≤ nI o) = (27 ≤ o) := n_leE (by omega) (by omega)
  have qe_o_35 : (nI o = nI 35) = (o = 35) := n_eqE (by omega) (by omega)
  have ql_o_35 : (nI o < nI 35) = (o < 35) := n_ltE (by omega) (by omega)
  have qg_o_35 : (nI 35 < nI o) = (35 < o) := n_ltE (by omega) (by omega)
  have qle_o_35 : (nI o ≤ nI 35) = (o ≤ 35) := n_leE (by omega) (by omega)
  have qge_o_35 : (nI 35 ≤ nI o) = (35 ≤ o) := n_leE (by omega) (by omega)
  refine e_X2_step ?_
  repeat' (first | ((first | with_reducible refine b_X2_step_0 ?_ | with_reducible refine b_X2_step_5 ?_ | with_reducible refine b_X2_step_11 ?_ | with_reducible refine b_X2_step_24 ?_ | with_reducible refine b_X2_step_29 ?_ | with_reducible refine b_X2_step_35 ?_ | with_reducible refine b_X2_step_38 ?_ | with_reducible refine b_X2_step_44 ?_ | with_reducible refine b_X2_step_49 ?_ | with_reducible refine b_X2_step_52 ?_ | with_reducible refine b_X2_step_58 ?_ | with_reducible refine b_X2_step_63 ?_ | with_reducible refine b_X2_step_66 ?_ | with_reducible refine b_X2_step_72 ?_ | with_reducible refine b_X2_step_77 ?_ | with_reducible refine b_X2_step_80 ?_ | with_reducible refine b_X2_step_86 ?_ | with_reducible refine b_X2_step_92 ?_ | with_reducible refine b_X2_step_95 ?_ | with_reducible refine b_X2_step_101 ?_ | ((with_reducible refine k_X2_step_104 (hB) ?_ (by first | decide | assumption | (simp only [NI]; omega)) (Nat.le_of_ble_eq_true rfl)); rintro r S' ⟨rfl, hR⟩) | with_reducible refine b_X2_step_107 ?_ | with_reducible refine b_X2_step_110 ?_ | with_reducible refine b_X2_step_116 ?_ | with_reducible refine b_X2_step_122 ?_ | with_reducible refine b_X2_step_125 ?_ | with_reducible refine b_X2_step_131 ?_) <;> (try simp only [o_al, o_c, o_il, o_putz, t_2, t_vr, decide_true, decide_false, Bool.decide_eq_true, Bool.not_eq_false, Bool.not_eq_true, bft, btf, false_implies, true_implies, decide_eq_true_eq, decide_eq_false_iff_not, fv, st1, st2, kl, cat1, List.getElem?_cons_zero, List.getElem?_cons_succ, List.set_cons_zero, List.set_cons_succ, List.length_cons, List.length_nil, List.forall_mem_cons, List.not_mem_nil, Option.toList_some, Option.toList_none, List.cons_append, List.nil_append, and_true, true_and, and_self, reduceIte, Nat.reduceEqDiff, Nat.reduceLT, Nat.reduceAdd, Nat.lt_add_one, Nat.zero_lt_one, Nat.reduceLeDiff, false_and, and_false, forall_const, eq_self, not_true_eq_false, not_false_eq_true, implies_true, forall_eq, b2i_t, b2i_f, true_or, or_true, or_self, or_false, false_or, z01, z10, d10, d01, b2i_01, b2i_d, b2i_eq0, b2i_eq1, b2i_inj, Bool.true_eq_false, Bool.false_eq_true, gi_si, gi_sl, gi_sz, gi_sr, gi_sa, gi_sb, gi_sy, gl_si, gl_sl, gl_sz, gl_sr, gl_sa, gl_sb, gl_sy, gz_si, gz_sl, gz_sz, gz_sr, gz_sa, gz_sb, gz_sy, gr_si, gr_sl, gr_sz, gr_sr, gr_sa, gr_sb, gr_sy, ga_si, ga_sl, ga_sz, ga_sr, ga_sa, ga_sb, ga_sy, gb_si, gb_sl, gb_sz, gb_sr, gb_sa, gb_sb, gb_sy, gy_si, gy_sl, gy_sz, gy_sr, gy_sa, gy_sb, gy_sy, NI_2, LY_2, qe_o_1, ql_o_1, qg_o_1, qle_o_1, qge_o_1, qe_o_5, ql_o_5, qg_o_5, qle_o_5, qge_o_5, qe_o_49, ql_o_49, qg_o_49, qle_o_49, qge_o_49, qe_o_10, ql_o_10, qg_o_10, qle_o_10, qge_o_10, qe_o_16, ql_o_16, qg_o_16, qle_o_16, qge_o_16, qe_o_20, ql_o_20, qg_o_20, qle_o_20, qge_o_20, qe_o_27, ql_o_27, qg_o_27, qle_o_27, qge_o_27, qe_o_35, ql_o_35, qg_o_35, qle_o_35, qge_o_35])) | ((with_reducible apply br_V) <;> intro hc) | ((with_reducible apply br_C) <;> try intro hc) | (with_reducible apply an_I) | (with_reducible apply an_V) | (with_reducible apply an_A))
  all_goals first | exact hR | exact ⟨rfl, hR⟩ | (exfalso; omega)
variable (jf : Nat) (w : Nat → Int64) (o : Nat → Int32) (k : Nat) (g : Int32)
/-- the state while rows are collected -/
def cS : ST := mp (rg (rs (tg S g) jf w o k) a n) v m t
theorem cS_6 (h6 : gr S 2 4 0 = jf) : gr (cS S a n v m t jf w o k g) 2 4 0 = jf := by simp only [cS, mp, rg, rs, tg, gi_si, gi_sl, gi_sz, gi_sr, gi_sa, gi_sb, gi_sy, gl_si, gl_sl, gl_sz, gl_sr, gl_sa, gl_sb, gl_sy, gz_si, gz_sl, gz_sz, gz_sr, gz_sa, gz_sb, gz_sy, gr_si, gr_sl, gr_sz, gr_sr, gr_sa, gr_sb, gr_sy, ga_si, ga_sl, ga_sz, ga_sr, ga_sa, ga_sb, ga_sy, gb_si, gb_sl, gb_sz, gb_sr, gb_sa, gb_sb, gb_sy, gy_si, gy_sl, gy_sz, gy_sr, gy_sa, gy_sb, gy_sy, reduceIte, Nat.reduceEqDiff, and_true, true_and, and_self, false_and, and_false]; exact h6
theorem cS_rs : cS S a n v m t jf w o k g = rs (mp (rg (tg S g) a n) v m t) jf w o k := by (apply ST_ext <;> intros <;> (try simp only [cS, mp, rg, rs, gi_si, gi_sl, gi_sz, gi_sr, gi_sa, gi_sb, gi_sy, gl_si, gl_sl, gl_sz, gl_sr, gl_sa, gl_sb, gl_sy, gz_si, gz_sl, gz_sz, gz_sr, gz_sa, gz_sb, gz_sy, gr_si, gr_sl, gr_sz, gr_sr, gr_sa, gr_sb, gr_sy, ga_si, ga_sl, ga_sz, ga_sr, ga_sa, ga_sb, ga_sy, gb_si, gb_sl, gb_sz, gb_sr, gb_sa, gb_sb, gb_sy, gy_si, gy_sl, gy_sz, gy_sr, gy_sa, gy_sb, gy_sy, reduceIte, Nat.reduceEqDiff, and_true, true_and, and_self, false_and, and_false]) <;> (try ((repeat' split) <;> simp_all)))
theorem cS_k : gi (cS S a n v m t jf w o k g) 5 3 jf = nI k := by simp only [cS, mp, rg, rs, tg, gi_si, gi_sl, gi_sz, gi_sr, gi_sa, gi_sb, gi_sy, gl_si, gl_sl, gl_sz, gl_sr, gl_sa, gl_sb, gl_sy, gz_si, gz_sl, gz_sz, gz_sr, gz_sa, gz_sb, gz_sy, gr_si, gr_sl, gr_sz, gr_sr, gr_sa, gr_sb, gr_sy, ga_si, ga_sl, ga_sz, ga_sr, ga_sa, ga_sb, ga_sy, gb_si, gb_sl, gb_sz, gb_sr, gb_sa, gb_sb, gb_sy, gy_si, gy_sl, gy_sz, gy_sr, gy_sa, gy_sb, gy_sy, reduceIte, Nat.reduceEqDiff, and_true, true_and, and_self, false_and, and_false]
theorem cS_g : gi (cS S a n v m t jf w o k g) 2 10 0 = g := by simp only [cS, mp, rg, rs, tg, gi_si, gi_sl, gi_sz, gi_sr, gi_sa, gi_sb, gi_sy, gl_si, gl_sl, gl_sz, gl_sr, gl_sa, gl_sb, gl_sy, gz_si, gz_sl, gz_sz, gz_sr, gz_sa, gz_sb, gz_sy, gr_si, gr_sl, gr_sz, gr_sr, gr_sa, gr_sb, gr_sy, ga_si, ga_sl, ga_sz, ga_sr, ga_sa, ga_sb, ga_sy, gb_si, gb_sl, gb_sz, gb_sr, gb_sa, gb_sb, gb_sy, gy_si, gy_sl, gy_sz, gy_sr, gy_sa, gy_sb, gy_sy, reduceIte, Nat.reduceEqDiff, and_true, true_and, and_self, false_and, and_false]
theorem cS_w : gb (cS S a n v m t jf w o k g) 18 jf = w := by simp only [cS, mp, rg, rs, tg, gi_si, gi_sl, gi_sz, gi_sr, gi_sa, gi_sb, gi_sy, gl_si, gl_sl, gl_sz, gl_sr, gl_sa, gl_sb, gl_sy, gz_si, gz_sl, gz_sz, gz_sr, gz_sa, gz_sb, gz_sy, gr_si, gr_sl, gr_sz, gr_sr, gr_sa, gr_sb, gr_sy, ga_si, ga_sl, ga_sz, ga_sr, ga_sa, ga_sb, ga_sy, gb_si, gb_sl, gb_sz, gb_sr, gb_sa, gb_sb, gb_sy, gy_si, gy_sl, gy_sz, gy_sr, gy_sa, gy_sb, gy_sy, reduceIte, Nat.reduceEqDiff, and_true, true_and, and_self, false_and, and_false]
theorem cS_o : ga (cS S a n v m t jf w o k g) 20 jf = o := by simp only [cS, mp, rg, rs, tg, gi_si, gi_sl, gi_sz, gi_sr, gi_sa, gi_sb, gi_sy, gl_si, gl_sl, gl_sz, gl_sr, gl_sa, gl_sb, gl_sy, gz_si, gz_sl, gz_sz, gz_sr, gz_sa, gz_sb, gz_sy, gr_si, gr_sl, gr_sz, gr_sr, gr_sa, gr_sb, gr_sy, ga_si, ga_sl, ga_sz, ga_sr, ga_sa, ga_sb, ga_sy, gb_si, gb_sl, gb_sz, gb_sr, gb_sa, gb_sb, gb_sy, gy_si, gy_sl, gy_sz, gy_sr, gy_sa, gy_sb, gy_sy, reduceIte, Nat.reduceEqDiff, and_true, true_and, and_self, false_and, and_false]
theorem cS_sg (g' : Int32) : si (cS S a n v m t jf w o k g) 2 10 0 g' = cS S a n v m t jf w o k g' := by (apply ST_ext <;> intros <;> (try simp only [cS, mp, rg, rs, tg, gi_si, gi_sl, gi_sz, gi_sr, gi_sa, gi_sb, gi_sy, gl_si, gl_sl, gl_sz, gl_sr, gl_sa, gl_sb, gl_sy, gz_si, gz_sl, gz_sz, gz_sr, gz_sa, gz_sb, gz_sy, gr_si, gr_sl, gr_sz, gr_sr, gr_sa, gr_sb, gr_sy, ga_si, ga_sl, ga_sz, ga_sr, ga_sa, ga_sb, ga_sy, gb_si, gb_sl, gb_sz, gb_sr, gb_sa, gb_sb, gb_sy, gy_si, gy_sl, gy_sz, gy_sr, gy_sa, gy_sb, gy_sy, reduceIte, Nat.reduceEqDiff, and_true, true_and, and_self, false_and, and_false]) <;> (try ((repeat' split) <;> simp_all)))
theorem c_cpop (ht : t < 10) : Ct MX2_pop h [vR 2 0] (cS S a n v m (t + 1) jf w o k g) (fun r S' => r = some (vL (hN (m t) (v t))) ∧ S' = cS S a n v m t jf w o k g) := c_mpop (rg (rs (tg S g) jf w o k) a n) v m (t + 1) h (by omega) (by omega)
theorem c_ckput (b : Nat) (x : Int64) (hj : jf < 2) (hk : k < 576) (hb : b < 4) : Ct MX5_putNext h [vR 5 jf, vI (nI b), vL x] (cS S a n v m t jf w o k g) (fun r S' => r = none ∧ S' = cS S a n v m t jf (up1 w (k * 4 + b) x) o k g) := by
  rw [cS_rs, cS_rs]
  exact c_rput _ jf w o k h b x hj hk hb
theorem c_colRow (y : Int32) (hj : jf < 2) (h6 : gr S 2 4 0 = jf) (hk : k < 576) : Ct MX2_collect (h + 4) [vR 2 0, vI (nI 29), vI y] (cS S a n v m t jf w o k g) (fun r S' => r = none ∧ S' = cS S a n v m t jf w (up1 o k (nI k)) (k + 1) g) := by
  have e6 := cS_6 S a n v m t jf w o k g h6
  have hA : ∀ h, Ct MX5_append h [vR 5 jf] (cS S a n v m t jf w o k g) (fun r S' => r = none ∧ S' = cS S a n v m t jf w (up1 o k (nI k)) (k + 1) g) := by
    intro h
    rw [cS_rs, cS_rs]
    exact c_rappend _ jf w o k h hj hk
  refine e_X2_collect ?_
  repeat' (first | ((first | with_reducible refine b_X2_collect_0 ?_ | with_reducible refine b_X2_collect_32 ?_ | with_reducible refine b_X2_collect_44 ?_ | with_reducible refine b_X2_collect_47 ?_ | ((with_reducible refine k_X2_collect_51 (hA _) ?_ (by first | decide | assumption | (simp only [NI]; omega)) (Nat.le_of_ble_eq_true rfl)); rintro r S' ⟨rfl, rfl⟩) | with_reducible refine b_X2_collect_54 ?_ | with_reducible refine b_X2_collect_57 ?_ | with_reducible refine b_X2_collect_61 ?_ | with_reducible refine b_X2_collect_64 ?_ | with_reducible refine b_X2_collect_72 ?_ | with_reducible refine b_X2_collect_75 ?_ | with_reducible refine b_X2_collect_85 ?_) <;> (try simp only [o_al, o_get, o_il, t_sw, t_vr, decide_true, decide_false, Bool.decide_eq_true, Bool.not_eq_false, Bool.not_eq_true, bft, btf, false_implies, true_implies, decide_eq_true_eq, decide_eq_false_iff_not, fv, st1, st2, kl, cat1, List.getElem?_cons_zero, List.getElem?_cons_succ, List.set_cons_zero, List.set_cons_succ, List.length_cons, List.length_nil, List.forall_mem_cons, List.not_mem_nil, Option.toList_some, Option.toList_none, List.cons_append, List.nil_append, and_true, true_and, and_self, reduceIte, Nat.reduceEqDiff, Nat.reduceLT, Nat.reduceAdd, Nat.lt_add_one, Nat.zero_lt_one, Nat.reduceLeDiff, false_and, and_false, forall_const, eq_self, not_true_eq_false, not_false_eq_true, implies_true, forall_eq, b2i_t, b2i_f, true_or, or_true, or_self, or_false, false_or, z01, z10, d10, d01, b2i_01, b2i_d, b2i_eq0, b2i_eq1, b2i_inj, Bool.true_eq_false, Bool.false_eq_true, gi_si, gi_sl, gi_sz, gi_sr, gi_sa, gi_sb, gi_sy, gl_si, gl_sl, gl_sz, gl_sr, gl_sa, gl_sb, gl_sy, gz_si, gz_sl, gz_sz, gz_sr, gz_sa, gz_sb, gz_sy, gr_si, gr_sl, gr_sz, gr_sr, gr_sa, gr_sb, gr_sy, ga_si, ga_sl, ga_sz, ga_sr, ga_sa, ga_sb, ga_sy, gb_si, gb_sl, gb_sz, gb_sr, gb_sa, gb_sb, gb_sy, gy_si, gy_sl, gy_sz, gy_sr, gy_sa, gy_sb, gy_sy, NI_2, NI_5, LY_2, LY_5, ne_28_29, ne_28_30, ne_28_31, ne_28_32, ne_28_33, ne_28_34, ne_28_35, ne_29_28, ne_29_30, ne_29_31, ne_29_32, ne_29_33, ne_29_34, ne_29_35, ne_30_28, ne_30_29, ne_30_31, ne_30_32, ne_30_33, ne_30_34, ne_30_35, ne_31_28, ne_31_29, ne_31_30, ne_31_32, ne_31_33, ne_31_34, ne_31_35, ne_32_28, ne_32_29, ne_32_30, ne_32_31, ne_32_33, ne_32_34, ne_32_35, ne_33_28, ne_33_29, ne_33_30, ne_33_31, ne_33_32, ne_33_34, ne_33_35, ne_34_28, ne_34_29, ne_34_30, ne_34_31, ne_34_32, ne_34_33, ne_34_35, ne_35_28, ne_35_29, ne_35_30, ne_35_31, ne_35_32, ne_35_33, ne_35_34, e6])) | ((with_reducible apply br_V) <;> intro hc) | ((with_reducible apply br_C) <;> try intro hc) | (with_reducible apply an_I) | (with_reducible apply an_V) | (with_reducible apply an_A))
theorem c_colPut (b : Nat) (ht : t < 10) (hj : jf < 2) (h6 : gr S 2 4 0 = jf) (hk : k < 576) (hb : b < 4) : Ct MX2_collect (h + 4) [vR 2 0, vI (nI 28), vI (nI b)] (cS S a n v m (t + 1) jf w o k g) (fun r S' => r = none ∧ S' = cS S a n v m t jf (up1 w (k * 4 + b) (hN (m t) (v t))) o k g) := by
  have e6 := cS_6 S a n v m (t + 1) jf w o k g h6
  refine e_X2_collect ?_
  repeat' (first | ((first | with_reducible refine b_X2_collect_0 ?_ | with_reducible refine b_X2_collect_32 ?_ | ((with_reducible refine k_X2_collect_38 (c_cpop _ _ _ _ _ _ _ _ _ _ _ _ ht) ?_ (by first | decide | assumption | (simp only [NI]; omega)) (Nat.le_of_ble_eq_true rfl)); rintro r S' ⟨rfl, rfl⟩) | ((with_reducible refine k_X2_collect_41 (c_ckput _ _ _ _ _ _ _ _ _ _ _ _ b _ hj hk hb) ?_ (by first | decide | assumption | (simp only [NI]; omega)) (Nat.le_of_ble_eq_true rfl)); rintro r S' ⟨rfl, rfl⟩) | with_reducible refine b_X2_collect_44 ?_ | with_reducible refine b_X2_collect_47 ?_ | ((with_reducible refine k_X2_collect_51 (c_rappend _ _ _ _ _ _ (by assumption) (by omega)) ?_ (by first | decide | assumption | (simp only [NI]; omega)) (Nat.le_of_ble_eq_true rfl)); rintro r S' ⟨rfl, rfl⟩) | with_reducible refine b_X2_collect_54 ?_ | with_reducible refine b_X2_collect_57 ?_ | with_reducible refine b_X2_collect_61 ?_ | with_reducible refine b_X2_collect_64 ?_ | with_reducible refine b_X2_collect_72 ?_ | with_reducible refine b_X2_collect_75 ?_ | with_reducible refine b_X2_collect_85 ?_) <;> (try simp only [o_al, o_get, o_il, t_sw, t_vr, decide_true, decide_false, Bool.decide_eq_true, Bool.not_eq_false, Bool.not_eq_true, bft, btf, false_implies, true_implies, decide_eq_true_eq, decide_eq_false_iff_not, fv, st1, st2, kl, cat1, List.getElem?_cons_zero, List.getElem?_cons_succ, List.set_cons_zero, List.set_cons_succ, List.length_cons, List.length_nil, List.forall_mem_cons, List.not_mem_nil, Option.toList_some, Option.toList_none, List.cons_append, List.nil_append, and_true, true_and, and_self, reduceIte, Nat.reduceEqDiff, Nat.reduceLT, Nat.reduceAdd, Nat.lt_add_one, Nat.zero_lt_one, Nat.reduceLeDiff, false_and, and_false, forall_const, eq_self, not_true_eq_false, not_false_eq_true, implies_true, forall_eq, b2i_t, b2i_f, true_or, or_true, or_self, or_false, false_or, z01, z10, d10, d01, b2i_01, b2i_d, b2i_eq0, b2i_eq1, b2i_inj, Bool.true_eq_false, Bool.false_eq_true, gi_si, gi_sl, gi_sz, gi_sr, gi_sa, gi_sb, gi_sy, gl_si, gl_sl, gl_sz, gl_sr, gl_sa, gl_sb, gl_sy, gz_si, gz_sl, gz_sz, gz_sr, gz_sa, gz_sb, gz_sy, gr_si, gr_sl, gr_sz, gr_sr, gr_sa, gr_sb, gr_sy, ga_si, ga_sl, ga_sz, ga_sr, ga_sa, ga_sb, ga_sy, gb_si, gb_sl, gb_sz, gb_sr, gb_sa, gb_sb, gb_sy, gy_si, gy_sl, gy_sz, gy_sr, gy_sa, gy_sb, gy_sy, NI_2, NI_5, LY_2, LY_5, ne_28_29, ne_28_30, ne_28_31, ne_28_32, ne_28_33, ne_28_34, ne_28_35, ne_29_28, ne_29_30, ne_29_31, ne_29_32, ne_29_33, ne_29_34, ne_29_35, ne_30_28, ne_30_29, ne_30_31, ne_30_32, ne_30_33, ne_30_34, ne_30_35, ne_31_28, ne_31_29, ne_31_30, ne_31_32, ne_31_33, ne_31_34, ne_31_35, ne_32_28, ne_32_29, ne_32_30, ne_32_31, ne_32_33, ne_32_34, ne_32_35, ne_33_28, ne_33_29, ne_33_30, ne_33_31, ne_33_32, ne_33_34, ne_33_35, ne_34_28, ne_34_29, ne_34_30, ne_34_31, ne_34_32, ne_34_33, ne_34_35, ne_35_28, ne_35_29, ne_35_30, ne_35_31, ne_35_32, ne_35_33, ne_35_34, e6])) | ((with_reducible apply br_V) <;> intro hc) | ((with_reducible apply br_C) <;> try intro hc) | (with_reducible apply an_I) | (with_reducible apply an_V) | (with_reducible apply an_A))
theorem c_startGroup (hj : jf < 2) (h6 : gr S 2 4 0 = jf) (hk : k < 24) : Ct MX2_startGroup (h + 2) [vR 2 0] (cS S a n v m t jf w o k g) (fun r S' => r = none ∧ S' = cS S a n v m t jf (zr4 w k MS) (up1 o k (nI k)) (k + 1) (nI k)) := by
  have e6 : ∀ g, gr (cS S a n v m t jf w o k g) 2 4 0 = jf := fun g => cS_6 S a n v m t jf w o k g h6
  have hA : ∀ h g, Ct MX5_appendMissing (h + 1) [vR 5 jf] (cS S a n v m t jf w o k g) (fun r S' => r = none ∧ S' = cS S a n v m t jf (zr4 w k MS) (up1 o k (nI k)) (k + 1) g) := by
    intro h g
    rw [cS_rs, cS_rs]
    exact c_appendMissing _ jf w o k h hj (by omega)
  have hR : ∀ h, Ct MX5_rowCount h [vR 5 jf] (cS S a n v m t jf w o k g) (fun r S' => r = some (vI (nI k)) ∧ S' = cS S a n v m t jf w o k g) := by
    intro h
    have := c_X5_rowCount h jf (cS S a n v m t jf w o k g) hj
    rwa [cS_k] at this
  refine e_X2_startGroup ?_
  repeat' (first | ((first | with_reducible refine b_X2_startGroup_0 ?_ | ((with_reducible refine k_X2_startGroup_5 (hR _) ?_ (by first | decide | assumption | (simp only [NI]; omega)) (Nat.le_of_ble_eq_true rfl)); rintro r S' ⟨rfl, rfl⟩) | with_reducible refine b_X2_startGroup_8 ?_ | ((with_reducible refine k_X2_startGroup_15 (hA _ _) ?_ (by first | decide | assumption | (simp only [NI]; omega)) (Nat.le_of_ble_eq_true rfl)); rintro r S' ⟨rfl, rfl⟩) | with_reducible refine b_X2_startGroup_18 ?_) <;> (try simp only [o_al, o_get, o_puti, t_vr, decide_true, decide_false, Bool.decide_eq_true, Bool.not_eq_false, Bool.not_eq_true, bft, btf, false_implies, true_implies, decide_eq_true_eq, decide_eq_false_iff_not, fv, st1, st2, kl, cat1, List.getElem?_cons_zero, List.getElem?_cons_succ, List.set_cons_zero, List.set_cons_succ, List.length_cons, List.length_nil, List.forall_mem_cons, List.not_mem_nil, Option.toList_some, Option.toList_none, List.cons_append, List.nil_append, and_true, true_and, and_self, reduceIte, Nat.reduceEqDiff, Nat.reduceLT, Nat.reduceAdd, Nat.lt_add_one, Nat.zero_lt_one, Nat.reduceLeDiff, false_and, and_false, forall_const, eq_self, not_true_eq_false, not_false_eq_true, implies_true, forall_eq, b2i_t, b2i_f, true_or, or_true, or_self, or_false, false_or, z01, z10, d10, d01, b2i_01, b2i_d, b2i_eq0, b2i_eq1, b2i_inj, Bool.true_eq_false, Bool.false_eq_true, gi_si, gi_sl, gi_sz, gi_sr, gi_sa, gi_sb, gi_sy, gl_si, gl_sl, gl_sz, gl_sr, gl_sa, gl_sb, gl_sy, gz_si, gz_sl, gz_sz, gz_sr, gz_sa, gz_sb, gz_sy, gr_si, gr_sl, gr_sz, gr_sr, gr_sa, gr_sb, gr_sy, ga_si, ga_sl, ga_sz, ga_sr, ga_sa, ga_sb, ga_sy, gb_si, gb_sl, gb_sz, gb_sr, gb_sa, gb_sb, gb_sy, gy_si, gy_sl, gy_sz, gy_sr, gy_sa, gy_sb, gy_sy, NI_2, NI_5, LY_2, LY_5, e6, cS_sg, cS_g])) | ((with_reducible apply br_V) <;> intro hc) | ((with_reducible apply br_C) <;> try intro hc) | (with_reducible apply an_I) | (with_reducible apply an_V) | (with_reducible apply an_A))
  all_goals first | rfl | trace_state
theorem c_colWhole (y : Int32) (hj : jf < 2) (h6 : gr S 2 4 0 = jf) (hk : k < 24) : Ct MX2_collect (h + 4) [vR 2 0, vI (nI 30), vI y] (cS S a n v m t jf w o k g) (fun r S' => r = none ∧ S' = cS S a n v m t jf (zr4 w k MS) (up1 o k (nI k)) (k + 1) (nI k)) := by
  refine e_X2_collect ?_
  repeat' (first | ((first | with_reducible refine b_X2_collect_0 ?_ | with_reducible refine b_X2_collect_32 ?_ | with_reducible refine b_X2_collect_44 ?_ | with_reducible refine b_X2_collect_47 ?_ | ((with_reducible refine k_X2_collect_51 (c_rappend _ _ _ _ _ _ (by assumption) (by omega)) ?_ (by first | decide | assumption | (simp only [NI]; omega)) (Nat.le_of_ble_eq_true rfl)); rintro r S' ⟨rfl, rfl⟩) | with_reducible refine b_X2_collect_54 ?_ | with_reducible refine b_X2_collect_57 ?_ | ((with_reducible refine k_X2_collect_58 (c_startGroup _ _ _ _ _ _ _ _ _ _ _ _ hj h6 hk) ?_ (by first | decide | assumption | (simp only [NI]; omega)) (Nat.le_of_ble_eq_true rfl)); rintro r S' ⟨rfl, rfl⟩) | with_reducible refine b_X2_collect_61 ?_ | with_reducible refine b_X2_collect_64 ?_ | with_reducible refine b_X2_collect_72 ?_ | with_reducible refine b_X2_collect_75 ?_ | with_reducible refine b_X2_collect_85 ?_) <;> (try simp only [o_al, o_get, o_il, t_sw, t_vr, decide_true, decide_false, Bool.decide_eq_true, Bool.not_eq_false, Bool.not_eq_true, bft, btf, false_implies, true_implies, decide_eq_true_eq, decide_eq_false_iff_not, fv, st1, st2, kl, cat1, List.getElem?_cons_zero, List.getElem?_cons_succ, List.set_cons_zero, List.set_cons_succ, List.length_cons, List.length_nil, List.forall_mem_cons, List.not_mem_nil, Option.toList_some, Option.toList_none, List.cons_append, List.nil_append, and_true, true_and, and_self, reduceIte, Nat.reduceEqDiff, Nat.reduceLT, Nat.reduceAdd, Nat.lt_add_one, Nat.zero_lt_one, Nat.reduceLeDiff, false_and, and_false, forall_const, eq_self, not_true_eq_false, not_false_eq_true, implies_true, forall_eq, b2i_t, b2i_f, true_or, or_true, or_self, or_false, false_or, z01, z10, d10, d01, b2i_01, b2i_d, b2i_eq0, b2i_eq1, b2i_inj, Bool.true_eq_false, Bool.false_eq_true, gi_si, gi_sl, gi_sz, gi_sr, gi_sa, gi_sb, gi_sy, gl_si, gl_sl, gl_sz, gl_sr, gl_sa, gl_sb, gl_sy, gz_si, gz_sl, gz_sz, gz_sr, gz_sa, gz_sb, gz_sy, gr_si, gr_sl, gr_sz, gr_sr, gr_sa, gr_sb, gr_sy, ga_si, ga_sl, ga_sz, ga_sr, ga_sa, ga_sb, ga_sy, gb_si, gb_sl, gb_sz, gb_sr, gb_sa, gb_sb, gb_sy, gy_si, gy_sl, gy_sz, gy_sr, gy_sa, gy_sb, gy_sy, NI_2, NI_5, LY_2, LY_5, ne_28_29, ne_28_30, ne_28_31, ne_28_32, ne_28_33, ne_28_34, ne_28_35, ne_29_28, ne_29_30, ne_29_31, ne_29_32, ne_29_33, ne_29_34, ne_29_35, ne_30_28, ne_30_29, ne_30_31, ne_30_32, ne_30_33, ne_30_34, ne_30_35, ne_31_28, ne_31_29, ne_31_30, ne_31_32, ne_31_33, ne_31_34, ne_31_35, ne_32_28, ne_32_29, ne_32_30, ne_32_31, ne_32_33, ne_32_34, ne_32_35, ne_33_28, ne_33_29, ne_33_30, ne_33_31, ne_33_32, ne_33_34, ne_33_35, ne_34_28, ne_34_29, ne_34_30, ne_34_31, ne_34_32, ne_34_33, ne_34_35, ne_35_28, ne_35_29, ne_35_30, ne_35_31, ne_35_32, ne_35_33, ne_35_34])) | ((with_reducible apply br_V) <;> intro hc) | ((with_reducible apply br_C) <;> try intro hc) | (with_reducible apply an_I) | (with_reducible apply an_V) | (with_reducible apply an_A))
end
