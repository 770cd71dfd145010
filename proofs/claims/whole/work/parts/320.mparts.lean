-- deps: 319
-- the model: where, items, the end
section
variable {T : WL} {a a' : Nat} {x : WL}
theorem pX_t (e : pX T a = (a', some x)) : pE T 20 (a, []) = (true, (a', x)) := by
  unfold pX at e
  simp only [Prod.mk.injEq] at e
  obtain ⟨e1, e2⟩ := e
  cases hb : (pE T 20 (a, [])).1 with
  | false => rw [hb] at e2; simp at e2
  | true =>
    rw [hb] at e2
    simp only [reduceIte, Option.some.injEq] at e2
    rw [← e1, ← e2, ← hb]
theorem pX_n (e : pX T a = (a', none)) : ∃ y, pE T 20 (a, []) = (false, (a', y)) := by
  unfold pX at e
  simp only [Prod.mk.injEq] at e
  obtain ⟨e1, e2⟩ := e
  cases hb : (pE T 20 (a, [])).1 with
  | true => rw [hb] at e2; simp at e2
  | false => exact ⟨(pE T 20 (a, [])).2.2, by rw [← e1, ← hb]⟩
theorem pCn_t (e : pCn T a = (a', some x)) : pC T 20 (a, []) = (true, (a', x)) := by
  unfold pCn at e
  simp only [Prod.mk.injEq] at e
  obtain ⟨e1, e2⟩ := e
  cases hb : (pC T 20 (a, [])).1 with
  | false => rw [hb] at e2; simp at e2
  | true =>
    rw [hb] at e2
    simp only [reduceIte, Option.some.injEq] at e2
    rw [← e1, ← e2, ← hb]
theorem pCn_n (e : pCn T a = (a', none)) : ∃ y, pC T 20 (a, []) = (false, (a', y)) := by
  unfold pCn at e
  simp only [Prod.mk.injEq] at e
  obtain ⟨e1, e2⟩ := e
  cases hb : (pC T 20 (a, [])).1 with
  | true => rw [hb] at e2; simp at e2
  | false => exact ⟨(pC T 20 (a, [])).2.2, by rw [← e1, ← hb]⟩
end
section
variable (h : Nat) (S : ST) (T : WL) (hT : MT S T) (a c : Nat) (K : KA) (a' : Nat) (x : WL)
theorem m_exp_t (hT : MT S T) (ha : a ≤ T.length) (hc : c + (T.length - a) ≤ 210) (e : pX T a = (a', some x)) : Ct MX11_expression (h + 65) [vR 11 0] (kS S a (-1) 0 c K) (MrT (rX T) S 0 c K a a' x) := mr_t (m_expr T 20 (by decide) h) hT ha hc (pX_t e)
theorem m_exp_n (hT : MT S T) (ha : a ≤ T.length) (hc : c + (T.length - a) ≤ 210) (e : pX T a = (a', none)) : Ct MX11_expression (h + 65) [vR 11 0] (kS S a (-1) 0 c K) (MrF S T 0 c K a a') := by
  obtain ⟨y, e⟩ := pX_n e
  exact mr_f (m_expr T 20 (by decide) h) hT ha hc e
theorem m_con_t (hT : MT S T) (ha : a ≤ T.length) (hc : c + (T.length - a) ≤ 210) (e : pCn T a = (a', some x)) : Ct MX11_condition (h + 68) [vR 11 0] (kS S a (-1) 0 c K) (MrT (rC T) S 0 c K a a' x) := mr_t (m_cond T 20 (by decide) h) hT ha hc (pCn_t e)
theorem m_con_n (hT : MT S T) (ha : a ≤ T.length) (hc : c + (T.length - a) ≤ 210) (e : pCn T a = (a', none)) : Ct MX11_condition (h + 68) [vR 11 0] (kS S a (-1) 0 c K) (MrF S T 0 c K a a') := by
  obtain ⟨y, e⟩ := pCn_n e
  exact mr_f (m_cond T 20 (by decide) h) hT ha hc e
theorem m_where_0 (hT : MT S T) (ha : a ≤ T.length) (q : ¬ kd T a = nI 207) : Ct MX11_where (h + 69) [vR 11 0] (kS S a (-1) 0 c K) (fun r S' => r = some (vI (-1)) ∧ S' = kS S a (-1) 0 c K) := by
  have hl := hT.2.2
  have i7 := fun h => m_is h S a 0 c K (nI 7) (by omega)
  rw [show decide (ga S 41 0 a = nI 7) = false from decide_eq_false (by rw [MT_i hT ha 207 7 (by decide)]; exact q)] at i7
  refine e_X11_where ?_
  repeat' (first | ((first | with_reducible refine b_X11_where_0 ?_ | ((with_reducible refine k_X11_where_3 (i7 _) ?_ (by first | decide | assumption | (simp only [NI]; omega)) (Nat.le_of_ble_eq_true rfl)); rintro r S' ⟨rfl, rfl⟩) | with_reducible refine b_X11_where_6 ?_ | with_reducible refine b_X11_where_9 ?_ | with_reducible refine b_X11_where_11 ?_ | with_reducible refine b_X11_where_25 ?_) <;> (try simp only [o_al, o_c, o_dup, o_get, o_iadd, o_puti, t_1, t_ir, decide_true, decide_false, Bool.decide_eq_true, Bool.not_eq_false, Bool.not_eq_true, bft, btf, false_implies, true_implies, decide_eq_true_eq, decide_eq_false_iff_not, fv, st1, st2, kl, cat1, List.getElem?_cons_zero, List.getElem?_cons_succ, List.set_cons_zero, List.set_cons_succ, List.length_cons, List.length_nil, List.forall_mem_cons, List.not_mem_nil, Option.toList_some, Option.toList_none, List.cons_append, List.nil_append, and_true, true_and, and_self, reduceIte, Nat.reduceEqDiff, Nat.reduceLT, Nat.reduceAdd, Nat.lt_add_one, Nat.zero_lt_one, Nat.reduceLeDiff, false_and, and_false, forall_const, eq_self, not_true_eq_false, not_false_eq_true, implies_true, forall_eq, b2i_t, b2i_f, true_or, or_true, or_self, or_false, false_or, z01, z10, d10, d01, b2i_01, b2i_d, b2i_eq0, b2i_eq1, b2i_inj, Bool.true_eq_false, Bool.false_eq_true, gi_si, gi_sl, gi_sz, gi_sr, gi_sa, gi_sb, gi_sy, gl_si, gl_sl, gl_sz, gl_sr, gl_sa, gl_sb, gl_sy, gz_si, gz_sl, gz_sz, gz_sr, gz_sa, gz_sb, gz_sy, gr_si, gr_sl, gr_sz, gr_sr, gr_sa, gr_sb, gr_sy, ga_si, ga_sl, ga_sz, ga_sr, ga_sa, ga_sb, ga_sy, gb_si, gb_sl, gb_sz, gb_sr, gb_sa, gb_sb, gb_sy, gy_si, gy_sl, gy_sz, gy_sr, gy_sa, gy_sb, gy_sy, NI_11, LY_11, kS_at, kS_wr, kS_op, kS_kn, kS_41, kS_42, kS_sat, kS_swr, kS_sop, m1_lt, m1_ge, nI_add])) | ((with_reducible apply br_V) <;> intro hc) | ((with_reducible apply br_C) <;> try intro hc) | (with_reducible apply an_I) | (with_reducible apply an_V) | (with_reducible apply an_A))
theorem m_where_f (p : Nat) (hp : p < 1000) : Ct MX11_where (h + 1) [vR 11 0] (kS S a (nI p) 0 c K) (fun r S' => r = some (vI (-1)) ∧ S' = kS S a (nI p) 0 c K) := by
  have i7 := fun h => m_is_f h S a 0 c K (nI 7) p hp
  refine e_X11_where ?_
  repeat' (first | ((first | with_reducible refine b_X11_where_0 ?_ | ((with_reducible refine k_X11_where_3 (i7 _) ?_ (by first | decide | assumption | (simp only [NI]; omega)) (Nat.le_of_ble_eq_true rfl)); rintro r S' ⟨rfl, rfl⟩) | with_reducible refine b_X11_where_6 ?_ | with_reducible refine b_X11_where_9 ?_ | with_reducible refine b_X11_where_11 ?_ | with_reducible refine b_X11_where_25 ?_) <;> (try simp only [o_al, o_c, o_dup, o_get, o_iadd, o_puti, t_1, t_ir, decide_true, decide_false, Bool.decide_eq_true, Bool.not_eq_false, Bool.not_eq_true, bft, btf, false_implies, true_implies, decide_eq_true_eq, decide_eq_false_iff_not, fv, st1, st2, kl, cat1, List.getElem?_cons_zero, List.getElem?_cons_succ, List.set_cons_zero, List.set_cons_succ, List.length_cons, List.length_nil, List.forall_mem_cons, List.not_mem_nil, Option.toList_some, Option.toList_none, List.cons_append, List.nil_append, and_true, true_and, and_self, reduceIte, Nat.reduceEqDiff, Nat.reduceLT, Nat.reduceAdd, Nat.lt_add_one, Nat.zero_lt_one, Nat.reduceLeDiff, false_and, and_false, forall_const, eq_self, not_true_eq_false, not_false_eq_true, implies_true, forall_eq, b2i_t, b2i_f, true_or, or_true, or_self, or_false, false_or, z01, z10, d10, d01, b2i_01, b2i_d, b2i_eq0, b2i_eq1, b2i_inj, Bool.true_eq_false, Bool.false_eq_true, gi_si, gi_sl, gi_sz, gi_sr, gi_sa, gi_sb, gi_sy, gl_si, gl_sl, gl_sz, gl_sr, gl_sa, gl_sb, gl_sy, gz_si, gz_sl, gz_sz, gz_sr, gz_sa, gz_sb, gz_sy, gr_si, gr_sl, gr_sz, gr_sr, gr_sa, gr_sb, gr_sy, ga_si, ga_sl, ga_sz, ga_sr, ga_sa, ga_sb, ga_sy, gb_si, gb_sl, gb_sz, gb_sr, gb_sa, gb_sb, gb_sy, gy_si, gy_sl, gy_sz, gy_sr, gy_sa, gy_sb, gy_sy, NI_11, LY_11, kS_at, kS_wr, kS_op, kS_kn, kS_41, kS_42, kS_sat, kS_swr, kS_sop, m1_lt, m1_ge, nI_add])) | ((with_reducible apply br_V) <;> intro hc) | ((with_reducible apply br_C) <;> try intro hc) | (with_reducible apply an_I) | (with_reducible apply an_V) | (with_reducible apply an_A))
theorem m_where_t (hT : MT S T) (hc : c + (T.length - a) ≤ 210) (q : kd T a = nI 207) (e : pCn T (a + 1) = (a', some x)) : Ct MX11_where (h + 69) [vR 11 0] (kS S a (-1) 0 c K) (MrT (rC T) S 0 c K a a' x) := by
  have hl := hT.2.2
  have hlt : a < T.length := kd_in q (by decide)
  have i7 := fun h => m_is h S a 0 c K (nI 7) (by omega)
  rw [show decide (ga S 41 0 a = nI 7) = true from decide_eq_true (by rw [MT_i hT (by omega) 207 7 (by decide)]; exact q)] at i7
  have hC := m_con_t h S T (a + 1) c K a' x hT (by omega) (by omega) e
  refine e_X11_where ?_
  repeat' (first | ((first | with_reducible refine b_X11_where_0 ?_ | ((with_reducible refine k_X11_where_3 (i7 _) ?_ (by first | decide | assumption | (simp only [NI]; omega)) (Nat.le_of_ble_eq_true rfl)); rintro r S' ⟨rfl, rfl⟩) | with_reducible refine b_X11_where_6 ?_ | with_reducible refine b_X11_where_9 ?_ | with_reducible refine b_X11_where_11 ?_ | ((with_reducible refine k_X11_where_22 (hC) ?_ (by first | decide | assumption | (simp only [NI]; omega)) (Nat.le_of_ble_eq_true rfl)); rintro r S' ⟨k2, c2, K2, rfl, rfl, hE2, hb, hG2⟩) | with_reducible refine b_X11_where_25 ?_) <;> (try simp only [o_al, o_c, o_dup, o_get, o_iadd, o_puti, t_1, t_ir, decide_true, decide_false, Bool.decide_eq_true, Bool.not_eq_false, Bool.not_eq_true, bft, btf, false_implies, true_implies, decide_eq_true_eq, decide_eq_false_iff_not, fv, st1, st2, kl, cat1, List.getElem?_cons_zero, List.getElem?_cons_succ, List.set_cons_zero, List.set_cons_succ, List.length_cons, List.length_nil, List.forall_mem_cons, List.not_mem_nil, Option.toList_some, Option.toList_none, List.cons_append, List.nil_append, and_true, true_and, and_self, reduceIte, Nat.reduceEqDiff, Nat.reduceLT, Nat.reduceAdd, Nat.lt_add_one, Nat.zero_lt_one, Nat.reduceLeDiff, false_and, and_false, forall_const, eq_self, not_true_eq_false, not_false_eq_true, implies_true, forall_eq, b2i_t, b2i_f, true_or, or_true, or_self, or_false, false_or, z01, z10, d10, d01, b2i_01, b2i_d, b2i_eq0, b2i_eq1, b2i_inj, Bool.true_eq_false, Bool.false_eq_true, gi_si, gi_sl, gi_sz, gi_sr, gi_sa, gi_sb, gi_sy, gl_si, gl_sl, gl_sz, gl_sr, gl_sa, gl_sb, gl_sy, gz_si, gz_sl, gz_sz, gz_sr, gz_sa, gz_sb, gz_sy, gr_si, gr_sl, gr_sz, gr_sr, gr_sa, gr_sb, gr_sy, ga_si, ga_sl, ga_sz, ga_sr, ga_sa, ga_sb, ga_sy, gb_si, gb_sl, gb_sz, gb_sr, gb_sa, gb_sb, gb_sy, gy_si, gy_sl, gy_sz, gy_sr, gy_sa, gy_sb, gy_sy, NI_11, LY_11, kS_at, kS_wr, kS_op, kS_kn, kS_41, kS_42, kS_sat, kS_swr, kS_sop, m1_lt, m1_ge, nI_add])) | ((with_reducible apply br_V) <;> intro hc) | ((with_reducible apply br_C) <;> try intro hc) | (with_reducible apply an_I) | (with_reducible apply an_V) | (with_reducible apply an_A))
  exact ⟨k2, c2, K2, rfl, rfl, hE2, by omega, hG2⟩
theorem m_where_n (hT : MT S T) (hc : c + (T.length - a) ≤ 210) (q : kd T a = nI 207) (e : pCn T (a + 1) = (a', none)) : Ct MX11_where (h + 69) [vR 11 0] (kS S a (-1) 0 c K) (MrF S T 0 c K a a') := by
  have hl := hT.2.2
  have hlt : a < T.length := kd_in q (by decide)
  have i7 := fun h => m_is h S a 0 c K (nI 7) (by omega)
  rw [show decide (ga S 41 0 a = nI 7) = true from decide_eq_true (by rw [MT_i hT (by omega) 207 7 (by decide)]; exact q)] at i7
  have hC := m_con_n h S T (a + 1) c K a' hT (by omega) (by omega) e
  refine e_X11_where ?_
  repeat' (first | ((first | with_reducible refine b_X11_where_0 ?_ | ((with_reducible refine k_X11_where_3 (i7 _) ?_ (by first | decide | assumption | (simp only [NI]; omega)) (Nat.le_of_ble_eq_true rfl)); rintro r S' ⟨rfl, rfl⟩) | with_reducible refine b_X11_where_6 ?_ | with_reducible refine b_X11_where_9 ?_ | with_reducible refine b_X11_where_11 ?_ | ((with_reducible refine k_X11_where_22 (hC) ?_ (by first | decide | assumption | (simp only [NI]; omega)) (Nat.le_of_ble_eq_true rfl)); rintro r S' ⟨k2, c2, K2, b2, rfl, rfl, hE2, hb⟩) | with_reducible refine b_X11_where_25 ?_) <;> (try simp only [o_al, o_c, o_dup, o_get, o_iadd, o_puti, t_1, t_ir, decide_true, decide_false, Bool.decide_eq_true, Bool.not_eq_false, Bool.not_eq_true, bft, btf, false_implies, true_implies, decide_eq_true_eq, decide_eq_false_iff_not, fv, st1, st2, kl, cat1, List.getElem?_cons_zero, List.getElem?_cons_succ, List.set_cons_zero, List.set_cons_succ, List.length_cons, List.length_nil, List.forall_mem_cons, List.not_mem_nil, Option.toList_some, Option.toList_none, List.cons_append, List.nil_append, and_true, true_and, and_self, reduceIte, Nat.reduceEqDiff, Nat.reduceLT, Nat.reduceAdd, Nat.lt_add_one, Nat.zero_lt_one, Nat.reduceLeDiff, false_and, and_false, forall_const, eq_self, not_true_eq_false, not_false_eq_true, implies_true, forall_eq, b2i_t, b2i_f, true_or, or_true, or_self, or_false, false_or, z01, z10, d10, d01, b2i_01, b2i_d, b2i_eq0, b2i_eq1, b2i_inj, Bool.true_eq_false, Bool.false_eq_true, gi_si, gi_sl, gi_sz, gi_sr, gi_sa, gi_sb, gi_sy, gl_si, gl_sl, gl_sz, gl_sr, gl_sa, gl_sb, gl_sy, gz_si, gz_sl, gz_sz, gz_sr, gz_sa, gz_sb, gz_sy, gr_si, gr_sl, gr_sz, gr_sr, gr_sa, gr_sb, gr_sy, ga_si, ga_sl, ga_sz, ga_sr, ga_sa, ga_sb, ga_sy, gb_si, gb_sl, gb_sz, gb_sr, gb_sa, gb_sb, gb_sy, gy_si, gy_sl, gy_sz, gy_sr, gy_sa, gy_sb, gy_sy, NI_11, LY_11, kS_at, kS_wr, kS_op, kS_kn, kS_41, kS_42, kS_sat, kS_swr, kS_sop, m1_lt, m1_ge, nI_add])) | ((with_reducible apply br_V) <;> intro hc) | ((with_reducible apply br_C) <;> try intro hc) | (with_reducible apply an_I) | (with_reducible apply an_V) | (with_reducible apply an_A))
  exact ⟨k2, c2, K2, b2, rfl, rfl, hE2, by omega⟩
theorem m_ends_t (hT : MT S T) (q : a = T.length) : Ct MX11_ends h [vR 11 0] (kS S a (-1) 0 c K) (fun r S' => r = some (vI (nI 1)) ∧ S' = kS S a (-1) 0 c K) := by
  have hl := hT.2.2
  subst q
  have e := hT.2.1
  have i1 : vp_in (nI T.length) 202 := vp_in_nI (by omega) (by decide)
  have k1 : (nI T.length).toNatClampNeg = T.length := nI_clamp (by omega)
  refine e_X11_ends ?_
  repeat' (first | ((first | with_reducible refine b_X11_ends_0 ?_ | with_reducible refine b_X11_ends_7 ?_ | with_reducible refine b_X11_ends_21 ?_ | with_reducible refine b_X11_ends_29 ?_ | with_reducible refine b_X11_ends_36 ?_ | with_reducible refine b_X11_ends_40 ?_ | with_reducible refine b_X11_ends_41 ?_) <;> (try simp only [o_al, o_c, o_get, o_iald, o_puti, t_1, t_2, t_zr, decide_true, decide_false, Bool.decide_eq_true, Bool.not_eq_false, Bool.not_eq_true, bft, btf, false_implies, true_implies, decide_eq_true_eq, decide_eq_false_iff_not, fv, st1, st2, kl, cat1, List.getElem?_cons_zero, List.getElem?_cons_succ, List.set_cons_zero, List.set_cons_succ, List.length_cons, List.length_nil, List.forall_mem_cons, List.not_mem_nil, Option.toList_some, Option.toList_none, List.cons_append, List.nil_append, and_true, true_and, and_self, reduceIte, Nat.reduceEqDiff, Nat.reduceLT, Nat.reduceAdd, Nat.lt_add_one, Nat.zero_lt_one, Nat.reduceLeDiff, false_and, and_false, forall_const, eq_self, not_true_eq_false, not_false_eq_true, implies_true, forall_eq, b2i_t, b2i_f, true_or, or_true, or_self, or_false, false_or, z01, z10, d10, d01, b2i_01, b2i_d, b2i_eq0, b2i_eq1, b2i_inj, Bool.true_eq_false, Bool.false_eq_true, gi_si, gi_sl, gi_sz, gi_sr, gi_sa, gi_sb, gi_sy, gl_si, gl_sl, gl_sz, gl_sr, gl_sa, gl_sb, gl_sy, gz_si, gz_sl, gz_sz, gz_sr, gz_sa, gz_sb, gz_sy, gr_si, gr_sl, gr_sz, gr_sr, gr_sa, gr_sb, gr_sy, ga_si, ga_sl, ga_sz, ga_sr, ga_sa, ga_sb, ga_sy, gb_si, gb_sl, gb_sz, gb_sr, gb_sa, gb_sb, gb_sy, gy_si, gy_sl, gy_sz, gy_sr, gy_sa, gy_sb, gy_sy, NI_11, NI_41, LY_11, LY_41, kS_at, kS_wr, kS_op, kS_kn, kS_41, kS_42, kS_sat, kS_swr, kS_sop, m1_lt, m1_ge, nI_add, i1, k1, e])) | ((with_reducible apply br_V) <;> intro hc) | ((with_reducible apply br_C) <;> try intro hc) | (with_reducible apply an_I) | (with_reducible apply an_V) | (with_reducible apply an_A))
theorem m_ends_n (hT : MT S T) (ha : a < T.length) (q : ¬ kd T a = nI 0) : Ct MX11_ends h [vR 11 0] (kS S a (-1) 0 c K) (fun r S' => r = some (vI (nI 0)) ∧ S' = kS S a (nI a) 0 c K) := by
  have hl := hT.2.2
  have e := (MT_i hT (show a ≤ T.length by omega) 0 54 (by decide)).trans (eq_false q)
  have i1 : vp_in (nI a) 202 := vp_in_nI (by omega) (by decide)
  have k1 : (nI a).toNatClampNeg = a := nI_clamp (by omega)
  have w1 : nI 0 ≤ nI a := nI_le (by omega) (by omega)
  have w2 : ¬ nI a < nI 0 := nI_nlt (by omega) (by omega)
  refine e_X11_ends ?_
  repeat' (first | ((first | with_reducible refine b_X11_ends_0 ?_ | with_reducible refine b_X11_ends_7 ?_ | with_reducible refine b_X11_ends_21 ?_ | with_reducible refine b_X11_ends_29 ?_ | with_reducible refine b_X11_ends_36 ?_ | with_reducible refine b_X11_ends_40 ?_ | with_reducible refine b_X11_ends_41 ?_) <;> (try simp only [o_al, o_c, o_get, o_iald, o_puti, t_1, t_2, t_zr, decide_true, decide_false, Bool.decide_eq_true, Bool.not_eq_false, Bool.not_eq_true, bft, btf, false_implies, true_implies, decide_eq_true_eq, decide_eq_false_iff_not, fv, st1, st2, kl, cat1, List.getElem?_cons_zero, List.getElem?_cons_succ, List.set_cons_zero, List.set_cons_succ, List.length_cons, List.length_nil, List.forall_mem_cons, List.not_mem_nil, Option.toList_some, Option.toList_none, List.cons_append, List.nil_append, and_true, true_and, and_self, reduceIte, Nat.reduceEqDiff, Nat.reduceLT, Nat.reduceAdd, Nat.lt_add_one, Nat.zero_lt_one, Nat.reduceLeDiff, false_and, and_false, forall_const, eq_self, not_true_eq_false, not_false_eq_true, implies_true, forall_eq, b2i_t, b2i_f, true_or, or_true, or_self, or_false, false_or, z01, z10, d10, d01, b2i_01, b2i_d, b2i_eq0, b2i_eq1, b2i_inj, Bool.true_eq_false, Bool.false_eq_true, gi_si, gi_sl, gi_sz, gi_sr, gi_sa, gi_sb, gi_sy, gl_si, gl_sl, gl_sz, gl_sr, gl_sa, gl_sb, gl_sy, gz_si, gz_sl, gz_sz, gz_sr, gz_sa, gz_sb, gz_sy, gr_si, gr_sl, gr_sz, gr_sr, gr_sa, gr_sb, gr_sy, ga_si, ga_sl, ga_sz, ga_sr, ga_sa, ga_sb, ga_sy, gb_si, gb_sl, gb_sz, gb_sr, gb_sa, gb_sb, gb_sy, gy_si, gy_sl, gy_sz, gy_sr, gy_sa, gy_sb, gy_sy, NI_11, NI_41, LY_11, LY_41, kS_at, kS_wr, kS_op, kS_kn, kS_41, kS_42, kS_sat, kS_swr, kS_sop, m1_lt, m1_ge, nI_add, i1, k1, e, w1, w2])) | ((with_reducible apply br_V) <;> intro hc) | ((with_reducible apply br_C) <;> try intro hc) | (with_reducible apply an_I) | (with_reducible apply an_V) | (with_reducible apply an_A))
theorem m_ends_f (p : Nat) (hp : p < 1000) : Ct MX11_ends h [vR 11 0] (kS S a (nI p) 0 c K) (fun r S' => r = some (vI (nI 0)) ∧ S' = kS S a (nI p) 0 c K) := by
  have w1 : nI 0 ≤ nI p := nI_le (by omega) (by omega)
  have w2 : ¬ nI p < nI 0 := nI_nlt (by omega) (by omega)
  refine e_X11_ends ?_
  repeat' (first | ((first | with_reducible refine b_X11_ends_0 ?_ | with_reducible refine b_X11_ends_7 ?_ | with_reducible refine b_X11_ends_21 ?_ | with_reducible refine b_X11_ends_29 ?_ | with_reducible refine b_X11_ends_36 ?_ | with_reducible refine b_X11_ends_40 ?_ | with_reducible refine b_X11_ends_41 ?_) <;> (try simp only [o_al, o_c, o_get, o_iald, o_puti, t_1, t_2, t_zr, decide_true, decide_false, Bool.decide_eq_true, Bool.not_eq_false, Bool.not_eq_true, bft, btf, false_implies, true_implies, decide_eq_true_eq, decide_eq_false_iff_not, fv, st1, st2, kl, cat1, List.getElem?_cons_zero, List.getElem?_cons_succ, List.set_cons_zero, List.set_cons_succ, List.length_cons, List.length_nil, List.forall_mem_cons, List.not_mem_nil, Option.toList_some, Option.toList_none, List.cons_append, List.nil_append, and_true, true_and, and_self, reduceIte, Nat.reduceEqDiff, Nat.reduceLT, Nat.reduceAdd, Nat.lt_add_one, Nat.zero_lt_one, Nat.reduceLeDiff, false_and, and_false, forall_const, eq_self, not_true_eq_false, not_false_eq_true, implies_true, forall_eq, b2i_t, b2i_f, true_or, or_true, or_self, or_false, false_or, z01, z10, d10, d01, b2i_01, b2i_d, b2i_eq0, b2i_eq1, b2i_inj, Bool.true_eq_false, Bool.false_eq_true, gi_si, gi_sl, gi_sz, gi_sr, gi_sa, gi_sb, gi_sy, gl_si, gl_sl, gl_sz, gl_sr, gl_sa, gl_sb, gl_sy, gz_si, gz_sl, gz_sz, gz_sr, gz_sa, gz_sb, gz_sy, gr_si, gr_sl, gr_sz, gr_sr, gr_sa, gr_sb, gr_sy, ga_si, ga_sl, ga_sz, ga_sr, ga_sa, ga_sb, ga_sy, gb_si, gb_sl, gb_sz, gb_sr, gb_sa, gb_sb, gb_sy, gy_si, gy_sl, gy_sz, gy_sr, gy_sa, gy_sb, gy_sy, NI_11, NI_41, LY_11, LY_41, kS_at, kS_wr, kS_op, kS_kn, kS_41, kS_42, kS_sat, kS_swr, kS_sop, m1_lt, m1_ge, nI_add, w1, w2])) | ((with_reducible apply br_V) <;> intro hc) | ((with_reducible apply br_C) <;> try intro hc) | (with_reducible apply an_I) | (with_reducible apply an_V) | (with_reducible apply an_A))
end
/-- knot k is this item -/
def rI (T : WL) (K : KA) (k : Nat) (y : Int32 × WL) : Prop := (y.1 = -1 ∧ rX T K k y.2) ∨ ∃ m l, (18 ≤ m ∧ m ≤ 21) ∧ y.1 = nI (200 + m) ∧ UK K k m l ∧ l < k ∧ rX T K l y.2
section
variable (h : Nat) (S : ST) (T : WL) (a c : Nat) (K : KA)
theorem it_cs (hT : MT S T) (ha : a ≤ T.length) : (∃ m, (18 ≤ m ∧ m ≤ 21) ∧ kd T a = nI (200 + m) ∧ ga S 41 0 a = nI m) ∨ (¬ (kd T a = nI 218 ∨ kd T a = nI 219 ∨ kd T a = nI 220 ∨ kd T a = nI 221) ∧ ∃ m, m < 256 ∧ ga S 41 0 a = nI m ∧ (m < 18 ∨ 21 < m)) := by
  obtain ⟨p, h1, h2, h3⟩ := MT_k hT ha
  have key : ∀ p, p ∈ kps → ((18 ≤ p.2 ∧ p.2 ≤ 21) ∧ p.1 = 200 + p.2) ∨ (¬ (nI p.1 = nI 218 ∨ nI p.1 = nI 219 ∨ nI p.1 = nI 220 ∨ nI p.1 = nI 221) ∧ p.2 < 256 ∧ (p.2 < 18 ∨ 21 < p.2)) := by decide
  rcases key p h1 with ⟨y1, y2⟩ | ⟨y1, y2, y3⟩
  · exact Or.inl ⟨p.2, y1, by rw [h2, y2], h3⟩
  · exact Or.inr ⟨by rw [h2]; exact y1, p.2, y2, h3, y3⟩
end
