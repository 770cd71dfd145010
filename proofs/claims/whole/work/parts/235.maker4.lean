-- deps: 234
def ItP (S : ST) : Nat → Nat → IL → Prop
  | _, _, [] => True
  | i, p, x :: r => ga S 27 0 i = x.1 ∧ ga S 28 0 i = nI (p + x.2.length) ∧ ItP S (i + 1) (p + x.2.length) r
theorem ItP_of {S : ST} : ∀ {its its' : IL} {i p : Nat}, ItO S i p its → its'.map (fun x => (x.1, x.2.length)) = its.map (fun x => (x.1, x.2.length)) → ItP S i p its' := by
  intro its
  induction its with
  | nil => intro its' i p _ h; rcases its' with _ | _ <;> simp at h; trivial
  | cons x r ih =>
    intro its' i p hit h
    rcases its' with _ | ⟨x', r'⟩
    · simp at h
    · simp only [List.map_cons, List.cons.injEq, Prod.mk.injEq] at h
      obtain ⟨e1, e2, e3, e4⟩ := hit
      refine ⟨by rw [h.1.1]; exact e1, by rw [h.1.2]; exact e2, ?_⟩
      rw [h.1.2]
      exact ih e4 h.2
def cl1 (gr : Bool) (a : Int32) : Int32 := if a = nI 219 then nI 32 else if a = nI 218 then nI 33 else if a = nI 220 then nI 34 else if a = nI 221 then nI 35 else if gr = true then nI 31 else nI 28
def itW (gr : Bool) : IL → Nat → WL
  | [], _ => []
  | x :: r, i => x.2 ++ (cl1 gr x.1, nI i) :: itW gr r (i + 1)
def toW : IL → Nat → WL
  | [], _ => []
  | x :: r, i => (if x.1 = nI 219 then [(nI 36, nI i)] else if x.1 = nI 218 then [(nI 37, nI i)] else []) ++ toW r (i + 1)
theorem itW_len (gr : Bool) : ∀ (its : IL) (i : Nat), (itW gr its i).length = (flt its).length + its.length := by
  intro its
  induction its with
  | nil => intro i; rfl
  | cons x r ih => intro i; simp [itW, flt, ih (i + 1)]; omega
theorem toW_len : ∀ (its : IL) (i : Nat), (toW its i).length ≤ its.length := by
  intro its
  induction its with
  | nil => intro i; exact Nat.le_refl _
  | cons x r ih =>
    intro i
    have := ih (i + 1)
    simp only [toW, List.length_append, List.length_cons]
    split
    · simp; omega
    · split <;> simp <;> omega
theorem ne_218_219 : (nI 218 = nI 219) = False := by simp only [eq_iff_iff, iff_false]; decide
theorem ne_218_220 : (nI 218 = nI 220) = False := by simp only [eq_iff_iff, iff_false]; decide
theorem ne_218_221 : (nI 218 = nI 221) = False := by simp only [eq_iff_iff, iff_false]; decide
theorem ne_219_218 : (nI 219 = nI 218) = False := by simp only [eq_iff_iff, iff_false]; decide
theorem ne_219_220 : (nI 219 = nI 220) = False := by simp only [eq_iff_iff, iff_false]; decide
theorem ne_219_221 : (nI 219 = nI 221) = False := by simp only [eq_iff_iff, iff_false]; decide
theorem ne_220_218 : (nI 220 = nI 218) = False := by simp only [eq_iff_iff, iff_false]; decide
theorem ne_220_219 : (nI 220 = nI 219) = False := by simp only [eq_iff_iff, iff_false]; decide
theorem ne_220_221 : (nI 220 = nI 221) = False := by simp only [eq_iff_iff, iff_false]; decide
theorem ne_221_218 : (nI 221 = nI 218) = False := by simp only [eq_iff_iff, iff_false]; decide
theorem ne_221_219 : (nI 221 = nI 219) = False := by simp only [eq_iff_iff, iff_false]; decide
theorem ne_221_220 : (nI 221 = nI 220) = False := by simp only [eq_iff_iff, iff_false]; decide
section
variable (h : Nat) (S : ST) (g1 g2 : Nat → Int32) (ws : WL)
theorem c_collectorOf (a : Nat) (gr : Bool) (ha : a < 4) (h14 : gr = decide (¬ gi S 6 14 0 = -1)) : Ct MX3_collectorOf (h + 1) [vR 3 0, vI (nI a)] S (fun r S' => r = some (vI (cl1 gr (ga S 27 0 a))) ∧ S' = S) := by
  have i1 : vp_in (nI a) 4 := vp_in_nI (by omega) (by decide)
  have k1 : (nI a).toNatClampNeg = a := nI_clamp (by omega)
  have hG := fun h => c_isGrouped h S
  rw [← h14] at hG
  unfold cl1
  refine e_X3_collectorOf ?_
  by_cases h1 : ga S 27 0 a = nI 219
  · simp only [h1, reduceIte]
    repeat' (first | ((first | with_reducible refine b_X3_collectorOf_0 ?_ | with_reducible refine b_X3_collectorOf_40 ?_ | with_reducible refine b_X3_collectorOf_43 ?_ | with_reducible refine b_X3_collectorOf_46 ?_ | with_reducible refine b_X3_collectorOf_49 ?_ | with_reducible refine b_X3_collectorOf_52 ?_ | with_reducible refine b_X3_collectorOf_59 ?_ | with_reducible refine b_X3_collectorOf_62 ?_ | with_reducible refine b_X3_collectorOf_67 ?_ | with_reducible refine b_X3_collectorOf_69 ?_) <;> (try simp only [o_al, o_c, o_get, o_iald, o_il, t_1, t_ir, t_sw, decide_true, decide_false, Bool.decide_eq_true, Bool.not_eq_false, Bool.not_eq_true, bft, btf, false_implies, true_implies, decide_eq_true_eq, decide_eq_false_iff_not, fv, st1, st2, kl, cat1, List.getElem?_cons_zero, List.getElem?_cons_succ, List.set_cons_zero, List.set_cons_succ, List.length_cons, List.length_nil, List.forall_mem_cons, List.not_mem_nil, Option.toList_some, Option.toList_none, List.cons_append, List.nil_append, and_true, true_and, and_self, reduceIte, Nat.reduceEqDiff, Nat.reduceLT, Nat.reduceAdd, Nat.lt_add_one, Nat.zero_lt_one, Nat.reduceLeDiff, false_and, and_false, forall_const, eq_self, not_true_eq_false, not_false_eq_true, implies_true, forall_eq, b2i_t, b2i_f, true_or, or_true, or_self, or_false, false_or, z01, z10, d10, d01, b2i_01, b2i_d, b2i_eq0, b2i_eq1, b2i_inj, Bool.true_eq_false, Bool.false_eq_true, gi_si, gi_sl, gi_sz, gi_sr, gi_sa, gi_sb, gi_sy, gl_si, gl_sl, gl_sz, gl_sr, gl_sa, gl_sb, gl_sy, gz_si, gz_sl, gz_sz, gz_sr, gz_sa, gz_sb, gz_sy, gr_si, gr_sl, gr_sz, gr_sr, gr_sa, gr_sb, gr_sy, ga_si, ga_sl, ga_sz, ga_sr, ga_sa, ga_sb, ga_sy, gb_si, gb_sl, gb_sz, gb_sr, gb_sa, gb_sb, gb_sy, gy_si, gy_sl, gy_sz, gy_sr, gy_sa, gy_sb, gy_sy, NI_3, NI_6, NI_27, LY_3, LY_6, LY_27, i1, k1, h1, ne_218_219, ne_218_220, ne_218_221, ne_219_218, ne_219_220, ne_219_221, ne_220_218, ne_220_219, ne_220_221, ne_221_218, ne_221_219, ne_221_220])) | ((with_reducible apply br_V) <;> intro hc) | ((with_reducible apply br_C) <;> try intro hc) | (with_reducible apply an_I) | (with_reducible apply an_V) | (with_reducible apply an_A))
  · by_cases h2 : ga S 27 0 a = nI 218
    · simp only [h2, reduceIte, ne_218_219, ne_218_220, ne_218_221, ne_219_218, ne_219_220, ne_219_221, ne_220_218, ne_220_219, ne_220_221, ne_221_218, ne_221_219, ne_221_220]
      repeat' (first | ((first | with_reducible refine b_X3_collectorOf_0 ?_ | with_reducible refine b_X3_collectorOf_40 ?_ | with_reducible refine b_X3_collectorOf_43 ?_ | with_reducible refine b_X3_collectorOf_46 ?_ | with_reducible refine b_X3_collectorOf_49 ?_ | with_reducible refine b_X3_collectorOf_52 ?_ | with_reducible refine b_X3_collectorOf_59 ?_ | with_reducible refine b_X3_collectorOf_62 ?_ | with_reducible refine b_X3_collectorOf_67 ?_ | with_reducible refine b_X3_collectorOf_69 ?_) <;> (try simp only [o_al, o_c, o_get, o_iald, o_il, t_1, t_ir, t_sw, decide_true, decide_false, Bool.decide_eq_true, Bool.not_eq_false, Bool.not_eq_true, bft, btf, false_implies, true_implies, decide_eq_true_eq, decide_eq_false_iff_not, fv, st1, st2, kl, cat1, List.getElem?_cons_zero, List.getElem?_cons_succ, List.set_cons_zero, List.set_cons_succ, List.length_cons, List.length_nil, List.forall_mem_cons, List.not_mem_nil, Option.toList_some, Option.toList_none, List.cons_append, List.nil_append, and_true, true_and, and_self, reduceIte, Nat.reduceEqDiff, Nat.reduceLT, Nat.reduceAdd, Nat.lt_add_one, Nat.zero_lt_one, Nat.reduceLeDiff, false_and, and_false, forall_const, eq_self, not_true_eq_false, not_false_eq_true, implies_true, forall_eq, b2i_t, b2i_f, true_or, or_true, or_self, or_false, false_or, z01, z10, d10, d01, b2i_01, b2i_d, b2i_eq0, b2i_eq1, b2i_inj, Bool.true_eq_false, Bool.false_eq_true, gi_si, gi_sl, gi_sz, gi_sr, gi_sa, gi_sb, gi_sy, gl_si, gl_sl, gl_sz, gl_sr, gl_sa, gl_sb, gl_sy, gz_si, gz_sl, gz_sz, gz_sr, gz_sa, gz_sb, gz_sy, gr_si, gr_sl, gr_sz, gr_sr, gr_sa, gr_sb, gr_sy, ga_si, ga_sl, ga_sz, ga_sr, ga_sa, ga_sb, ga_sy, gb_si, gb_sl, gb_sz, gb_sr, gb_sa, gb_sb, gb_sy, gy_si, gy_sl, gy_sz, gy_sr, gy_sa, gy_sb, gy_sy, NI_3, NI_6, NI_27, LY_3, LY_6, LY_27, i1, k1, h2, ne_218_219, ne_218_220, ne_218_221, ne_219_218, ne_219_220, ne_219_221, ne_220_218, ne_220_219, ne_220_221, ne_221_218, ne_221_219, ne_221_220])) | ((with_reducible apply br_V) <;> intro hc) | ((with_reducible apply br_C) <;> try intro hc) | (with_reducible apply an_I) | (with_reducible apply an_V) | (with_reducible apply an_A))
    · by_cases h3 : ga S 27 0 a = nI 220
      · simp only [h3, reduceIte, ne_218_219, ne_218_220, ne_218_221, ne_219_218, ne_219_220, ne_219_221, ne_220_218, ne_220_219, ne_220_221, ne_221_218, ne_221_219, ne_221_220]
        repeat' (first | ((first | with_reducible refine b_X3_collectorOf_0 ?_ | with_reducible refine b_X3_collectorOf_40 ?_ | with_reducible refine b_X3_collectorOf_43 ?_ | with_reducible refine b_X3_collectorOf_46 ?_ | with_reducible refine b_X3_collectorOf_49 ?_ | with_reducible refine b_X3_collectorOf_52 ?_ | with_reducible refine b_X3_collectorOf_59 ?_ | with_reducible refine b_X3_collectorOf_62 ?_ | with_reducible refine b_X3_collectorOf_67 ?_ | with_reducible refine b_X3_collectorOf_69 ?_) <;> (try simp only [o_al, o_c, o_get, o_iald, o_il, t_1, t_ir, t_sw, decide_true, decide_false, Bool.decide_eq_true, Bool.not_eq_false, Bool.not_eq_true, bft, btf, false_implies, true_implies, decide_eq_true_eq, decide_eq_false_iff_not, fv, st1, st2, kl, cat1, List.getElem?_cons_zero, List.getElem?_cons_succ, List.set_cons_zero, List.set_cons_succ, List.length_cons, List.length_nil, List.forall_mem_cons, List.not_mem_nil, Option.toList_some, Option.toList_none, List.cons_append, List.nil_append, and_true, true_and, and_self, reduceIte, Nat.reduceEqDiff, Nat.reduceLT, Nat.reduceAdd, Nat.lt_add_one, Nat.zero_lt_one, Nat.reduceLeDiff, false_and, and_false, forall_const, eq_self, not_true_eq_false, not_false_eq_true, implies_true, forall_eq, b2i_t, b2i_f, true_or, or_true, or_self, or_false, false_or, z01, z10, d10, d01, b2i_01, b2i_d, b2i_eq0, b2i_eq1, b2i_inj, Bool.true_eq_false, Bool.false_eq_true, gi_si, gi_sl, gi_sz, gi_sr, gi_sa, gi_sb, gi_sy, gl_si, gl_sl, gl_sz, gl_sr, gl_sa, gl_sb, gl_sy, gz_si, gz_sl, gz_sz, gz_sr, gz_sa, gz_sb, gz_sy, gr_si, gr_sl, gr_sz, gr_sr, gr_sa, gr_sb, gr_sy, ga_si, ga_sl, ga_sz, ga_sr, ga_sa, ga_sb, ga_sy, gb_si, gb_sl, gb_sz, gb_sr, gb_sa, gb_sb, gb_sy, gy_si, gy_sl, gy_sz, gy_sr, gy_sa, gy_sb, gy_sy, NI_3, NI_6, NI_27, LY_3, LY_6, LY_27, i1, k1, h3, ne_218_219, ne_218_220, ne_218_221, ne_219_218, ne_219_220, ne_219_221, ne_220_218, ne_220_219, ne_220_221, ne_221_218, ne_221_219, ne_221_220])) | ((with_reducible apply br_V) <;> intro hc) | ((with_reducible apply br_C) <;> try intro hc) | (with_reducible apply an_I) | (with_reducible apply an_V) | (with_reducible apply an_A))
      · by_cases h4 : ga S 27 0 a = nI 221
        · simp only [h4, reduceIte, ne_218_219, ne_218_220, ne_218_221, ne_219_218, ne_219_220, ne_219_221, ne_220_218, ne_220_219, ne_220_221, ne_221_218, ne_221_219, ne_221_220]
          repeat' (first | ((first | with_reducible refine b_X3_collectorOf_0 ?_ | with_reducible refine b_X3_collectorOf_40 ?_ | with_reducible refine b_X3_collectorOf_43 ?_ | with_reducible refine b_X3_collectorOf_46 ?_ | with_reducible refine b_X3_collectorOf_49 ?_ | with_reducible refine b_X3_collectorOf_52 ?_ | with_reducible refine b_X3_collectorOf_59 ?_ | with_reducible refine b_X3_collectorOf_62 ?_ | with_reducible refine b_X3_collectorOf_67 ?_ | with_reducible refine b_X3_collectorOf_69 ?_) <;> (try simp only [o_al, o_c, o_get, o_iald, o_il, t_1, t_ir, t_sw, decide_true, decide_false, Bool.decide_eq_true, Bool.not_eq_false, Bool.not_eq_true, bft, btf, false_implies, true_implies, decide_eq_true_eq, decide_eq_false_iff_not, fv, st1, st2, kl, cat1, List.getElem?_cons_zero, List.getElem?_cons_succ, List.set_cons_zero, List.set_cons_succ, List.length_cons, List.length_nil, List.forall_mem_cons, List.not_mem_nil, Option.toList_some, Option.toList_none, List.cons_append, List.nil_append, and_true, true_and, and_self, reduceIte, Nat.reduceEqDiff, Nat.reduceLT, Nat.reduceAdd, Nat.lt_add_one, Nat.zero_lt_one, Nat.reduceLeDiff, false_and, and_false, forall_const, eq_self, not_true_eq_false, not_false_eq_true, implies_true, forall_eq, b2i_t, b2i_f, true_or, or_true, or_self, or_false, false_or, z01, z10, d10, d01, b2i_01, b2i_d, b2i_eq0, b2i_eq1, b2i_inj, Bool.true_eq_false, Bool.false_eq_true, gi_si, gi_sl, gi_sz, gi_sr, gi_sa, gi_sb, gi_sy, gl_si, gl_sl, gl_sz, gl_sr, gl_sa, gl_sb, gl_sy, gz_si, gz_sl, gz_sz, gz_sr, gz_sa, gz_sb, gz_sy, gr_si, gr_sl, gr_sz, gr_sr, gr_sa, gr_sb, gr_sy, ga_si, ga_sl, ga_sz, ga_sr, ga_sa, ga_sb, ga_sy, gb_si, gb_sl, gb_sz, gb_sr, gb_sa, gb_sb, gb_sy, gy_si, gy_sl, gy_sz, gy_sr, gy_sa, gy_sb, gy_sy, NI_3, NI_6, NI_27, LY_3, LY_6, LY_27, i1, k1, h4, ne_218_219, ne_218_220, ne_218_221, ne_219_218, ne_219_220, ne_219_221, ne_220_218, ne_220_219, ne_220_221, ne_221_218, ne_221_219, ne_221_220])) | ((with_reducible apply br_V) <;> intro hc) | ((with_reducible apply br_C) <;> try intro hc) | (with_reducible apply an_I) | (with_reducible apply an_V) | (with_reducible apply an_A))
        · simp only [h1, h2, h3, h4, reduceIte]
          repeat' (first | ((first | with_reducible refine b_X3_collectorOf_0 ?_ | with_reducible refine b_X3_collectorOf_40 ?_ | with_reducible refine b_X3_collectorOf_43 ?_ | with_reducible refine b_X3_collectorOf_46 ?_ | with_reducible refine b_X3_collectorOf_49 ?_ | with_reducible refine b_X3_collectorOf_52 ?_ | ((with_reducible refine k_X3_collectorOf_56 (hG _) ?_ (by first | decide | assumption | (simp only [NI]; omega)) (Nat.le_of_ble_eq_true rfl)); rintro r S' ⟨rfl, rfl⟩) | with_reducible refine b_X3_collectorOf_59 ?_ | with_reducible refine b_X3_collectorOf_62 ?_ | with_reducible refine b_X3_collectorOf_67 ?_ | with_reducible refine b_X3_collectorOf_69 ?_) <;> (try simp only [o_al, o_c, o_get, o_iald, o_il, t_1, t_ir, t_sw, decide_true, decide_false, Bool.decide_eq_true, Bool.not_eq_false, Bool.not_eq_true, bft, btf, false_implies, true_implies, decide_eq_true_eq, decide_eq_false_iff_not, fv, st1, st2, kl, cat1, List.getElem?_cons_zero, List.getElem?_cons_succ, List.set_cons_zero, List.set_cons_succ, List.length_cons, List.length_nil, List.forall_mem_cons, List.not_mem_nil, Option.toList_some, Option.toList_none, List.cons_append, List.nil_append, and_true, true_and, and_self, reduceIte, Nat.reduceEqDiff, Nat.reduceLT, Nat.reduceAdd, Nat.lt_add_one, Nat.zero_lt_one, Nat.reduceLeDiff, false_and, and_false, forall_const, eq_self, not_true_eq_false, not_false_eq_true, implies_true, forall_eq, b2i_t, b2i_f, true_or, or_true, or_self, or_false, false_or, z01, z10, d10, d01, b2i_01, b2i_d, b2i_eq0, b2i_eq1, b2i_inj, Bool.true_eq_false, Bool.false_eq_true, gi_si, gi_sl, gi_sz, gi_sr, gi_sa, gi_sb, gi_sy, gl_si, gl_sl, gl_sz, gl_sr, gl_sa, gl_sb, gl_sy, gz_si, gz_sl, gz_sz, gz_sr, gz_sa, gz_sb, gz_sy, gr_si, gr_sl, gr_sz, gr_sr, gr_sa, gr_sb, gr_sy, ga_si, ga_sl, ga_sz, ga_sr, ga_sa, ga_sb, ga_sy, gb_si, gb_sl, gb_sz, gb_sr, gb_sa, gb_sb, gb_sy, gy_si, gy_sl, gy_sz, gy_sr, gy_sa, gy_sb, gy_sy, NI_3, NI_6, NI_27, LY_3, LY_6, LY_27, i1, k1, h1, h2, h3, h4])) | ((with_reducible apply br_V) <;> intro hc) | ((with_reducible apply br_C) <;> try intro hc) | (with_reducible apply an_I) | (with_reducible apply an_V) | (with_reducible apply an_A))
          all_goals simp_all
end
