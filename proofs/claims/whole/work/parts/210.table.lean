-- a write over a write; a write of what is there
section
variable (S : ST) (c k j : Nat)
theorem si_si (x y : Int32) : si (si S c k j x) c k j y = si S c k j y := by
  apply ST_ext <;> intros <;> simp only [gi_si, gi_sl, gi_sz, gi_sr, gi_sa, gi_sb, gi_sy, gl_si, gl_sl, gl_sz, gl_sr, gl_sa, gl_sb, gl_sy, gz_si, gz_sl, gz_sz, gz_sr, gz_sa, gz_sb, gz_sy, gr_si, gr_sl, gr_sz, gr_sr, gr_sa, gr_sb, gr_sy, ga_si, ga_sl, ga_sz, ga_sr, ga_sa, ga_sb, ga_sy, gb_si, gb_sl, gb_sz, gb_sr, gb_sa, gb_sb, gb_sy, gy_si, gy_sl, gy_sz, gy_sr, gy_sa, gy_sb, gy_sy, reduceIte, Nat.reduceEqDiff, and_true, true_and, and_self, false_and, and_false]
  (repeat' split) <;> simp_all
theorem sa_sa (x y : Nat → Int32) : sa (sa S c j x) c j y = sa S c j y := by
  apply ST_ext <;> intros <;> simp only [gi_si, gi_sl, gi_sz, gi_sr, gi_sa, gi_sb, gi_sy, gl_si, gl_sl, gl_sz, gl_sr, gl_sa, gl_sb, gl_sy, gz_si, gz_sl, gz_sz, gz_sr, gz_sa, gz_sb, gz_sy, gr_si, gr_sl, gr_sz, gr_sr, gr_sa, gr_sb, gr_sy, ga_si, ga_sl, ga_sz, ga_sr, ga_sa, ga_sb, ga_sy, gb_si, gb_sl, gb_sz, gb_sr, gb_sa, gb_sb, gb_sy, gy_si, gy_sl, gy_sz, gy_sr, gy_sa, gy_sb, gy_sy, reduceIte, Nat.reduceEqDiff, and_true, true_and, and_self, false_and, and_false]
  (repeat' split) <;> simp_all
theorem sy_sy (x y : Nat → Bool) : sy (sy S c j x) c j y = sy S c j y := by
  apply ST_ext <;> intros <;> simp only [gi_si, gi_sl, gi_sz, gi_sr, gi_sa, gi_sb, gi_sy, gl_si, gl_sl, gl_sz, gl_sr, gl_sa, gl_sb, gl_sy, gz_si, gz_sl, gz_sz, gz_sr, gz_sa, gz_sb, gz_sy, gr_si, gr_sl, gr_sz, gr_sr, gr_sa, gr_sb, gr_sy, ga_si, ga_sl, ga_sz, ga_sr, ga_sa, ga_sb, ga_sy, gb_si, gb_sl, gb_sz, gb_sr, gb_sa, gb_sb, gb_sy, gy_si, gy_sl, gy_sz, gy_sr, gy_sa, gy_sb, gy_sy, reduceIte, Nat.reduceEqDiff, and_true, true_and, and_self, false_and, and_false]
  (repeat' split) <;> simp_all
theorem sb_sb (x y : Nat → Int64) : sb (sb S c j x) c j y = sb S c j y := by
  apply ST_ext <;> intros <;> simp only [gi_si, gi_sl, gi_sz, gi_sr, gi_sa, gi_sb, gi_sy, gl_si, gl_sl, gl_sz, gl_sr, gl_sa, gl_sb, gl_sy, gz_si, gz_sl, gz_sz, gz_sr, gz_sa, gz_sb, gz_sy, gr_si, gr_sl, gr_sz, gr_sr, gr_sa, gr_sb, gr_sy, ga_si, ga_sl, ga_sz, ga_sr, ga_sa, ga_sb, ga_sy, gb_si, gb_sl, gb_sz, gb_sr, gb_sa, gb_sb, gb_sy, gy_si, gy_sl, gy_sz, gy_sr, gy_sa, gy_sb, gy_sy, reduceIte, Nat.reduceEqDiff, and_true, true_and, and_self, false_and, and_false]
  (repeat' split) <;> simp_all
theorem sz_sz (x y : Bool) : sz (sz S c k j x) c k j y = sz S c k j y := by
  apply ST_ext <;> intros <;> simp only [gi_si, gi_sl, gi_sz, gi_sr, gi_sa, gi_sb, gi_sy, gl_si, gl_sl, gl_sz, gl_sr, gl_sa, gl_sb, gl_sy, gz_si, gz_sl, gz_sz, gz_sr, gz_sa, gz_sb, gz_sy, gr_si, gr_sl, gr_sz, gr_sr, gr_sa, gr_sb, gr_sy, ga_si, ga_sl, ga_sz, ga_sr, ga_sa, ga_sb, ga_sy, gb_si, gb_sl, gb_sz, gb_sr, gb_sa, gb_sb, gb_sy, gy_si, gy_sl, gy_sz, gy_sr, gy_sa, gy_sb, gy_sy, reduceIte, Nat.reduceEqDiff, and_true, true_and, and_self, false_and, and_false]
  (repeat' split) <;> simp_all
theorem si_self : si S c k j (gi S c k j) = S := by
  apply ST_ext <;> intros <;> simp only [gi_si, gi_sl, gi_sz, gi_sr, gi_sa, gi_sb, gi_sy, gl_si, gl_sl, gl_sz, gl_sr, gl_sa, gl_sb, gl_sy, gz_si, gz_sl, gz_sz, gz_sr, gz_sa, gz_sb, gz_sy, gr_si, gr_sl, gr_sz, gr_sr, gr_sa, gr_sb, gr_sy, ga_si, ga_sl, ga_sz, ga_sr, ga_sa, ga_sb, ga_sy, gb_si, gb_sl, gb_sz, gb_sr, gb_sa, gb_sb, gb_sy, gy_si, gy_sl, gy_sz, gy_sr, gy_sa, gy_sb, gy_sy, reduceIte, Nat.reduceEqDiff, and_true, true_and, and_self, false_and, and_false]
  (repeat' split) <;> simp_all
theorem sa_self : sa S c j (ga S c j) = S := by
  apply ST_ext <;> intros <;> simp only [gi_si, gi_sl, gi_sz, gi_sr, gi_sa, gi_sb, gi_sy, gl_si, gl_sl, gl_sz, gl_sr, gl_sa, gl_sb, gl_sy, gz_si, gz_sl, gz_sz, gz_sr, gz_sa, gz_sb, gz_sy, gr_si, gr_sl, gr_sz, gr_sr, gr_sa, gr_sb, gr_sy, ga_si, ga_sl, ga_sz, ga_sr, ga_sa, ga_sb, ga_sy, gb_si, gb_sl, gb_sz, gb_sr, gb_sa, gb_sb, gb_sy, gy_si, gy_sl, gy_sz, gy_sr, gy_sa, gy_sb, gy_sy, reduceIte, Nat.reduceEqDiff, and_true, true_and, and_self, false_and, and_false]
  (repeat' split) <;> simp_all
theorem sy_self : sy S c j (gy S c j) = S := by
  apply ST_ext <;> intros <;> simp only [gi_si, gi_sl, gi_sz, gi_sr, gi_sa, gi_sb, gi_sy, gl_si, gl_sl, gl_sz, gl_sr, gl_sa, gl_sb, gl_sy, gz_si, gz_sl, gz_sz, gz_sr, gz_sa, gz_sb, gz_sy, gr_si, gr_sl, gr_sz, gr_sr, gr_sa, gr_sb, gr_sy, ga_si, ga_sl, ga_sz, ga_sr, ga_sa, ga_sb, ga_sy, gb_si, gb_sl, gb_sz, gb_sr, gb_sa, gb_sb, gb_sy, gy_si, gy_sl, gy_sz, gy_sr, gy_sa, gy_sb, gy_sy, reduceIte, Nat.reduceEqDiff, and_true, true_and, and_self, false_and, and_false]
  (repeat' split) <;> simp_all
theorem sb_self : sb S c j (gb S c j) = S := by
  apply ST_ext <;> intros <;> simp only [gi_si, gi_sl, gi_sz, gi_sr, gi_sa, gi_sb, gi_sy, gl_si, gl_sl, gl_sz, gl_sr, gl_sa, gl_sb, gl_sy, gz_si, gz_sl, gz_sz, gz_sr, gz_sa, gz_sb, gz_sy, gr_si, gr_sl, gr_sz, gr_sr, gr_sa, gr_sb, gr_sy, ga_si, ga_sl, ga_sz, ga_sr, ga_sa, ga_sb, ga_sy, gb_si, gb_sl, gb_sz, gb_sr, gb_sa, gb_sb, gb_sy, gy_si, gy_sl, gy_sz, gy_sr, gy_sa, gy_sb, gy_sy, reduceIte, Nat.reduceEqDiff, and_true, true_and, and_self, false_and, and_false]
  (repeat' split) <;> simp_all
theorem sl_sl (x y : Int64) : sl (sl S c k j x) c k j y = sl S c k j y := by
  apply ST_ext <;> intros <;> simp only [gi_si, gi_sl, gi_sz, gi_sr, gi_sa, gi_sb, gi_sy, gl_si, gl_sl, gl_sz, gl_sr, gl_sa, gl_sb, gl_sy, gz_si, gz_sl, gz_sz, gz_sr, gz_sa, gz_sb, gz_sy, gr_si, gr_sl, gr_sz, gr_sr, gr_sa, gr_sb, gr_sy, ga_si, ga_sl, ga_sz, ga_sr, ga_sa, ga_sb, ga_sy, gb_si, gb_sl, gb_sz, gb_sr, gb_sa, gb_sb, gb_sy, gy_si, gy_sl, gy_sz, gy_sr, gy_sa, gy_sb, gy_sy, reduceIte, Nat.reduceEqDiff, and_true, true_and, and_self, false_and, and_false]
  (repeat' split) <;> simp_all
/-- what stands for a null -/
def MS : Int64 := -4611686018427387904
theorem MS_e : (-4611686018427387904 : Int64) = MS := rfl
/-- a value as the class holds it: null or a number -/
def hN (z : Bool) (x : Int32) : Int64 := if z = true then MS else x.toInt64
def eN (v : Nat → Int32) (m : Nat → Bool) : Nat → Int64 := fun i => hN (m i) (v i)
theorem hN_t (x : Int32) : hN true x = MS := rfl
theorem hN_f (x : Int32) : hN false x = x.toInt64 := rfl
theorem i64_ne (x : Int32) : ¬ x.toInt64 = MS := by
  intro e
  have h := congrArg Int64.toInt e
  rw [Int32.toInt_toInt64] at h
  have h1 := x.le_toInt
  have h2 : MS.toInt = -4611686018427387904 := by decide
  rw [h2] at h
  omega
theorem hN_eq (z : Bool) (x : Int32) : (hN z x = MS) = (z = true) := by
  cases z
  · simp only [hN_f, i64_ne, Bool.false_eq_true]
  · simp only [hN_t]
theorem i64_inj {x y : Int32} (h : x.toInt64 = y.toInt64) : x = y := by
  apply Int32.toInt_inj.mp
  have := congrArg Int64.toInt h
  rwa [Int32.toInt_toInt64, Int32.toInt_toInt64] at this
theorem eN_up (v : Nat → Int32) (m : Nat → Bool) (i : Nat) (x : Int32) (z : Bool) : eN (up1 v i x) (up1 m i z) = up1 (eN v m) i (hN z x) := by
  funext q
  simp only [eN, up1]
  split <;> rfl
theorem eN_at (v : Nat → Int32) (m : Nat → Bool) (i : Nat) : eN v m i = hN (m i) (v i) := rfl
/-- a table's values and what is missing -/
def tb (S : ST) (j : Nat) (v : Nat → Int32) (m : Nat → Bool) : ST := sb S 31 j (eN v m)
theorem tb_tb (v v' : Nat → Int32) (m m' : Nat → Bool) : tb (tb S j v m) j v' m' = tb S j v' m' := sb_sb ..
theorem tb_self (v : Nat → Int32) (m : Nat → Bool) (h : gb S 31 j = eN v m) : tb S j v m = S := by
  rw [tb, ← h]
  exact sb_self ..
end
theorem lc_lt (x y : Int64) : (lg_cmp x y < nI 0) = (x < y) := by
  unfold lg_cmp
  by_cases h1 : y < x
  · have : ¬ x < y := fun z => by rw [Int64.lt_iff_toInt_lt] at h1 z; omega
    simp only [gt_iff_lt, h1, if_true, this]; simp; decide
  · by_cases h2 : x = y
    · subst h2; simp [h1]; decide
    · have : x < y := by
        rw [Int64.lt_iff_toInt_lt] at h1 ⊢
        have h3 : ¬ x.toInt = y.toInt := fun e => h2 (Int64.toInt_inj.mp e)
        omega
      simp [h1, h2, this]; decide
theorem lc_gt (x y : Int64) : (nI 0 < lg_cmp x y) = (y < x) := by
  unfold lg_cmp
  by_cases h1 : y < x
  · simp [h1]; decide
  · by_cases h2 : x = y
    · subst h2; simp [h1]; decide
    · simp [h1, h2]; decide
theorem lc_le (x y : Int64) : (lg_cmp x y ≤ nI 0) = (¬ y < x) := by
  rw [← lc_gt]
  simp [Int32.not_lt]
theorem lc_ge (x y : Int64) : (nI 0 ≤ lg_cmp x y) = (¬ x < y) := by
  rw [← lc_lt]
  simp [Int32.not_lt]
theorem lc_eq (x y : Int64) : (lg_cmp x y = nI 0) = (x = y) := by
  unfold lg_cmp
  by_cases h1 : y < x
  · have : ¬ x = y := fun z => by subst z; rw [Int64.lt_iff_toInt_lt] at h1; omega
    simp [h1, this]; decide
  · by_cases h2 : x = y
    · subst h2; simp [h1]; decide
    · simp [h1, h2]; decide
theorem MS_i : MS.toInt = -4611686018427387904 := by decide
theorem i32_lo (x : Int32) : -2147483648 ≤ x.toInt := by have := x.le_toInt; simpa using this
theorem hN_lt (z z' : Bool) (x x' : Int32) : (hN z x < hN z' x') = ((if z = true then (-2147483649 : Int) else x.toInt) < (if z' = true then (-2147483649 : Int) else x'.toInt)) := by
  have h1 := i32_lo x
  have h2 := i32_lo x'
  rw [eq_iff_iff, Int64.lt_iff_toInt_lt]
  cases z <;> cases z' <;> simp only [hN_t, hN_f, MS_i, Int32.toInt_toInt64, Bool.false_eq_true, reduceIte] <;> omega
theorem hN_inj (z z' : Bool) (x x' : Int32) : (hN z x = hN z' x') = (z = z' ∧ (z' = true ∨ x = x')) := by
  rw [eq_iff_iff]
  cases z <;> cases z'
  · rw [hN_f, hN_f]
    simp only [Bool.false_eq_true, false_or, true_and]
    exact ⟨i64_inj, fun e => by rw [e]⟩
  · rw [hN_f, hN_t]
    simp [i64_ne]
  · rw [hN_f, hN_t]
    simp only [Bool.true_eq_false, false_and, iff_false]
    exact fun e => i64_ne x' e.symm
  · simp [hN_t]
-- Table: 7 5 name, 7 6 columns, 7 7 rows
section
variable (h j : Nat) (S : ST) (hj : j < 4)
theorem c_X7_ownName (hj : j < 4) : Ct MX7_ownName h [vR 7 j] S (fun r S' => r = some (vI (gi S 7 5 j)) ∧ S' = S) := by
  refine e_X7_ownName ?_
  repeat' (first | ((first | with_reducible refine b_X7_ownName_0 ?_) <;> (try simp only [o_al, o_get, t_ir, decide_true, decide_false, Bool.decide_eq_true, Bool.not_eq_false, Bool.not_eq_true, bft, btf, false_implies, true_implies, decide_eq_true_eq, decide_eq_false_iff_not, fv, st1, st2, kl, cat1, List.getElem?_cons_zero, List.getElem?_cons_succ, List.set_cons_zero, List.set_cons_succ, List.length_cons, List.length_nil, List.forall_mem_cons, List.not_mem_nil, Option.toList_some, Option.toList_none, List.cons_append, List.nil_append, and_true, true_and, and_self, reduceIte, Nat.reduceEqDiff, Nat.reduceLT, Nat.reduceAdd, Nat.lt_add_one, Nat.zero_lt_one, Nat.reduceLeDiff, false_and, and_false, forall_const, eq_self, not_true_eq_false, not_false_eq_true, implies_true, forall_eq, b2i_t, b2i_f, true_or, or_true, or_self, or_false, false_or, z01, z10, d10, d01, b2i_01, b2i_d, b2i_eq0, b2i_eq1, b2i_inj, Bool.true_eq_false, Bool.false_eq_true, gi_si, gi_sl, gi_sz, gi_sr, gi_sa, gi_sb, gi_sy, gl_si, gl_sl, gl_sz, gl_sr, gl_sa, gl_sb, gl_sy, gz_si, gz_sl, gz_sz, gz_sr, gz_sa, gz_sb, gz_sy, gr_si, gr_sl, gr_sz, gr_sr, gr_sa, gr_sb, gr_sy, ga_si, ga_sl, ga_sz, ga_sr, ga_sa, ga_sb, ga_sy, gb_si, gb_sl, gb_sz, gb_sr, gb_sa, gb_sb, gb_sy, gy_si, gy_sl, gy_sz, gy_sr, gy_sa, gy_sb, gy_sy, NI_7, LY_7, hj])) | ((with_reducible apply br_V) <;> intro hc) | ((with_reducible apply br_C) <;> try intro hc) | (with_reducible apply an_I) | (with_reducible apply an_V) | (with_reducible apply an_A))
theorem c_X7_setName (x : Int32) (hj : j < 4) : Ct MX7_setName h [vR 7 j, vI x] S (fun r S' => r = none ∧ S' = si S 7 5 j x) := by
  refine e_X7_setName ?_
  repeat' (first | ((first | with_reducible refine b_X7_setName_0 ?_) <;> (try simp only [o_al, o_il, o_puti, t_vr, decide_true, decide_false, Bool.decide_eq_true, Bool.not_eq_false, Bool.not_eq_true, bft, btf, false_implies, true_implies, decide_eq_true_eq, decide_eq_false_iff_not, fv, st1, st2, kl, cat1, List.getElem?_cons_zero, List.getElem?_cons_succ, List.set_cons_zero, List.set_cons_succ, List.length_cons, List.length_nil, List.forall_mem_cons, List.not_mem_nil, Option.toList_some, Option.toList_none, List.cons_append, List.nil_append, and_true, true_and, and_self, reduceIte, Nat.reduceEqDiff, Nat.reduceLT, Nat.reduceAdd, Nat.lt_add_one, Nat.zero_lt_one, Nat.reduceLeDiff, false_and, and_false, forall_const, eq_self, not_true_eq_false, not_false_eq_true, implies_true, forall_eq, b2i_t, b2i_f, true_or, or_true, or_self, or_false, false_or, z01, z10, d10, d01, b2i_01, b2i_d, b2i_eq0, b2i_eq1, b2i_inj, Bool.true_eq_false, Bool.false_eq_true, gi_si, gi_sl, gi_sz, gi_sr, gi_sa, gi_sb, gi_sy, gl_si, gl_sl, gl_sz, gl_sr, gl_sa, gl_sb, gl_sy, gz_si, gz_sl, gz_sz, gz_sr, gz_sa, gz_sb, gz_sy, gr_si, gr_sl, gr_sz, gr_sr, gr_sa, gr_sb, gr_sy, ga_si, ga_sl, ga_sz, ga_sr, ga_sa, ga_sb, ga_sy, gb_si, gb_sl, gb_sz, gb_sr, gb_sa, gb_sb, gb_sy, gy_si, gy_sl, gy_sz, gy_sr, gy_sa, gy_sb, gy_sy, NI_7, LY_7, hj])) | ((with_reducible apply br_V) <;> intro hc) | ((with_reducible apply br_C) <;> try intro hc) | (with_reducible apply an_I) | (with_reducible apply an_V) | (with_reducible apply an_A))
theorem c_X7_columnCount (hj : j < 4) : Ct MX7_columnCount h [vR 7 j] S (fun r S' => r = some (vI (gi S 7 6 j)) ∧ S' = S) := by
  refine e_X7_columnCount ?_
  repeat' (first | ((first | with_reducible refine b_X7_columnCount_0 ?_) <;> (try simp only [o_al, o_get, t_ir, decide_true, decide_false, Bool.decide_eq_true, Bool.not_eq_false, Bool.not_eq_true, bft, btf, false_implies, true_implies, decide_eq_true_eq, decide_eq_false_iff_not, fv, st1, st2, kl, cat1, List.getElem?_cons_zero, List.getElem?_cons_succ, List.set_cons_zero, List.set_cons_succ, List.length_cons, List.length_nil, List.forall_mem_cons, List.not_mem_nil, Option.toList_some, Option.toList_none, List.cons_append, List.nil_append, and_true, true_and, and_self, reduceIte, Nat.reduceEqDiff, Nat.reduceLT, Nat.reduceAdd, Nat.lt_add_one, Nat.zero_lt_one, Nat.reduceLeDiff, false_and, and_false, forall_const, eq_self, not_true_eq_false, not_false_eq_true, implies_true, forall_eq, b2i_t, b2i_f, true_or, or_true, or_self, or_false, false_or, z01, z10, d10, d01, b2i_01, b2i_d, b2i_eq0, b2i_eq1, b2i_inj, Bool.true_eq_false, Bool.false_eq_true, gi_si, gi_sl, gi_sz, gi_sr, gi_sa, gi_sb, gi_sy, gl_si, gl_sl, gl_sz, gl_sr, gl_sa, gl_sb, gl_sy, gz_si, gz_sl, gz_sz, gz_sr, gz_sa, gz_sb, gz_sy, gr_si, gr_sl, gr_sz, gr_sr, gr_sa, gr_sb, gr_sy, ga_si, ga_sl, ga_sz, ga_sr, ga_sa, ga_sb, ga_sy, gb_si, gb_sl, gb_sz, gb_sr, gb_sa, gb_sb, gb_sy, gy_si, gy_sl, gy_sz, gy_sr, gy_sa, gy_sb, gy_sy, NI_7, LY_7, hj])) | ((with_reducible apply br_V) <;> intro hc) | ((with_reducible apply br_C) <;> try intro hc) | (with_reducible apply an_I) | (with_reducible apply an_V) | (with_reducible apply an_A))
theorem c_X7_rowCount (hj : j < 4) : Ct MX7_rowCount h [vR 7 j] S (fun r S' => r = some (vI (gi S 7 7 j)) ∧ S' = S) := by
  refine e_X7_rowCount ?_
  repeat' (first | ((first | with_reducible refine b_X7_rowCount_0 ?_) <;> (try simp only [o_al, o_get, t_ir, decide_true, decide_false, Bool.decide_eq_true, Bool.not_eq_false, Bool.not_eq_true, bft, btf, false_implies, true_implies, decide_eq_true_eq, decide_eq_false_iff_not, fv, st1, st2, kl, cat1, List.getElem?_cons_zero, List.getElem?_cons_succ, List.set_cons_zero, List.set_cons_succ, List.length_cons, List.length_nil, List.forall_mem_cons, List.not_mem_nil, Option.toList_some, Option.toList_none, List.cons_append, List.nil_append, and_true, true_and, and_self, reduceIte, Nat.reduceEqDiff, Nat.reduceLT, Nat.reduceAdd, Nat.lt_add_one, Nat.zero_lt_one, Nat.reduceLeDiff, false_and, and_false, forall_const, eq_self, not_true_eq_false, not_false_eq_true, implies_true, forall_eq, b2i_t, b2i_f, true_or, or_true, or_self, or_false, false_or, z01, z10, d10, d01, b2i_01, b2i_d, b2i_eq0, b2i_eq1, b2i_inj, Bool.true_eq_false, Bool.false_eq_true, gi_si, gi_sl, gi_sz, gi_sr, gi_sa, gi_sb, gi_sy, gl_si, gl_sl, gl_sz, gl_sr, gl_sa, gl_sb, gl_sy, gz_si, gz_sl, gz_sz, gz_sr, gz_sa, gz_sb, gz_sy, gr_si, gr_sl, gr_sz, gr_sr, gr_sa, gr_sb, gr_sy, ga_si, ga_sl, ga_sz, ga_sr, ga_sa, ga_sb, ga_sy, gb_si, gb_sl, gb_sz, gb_sr, gb_sa, gb_sb, gb_sy, gy_si, gy_sl, gy_sz, gy_sr, gy_sa, gy_sb, gy_sy, NI_7, LY_7, hj])) | ((with_reducible apply br_V) <;> intro hc) | ((with_reducible apply br_C) <;> try intro hc) | (with_reducible apply an_I) | (with_reducible apply an_V) | (with_reducible apply an_A))
theorem c_X7_isFull (n : Nat) (hj : j < 4) (hr : gi S 7 7 j = nI n) (hn : n ≤ 24) : Ct MX7_isFull h [vR 7 j] S (fun r S' => r = some (vI (b2i (decide (n = 24)))) ∧ S' = S) := by
  refine e_X7_isFull ?_
  repeat' (first | ((first | with_reducible refine b_X7_isFull_0 ?_ | with_reducible refine b_X7_isFull_9 ?_ | with_reducible refine b_X7_isFull_13 ?_ | with_reducible refine b_X7_isFull_14 ?_) <;> (try simp only [o_al, o_c, o_get, t_2, t_zr, decide_true, decide_false, Bool.decide_eq_true, Bool.not_eq_false, Bool.not_eq_true, bft, btf, false_implies, true_implies, decide_eq_true_eq, decide_eq_false_iff_not, fv, st1, st2, kl, cat1, List.getElem?_cons_zero, List.getElem?_cons_succ, List.set_cons_zero, List.set_cons_succ, List.length_cons, List.length_nil, List.forall_mem_cons, List.not_mem_nil, Option.toList_some, Option.toList_none, List.cons_append, List.nil_append, and_true, true_and, and_self, reduceIte, Nat.reduceEqDiff, Nat.reduceLT, Nat.reduceAdd, Nat.lt_add_one, Nat.zero_lt_one, Nat.reduceLeDiff, false_and, and_false, forall_const, eq_self, not_true_eq_false, not_false_eq_true, implies_true, forall_eq, b2i_t, b2i_f, true_or, or_true, or_self, or_false, false_or, z01, z10, d10, d01, b2i_01, b2i_d, b2i_eq0, b2i_eq1, b2i_inj, Bool.true_eq_false, Bool.false_eq_true, gi_si, gi_sl, gi_sz, gi_sr, gi_sa, gi_sb, gi_sy, gl_si, gl_sl, gl_sz, gl_sr, gl_sa, gl_sb, gl_sy, gz_si, gz_sl, gz_sz, gz_sr, gz_sa, gz_sb, gz_sy, gr_si, gr_sl, gr_sz, gr_sr, gr_sa, gr_sb, gr_sy, ga_si, ga_sl, ga_sz, ga_sr, ga_sa, ga_sb, ga_sy, gb_si, gb_sl, gb_sz, gb_sr, gb_sa, gb_sb, gb_sy, gy_si, gy_sl, gy_sz, gy_sr, gy_sa, gy_sb, gy_sy, NI_7, LY_7, hj, hr])) | ((with_reducible apply br_V) <;> intro hc) | ((with_reducible apply br_C) <;> try intro hc) | (with_reducible apply an_I) | (with_reducible apply an_V) | (with_reducible apply an_A))
  all_goals (simp (disch := omega) only [nI_add, pk_mul, pk_sub, n_lt0, n_ge0, n_m1, n_m1', n_m1lt, n_eqE, n_leE, n_ltE, n_in, nI_clamp] at *)
  all_goals (first | (rw [show decide (n = 24) = true by simp; omega]; rfl) | (rw [show decide (n = 24) = false by simp; omega]; rfl))
/-- Table.has, of any numbers -/
theorem c_X7_has (x y : Int32) (n c : Nat) (hj : j < 4) (hr : gi S 7 7 j = nI n) (hc0 : gi S 7 6 j = nI c) : Ct MX7_has h [vR 7 j, vI x, vI y] S (fun r S' => r = some (vI (b2i (decide ((¬ x < nI 0 ∧ ¬ nI n ≤ x) ∧ ¬ y < nI 0 ∧ ¬ nI c ≤ y)))) ∧ S' = S) := by
  refine e_X7_has ?_
  repeat' (first | ((first | with_reducible refine b_X7_has_0 ?_ | with_reducible refine b_X7_has_4 ?_ | with_reducible refine b_X7_has_12 ?_ | with_reducible refine b_X7_has_16 ?_ | with_reducible refine b_X7_has_24 ?_ | with_reducible refine b_X7_has_28 ?_ | with_reducible refine b_X7_has_29 ?_) <;> (try simp only [o_al, o_c, o_get, o_il, t_1, t_2, t_zr, decide_true, decide_false, Bool.decide_eq_true, Bool.not_eq_false, Bool.not_eq_true, bft, btf, false_implies, true_implies, decide_eq_true_eq, decide_eq_false_iff_not, fv, st1, st2, kl, cat1, List.getElem?_cons_zero, List.getElem?_cons_succ, List.set_cons_zero, List.set_cons_succ, List.length_cons, List.length_nil, List.forall_mem_cons, List.not_mem_nil, Option.toList_some, Option.toList_none, List.cons_append, List.nil_append, and_true, true_and, and_self, reduceIte, Nat.reduceEqDiff, Nat.reduceLT, Nat.reduceAdd, Nat.lt_add_one, Nat.zero_lt_one, Nat.reduceLeDiff, false_and, and_false, forall_const, eq_self, not_true_eq_false, not_false_eq_true, implies_true, forall_eq, b2i_t, b2i_f, true_or, or_true, or_self, or_false, false_or, z01, z10, d10, d01, b2i_01, b2i_d, b2i_eq0, b2i_eq1, b2i_inj, Bool.true_eq_false, Bool.false_eq_true, gi_si, gi_sl, gi_sz, gi_sr, gi_sa, gi_sb, gi_sy, gl_si, gl_sl, gl_sz, gl_sr, gl_sa, gl_sb, gl_sy, gz_si, gz_sl, gz_sz, gz_sr, gz_sa, gz_sb, gz_sy, gr_si, gr_sl, gr_sz, gr_sr, gr_sa, gr_sb, gr_sy, ga_si, ga_sl, ga_sz, ga_sr, ga_sa, ga_sb, ga_sy, gb_si, gb_sl, gb_sz, gb_sr, gb_sa, gb_sb, gb_sy, gy_si, gy_sl, gy_sz, gy_sr, gy_sa, gy_sb, gy_sy, NI_7, LY_7, hj, hr, hc0])) | ((with_reducible apply br_V) <;> intro hc) | ((with_reducible apply br_C) <;> try intro hc) | (with_reducible apply an_I) | (with_reducible apply an_V) | (with_reducible apply an_A))
  all_goals simp [*, b2i]
theorem c_hasIn (n c a b : Nat) (hj : j < 4) (hr : gi S 7 7 j = nI n) (hc0 : gi S 7 6 j = nI c) (hn : n ≤ 24) (hc : c ≤ 4) (ha : a < n) (hb : b < c) : Ct MX7_has h [vR 7 j, vI (nI a), vI (nI b)] S (fun r S' => r = some (vI (nI 1)) ∧ S' = S) := by
  refine Ct_mono (c_X7_has h j S (nI a) (nI b) n c hj hr hc0) ?_
  rintro r S' ⟨rfl, rfl⟩
  refine ⟨?_, rfl⟩
  simp (disch := omega) only [nI_add, pk_mul, pk_sub, n_lt0, n_ge0, n_m1, n_m1', n_m1lt, n_eqE, n_leE, n_ltE, n_in, nI_clamp]
  simp [b2i]
  omega
theorem c_X7_heldAt (n c a b : Nat) (hj : j < 4) (hr : gi S 7 7 j = nI n) (hc0 : gi S 7 6 j = nI c) (hn : n ≤ 24) (hc : c ≤ 4) (ha : a < n) (hb : b < c) : Ct MX7_heldAt (h + 1) [vR 7 j, vI (nI a), vI (nI b)] S (fun r S' => r = some (vL (gb S 31 j (a * 4 + b))) ∧ S' = S) := by
  refine e_X7_heldAt ?_
  repeat' (first | ((first | with_reducible refine b_X7_heldAt_0 ?_ | ((with_reducible refine k_X7_heldAt_3 (c_hasIn _ _ _ _ _ _ _ (by assumption) (by assumption) (by assumption) (by omega) (by omega) (by omega) (by omega)) ?_ (by first | decide | assumption | (simp only [NI]; omega)) (Nat.le_of_ble_eq_true rfl)); rintro r S' ⟨rfl, rfl⟩) | with_reducible refine b_X7_heldAt_6 ?_ | with_reducible refine b_X7_heldAt_9 ?_ | with_reducible refine b_X7_heldAt_22 ?_ | with_reducible refine b_X7_heldAt_25 ?_) <;> (try simp only [o_al, o_c, o_get, o_iadd, o_il, o_imul, o_lald, o_lc, t_1, t_lr, decide_true, decide_false, Bool.decide_eq_true, Bool.not_eq_false, Bool.not_eq_true, bft, btf, false_implies, true_implies, decide_eq_true_eq, decide_eq_false_iff_not, fv, st1, st2, kl, cat1, List.getElem?_cons_zero, List.getElem?_cons_succ, List.set_cons_zero, List.set_cons_succ, List.length_cons, List.length_nil, List.forall_mem_cons, List.not_mem_nil, Option.toList_some, Option.toList_none, List.cons_append, List.nil_append, and_true, true_and, and_self, reduceIte, Nat.reduceEqDiff, Nat.reduceLT, Nat.reduceAdd, Nat.lt_add_one, Nat.zero_lt_one, Nat.reduceLeDiff, false_and, and_false, forall_const, eq_self, not_true_eq_false, not_false_eq_true, implies_true, forall_eq, b2i_t, b2i_f, true_or, or_true, or_self, or_false, false_or, z01, z10, d10, d01, b2i_01, b2i_d, b2i_eq0, b2i_eq1, b2i_inj, Bool.true_eq_false, Bool.false_eq_true, gi_si, gi_sl, gi_sz, gi_sr, gi_sa, gi_sb, gi_sy, gl_si, gl_sl, gl_sz, gl_sr, gl_sa, gl_sb, gl_sy, gz_si, gz_sl, gz_sz, gz_sr, gz_sa, gz_sb, gz_sy, gr_si, gr_sl, gr_sz, gr_sr, gr_sa, gr_sb, gr_sy, ga_si, ga_sl, ga_sz, ga_sr, ga_sa, ga_sb, ga_sy, gb_si, gb_sl, gb_sz, gb_sr, gb_sa, gb_sb, gb_sy, gy_si, gy_sl, gy_sz, gy_sr, gy_sa, gy_sb, gy_sy, NI_7, NI_31, LY_7, LY_31, hj, hr, hc0, pk_mul, nI_add])) | ((with_reducible apply br_V) <;> intro hc) | ((with_reducible apply br_C) <;> try intro hc) | (with_reducible apply an_I) | (with_reducible apply an_V) | (with_reducible apply an_A))
  all_goals (try simp (disch := omega) only [nI_add, pk_mul, pk_sub, n_lt0, n_ge0, n_m1, n_m1', n_m1lt, n_eqE, n_leE, n_ltE, n_in, nI_clamp] at *) <;> (try (first | omega | exact vp_in_nI (by omega) (by omega) | rfl | (split <;> first | rfl | omega | (simp_all; done) | (simp_all <;> omega)) | (simp_all; done) | (simp_all <;> omega)))
theorem c_X7_typeOf (c b : Nat) (hj : j < 4) (hc0 : gi S 7 6 j = nI c) (hc : c ≤ 4) (hb : b < c) : Ct MX7_typeOf h [vR 7 j, vI (nI b)] S (fun r S' => r = some (vI (ga S 30 j b)) ∧ S' = S) := by
  refine e_X7_typeOf ?_
  repeat' (first | ((first | with_reducible refine b_X7_typeOf_0 ?_ | with_reducible refine b_X7_typeOf_4 ?_ | with_reducible refine b_X7_typeOf_12 ?_ | with_reducible refine b_X7_typeOf_21 ?_ | with_reducible refine b_X7_typeOf_22 ?_) <;> (try simp only [o_al, o_c, o_get, o_iald, o_il, t_1, t_2, t_ir, decide_true, decide_false, Bool.decide_eq_true, Bool.not_eq_false, Bool.not_eq_true, bft, btf, false_implies, true_implies, decide_eq_true_eq, decide_eq_false_iff_not, fv, st1, st2, kl, cat1, List.getElem?_cons_zero, List.getElem?_cons_succ, List.set_cons_zero, List.set_cons_succ, List.length_cons, List.length_nil, List.forall_mem_cons, List.not_mem_nil, Option.toList_some, Option.toList_none, List.cons_append, List.nil_append, and_true, true_and, and_self, reduceIte, Nat.reduceEqDiff, Nat.reduceLT, Nat.reduceAdd, Nat.lt_add_one, Nat.zero_lt_one, Nat.reduceLeDiff, false_and, and_false, forall_const, eq_self, not_true_eq_false, not_false_eq_true, implies_true, forall_eq, b2i_t, b2i_f, true_or, or_true, or_self, or_false, false_or, z01, z10, d10, d01, b2i_01, b2i_d, b2i_eq0, b2i_eq1, b2i_inj, Bool.true_eq_false, Bool.false_eq_true, gi_si, gi_sl, gi_sz, gi_sr, gi_sa, gi_sb, gi_sy, gl_si, gl_sl, gl_sz, gl_sr, gl_sa, gl_sb, gl_sy, gz_si, gz_sl, gz_sz, gz_sr, gz_sa, gz_sb, gz_sy, gr_si, gr_sl, gr_sz, gr_sr, gr_sa, gr_sb, gr_sy, ga_si, ga_sl, ga_sz, ga_sr, ga_sa, ga_sb, ga_sy, gb_si, gb_sl, gb_sz, gb_sr, gb_sa, gb_sb, gb_sy, gy_si, gy_sl, gy_sz, gy_sr, gy_sa, gy_sb, gy_sy, NI_7, NI_30, LY_7, LY_30, hj, hc0])) | ((with_reducible apply br_V) <;> intro hc) | ((with_reducible apply br_C) <;> try intro hc) | (with_reducible apply an_I) | (with_reducible apply an_V) | (with_reducible apply an_A))
  all_goals (try simp (disch := omega) only [nI_add, pk_mul, pk_sub, n_lt0, n_ge0, n_m1, n_m1', n_m1lt, n_eqE, n_leE, n_ltE, n_in, nI_clamp] at *) <;> (try (first | omega | exact vp_in_nI (by omega) (by omega) | rfl | (split <;> first | rfl | omega | (simp_all; done) | (simp_all <;> omega)) | (simp_all; done) | (simp_all <;> omega)))
theorem c_X7_addColumn (x y : Int32) (c : Nat) (hj : j < 4) (hc0 : gi S 7 6 j = nI c) (hc : c < 4) : Ct MX7_addColumn h [vR 7 j, vI x, vI y] S (fun r S' => r = none ∧ S' = si (sa (sa S 29 j (up1 (ga S 29 j) c x)) 30 j (up1 (ga S 30 j) c y)) 7 6 j (nI (c + 1))) := by
  refine e_X7_addColumn ?_
  repeat' (first | ((first | with_reducible refine b_X7_addColumn_0 ?_ | with_reducible refine b_X7_addColumn_8 ?_ | with_reducible refine b_X7_addColumn_38 ?_) <;> (try simp only [o_al, o_c, o_dup, o_get, o_iadd, o_iast, o_il, o_puti, t_2, t_vr, decide_true, decide_false, Bool.decide_eq_true, Bool.not_eq_false, Bool.not_eq_true, bft, btf, false_implies, true_implies, decide_eq_true_eq, decide_eq_false_iff_not, fv, st1, st2, kl, cat1, List.getElem?_cons_zero, List.getElem?_cons_succ, List.set_cons_zero, List.set_cons_succ, List.length_cons, List.length_nil, List.forall_mem_cons, List.not_mem_nil, Option.toList_some, Option.toList_none, List.cons_append, List.nil_append, and_true, true_and, and_self, reduceIte, Nat.reduceEqDiff, Nat.reduceLT, Nat.reduceAdd, Nat.lt_add_one, Nat.zero_lt_one, Nat.reduceLeDiff, false_and, and_false, forall_const, eq_self, not_true_eq_false, not_false_eq_true, implies_true, forall_eq, b2i_t, b2i_f, true_or, or_true, or_self, or_false, false_or, z01, z10, d10, d01, b2i_01, b2i_d, b2i_eq0, b2i_eq1, b2i_inj, Bool.true_eq_false, Bool.false_eq_true, gi_si, gi_sl, gi_sz, gi_sr, gi_sa, gi_sb, gi_sy, gl_si, gl_sl, gl_sz, gl_sr, gl_sa, gl_sb, gl_sy, gz_si, gz_sl, gz_sz, gz_sr, gz_sa, gz_sb, gz_sy, gr_si, gr_sl, gr_sz, gr_sr, gr_sa, gr_sb, gr_sy, ga_si, ga_sl, ga_sz, ga_sr, ga_sa, ga_sb, ga_sy, gb_si, gb_sl, gb_sz, gb_sr, gb_sa, gb_sb, gb_sy, gy_si, gy_sl, gy_sz, gy_sr, gy_sa, gy_sb, gy_sy, NI_7, NI_29, NI_30, LY_7, LY_29, LY_30, hj, hc0])) | ((with_reducible apply br_V) <;> intro hc) | ((with_reducible apply br_C) <;> try intro hc) | (with_reducible apply an_I) | (with_reducible apply an_V) | (with_reducible apply an_A))
  all_goals (try simp (disch := omega) only [nI_add, pk_mul, pk_sub, n_lt0, n_ge0, n_m1, n_m1', n_m1lt, n_eqE, n_leE, n_ltE, n_in, nI_clamp] at *) <;> (try (first | omega | exact vp_in_nI (by omega) (by omega) | rfl | (split <;> first | rfl | omega | (simp_all; done) | (simp_all <;> omega)) | (simp_all; done) | (simp_all <;> omega)))
theorem c_X7_append (n : Nat) (hj : j < 4) (hr : gi S 7 7 j = nI n) (hn : n < 24) : Ct MX7_append h [vR 7 j] S (fun r S' => r = none ∧ S' = si S 7 7 j (nI (n + 1))) := by
  refine e_X7_append ?_
  repeat' (first | ((first | with_reducible refine b_X7_append_0 ?_ | with_reducible refine b_X7_append_9 ?_ | with_reducible refine b_X7_append_19 ?_) <;> (try simp only [o_al, o_c, o_dup, o_get, o_iadd, o_puti, t_2, t_vr, decide_true, decide_false, Bool.decide_eq_true, Bool.not_eq_false, Bool.not_eq_true, bft, btf, false_implies, true_implies, decide_eq_true_eq, decide_eq_false_iff_not, fv, st1, st2, kl, cat1, List.getElem?_cons_zero, List.getElem?_cons_succ, List.set_cons_zero, List.set_cons_succ, List.length_cons, List.length_nil, List.forall_mem_cons, List.not_mem_nil, Option.toList_some, Option.toList_none, List.cons_append, List.nil_append, and_true, true_and, and_self, reduceIte, Nat.reduceEqDiff, Nat.reduceLT, Nat.reduceAdd, Nat.lt_add_one, Nat.zero_lt_one, Nat.reduceLeDiff, false_and, and_false, forall_const, eq_self, not_true_eq_false, not_false_eq_true, implies_true, forall_eq, b2i_t, b2i_f, true_or, or_true, or_self, or_false, false_or, z01, z10, d10, d01, b2i_01, b2i_d, b2i_eq0, b2i_eq1, b2i_inj, Bool.true_eq_false, Bool.false_eq_true, gi_si, gi_sl, gi_sz, gi_sr, gi_sa, gi_sb, gi_sy, gl_si, gl_sl, gl_sz, gl_sr, gl_sa, gl_sb, gl_sy, gz_si, gz_sl, gz_sz, gz_sr, gz_sa, gz_sb, gz_sy, gr_si, gr_sl, gr_sz, gr_sr, gr_sa, gr_sb, gr_sy, ga_si, ga_sl, ga_sz, ga_sr, ga_sa, ga_sb, ga_sy, gb_si, gb_sl, gb_sz, gb_sr, gb_sa, gb_sb, gb_sy, gy_si, gy_sl, gy_sz, gy_sr, gy_sa, gy_sb, gy_sy, NI_7, LY_7, hj, hr, nI_add])) | ((with_reducible apply br_V) <;> intro hc) | ((with_reducible apply br_C) <;> try intro hc) | (with_reducible apply an_I) | (with_reducible apply an_V) | (with_reducible apply an_A))
  all_goals (try simp (disch := omega) only [nI_add, pk_mul, pk_sub, n_lt0, n_ge0, n_m1, n_m1', n_m1lt, n_eqE, n_leE, n_ltE, n_in, nI_clamp] at *) <;> (try (first | omega | exact vp_in_nI (by omega) (by omega) | rfl | (split <;> first | rfl | omega | (simp_all; done) | (simp_all <;> omega)) | (simp_all; done) | (simp_all <;> omega)))
theorem c_X7_mark (a n : Nat) (x : Int64) (hj : j < 4) (hr : gi S 7 7 j = nI n) (hn : n ≤ 24) (ha : a < n) : Ct MX7_mark h [vR 7 j, vI (nI a), vL x] S (fun r S' => r = none ∧ S' = sb (sy S 33 j (up1 (gy S 33 j) a true)) 34 j (up1 (gb S 34 j) a x)) := by
  refine e_X7_mark ?_
  repeat' (first | ((first | with_reducible refine b_X7_mark_0 ?_ | with_reducible refine b_X7_mark_4 ?_ | with_reducible refine b_X7_mark_12 ?_ | with_reducible refine b_X7_mark_26 ?_) <;> (try simp only [o_al, o_c, o_get, o_il, o_last, o_ll, o_zast, t_1, t_2, t_vr, decide_true, decide_false, Bool.decide_eq_true, Bool.not_eq_false, Bool.not_eq_true, bft, btf, false_implies, true_implies, decide_eq_true_eq, decide_eq_false_iff_not, fv, st1, st2, kl, cat1, List.getElem?_cons_zero, List.getElem?_cons_succ, List.set_cons_zero, List.set_cons_succ, List.length_cons, List.length_nil, List.forall_mem_cons, List.not_mem_nil, Option.toList_some, Option.toList_none, List.cons_append, List.nil_append, and_true, true_and, and_self, reduceIte, Nat.reduceEqDiff, Nat.reduceLT, Nat.reduceAdd, Nat.lt_add_one, Nat.zero_lt_one, Nat.reduceLeDiff, false_and, and_false, forall_const, eq_self, not_true_eq_false, not_false_eq_true, implies_true, forall_eq, b2i_t, b2i_f, true_or, or_true, or_self, or_false, false_or, z01, z10, d10, d01, b2i_01, b2i_d, b2i_eq0, b2i_eq1, b2i_inj, Bool.true_eq_false, Bool.false_eq_true, gi_si, gi_sl, gi_sz, gi_sr, gi_sa, gi_sb, gi_sy, gl_si, gl_sl, gl_sz, gl_sr, gl_sa, gl_sb, gl_sy, gz_si, gz_sl, gz_sz, gz_sr, gz_sa, gz_sb, gz_sy, gr_si, gr_sl, gr_sz, gr_sr, gr_sa, gr_sb, gr_sy, ga_si, ga_sl, ga_sz, ga_sr, ga_sa, ga_sb, ga_sy, gb_si, gb_sl, gb_sz, gb_sr, gb_sa, gb_sb, gb_sy, gy_si, gy_sl, gy_sz, gy_sr, gy_sa, gy_sb, gy_sy, NI_7, NI_33, NI_34, LY_7, LY_33, LY_34, hj, hr])) | ((with_reducible apply br_V) <;> intro hc) | ((with_reducible apply br_C) <;> try intro hc) | (with_reducible apply an_I) | (with_reducible apply an_V) | (with_reducible apply an_A))
  all_goals (try simp (disch := omega) only [nI_add, pk_mul, pk_sub, n_lt0, n_ge0, n_m1, n_m1', n_m1lt, n_eqE, n_leE, n_ltE, n_in, nI_clamp] at *) <;> (try (first | omega | exact vp_in_nI (by omega) (by omega) | rfl | (split <;> first | rfl | omega | (simp_all; done) | (simp_all <;> omega)) | (simp_all; done) | (simp_all <;> omega)))
end
