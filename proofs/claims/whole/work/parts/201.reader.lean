-- the words of a text (kind, content), as the class holds them
def TokIs (S : ST) (T : List (Int32 × Int32)) : Prop := gi S 9 2 0 = nI T.length ∧ T.length ≤ 200 ∧ ∀ i, i < T.length → ga S 37 0 i = (T.getD i (nI 0, nI 0)).1 ∧ ga S 38 0 i = (T.getD i (nI 0, nI 0)).2
def kd (T : List (Int32 × Int32)) (n : Nat) : Int32 := (T.getD n (nI 0, nI 0)).1
def ct (T : List (Int32 × Int32)) (n : Nat) : Int32 := (T.getD n (nI 0, nI 0)).2
theorem kd_out {T : List (Int32 × Int32)} {n : Nat} (h : T.length ≤ n) : kd T n = nI 0 := by simp [kd, List.getD, List.getElem?_eq_none h]
theorem ct_out {T : List (Int32 × Int32)} {n : Nat} (h : T.length ≤ n) : ct T n = nI 0 := by simp [ct, List.getD, List.getElem?_eq_none h]
theorem kd_lt {T : List (Int32 × Int32)} {n : Nat} {k : Int32} (h : kd T n = k) (hk : k ≠ nI 0) : n < T.length := by
  rcases Nat.lt_or_ge n T.length with q | q
  · exact q
  · exact absurd (h.symm.trans (kd_out q)) hk
theorem c_kindAt {S : ST} {T : List (Int32 × Int32)} (hT : TokIs S T) (h n : Nat) (hn : n < 2 ^ 31) : Ct MX9_kindAt h [vR 9 0, vI (nI n)] S (fun r S' => r = some (vI (kd T n)) ∧ S' = S) := by
  have e : (if n < T.length then ga S 37 0 n else nI 0) = kd T n := by
    split
    · exact (hT.2.2 n ‹_›).1
    · exact (kd_out (by omega)).symm
  have := c_X9_kindAt h S n T.length hT.1 hT.2.1 hn
  rw [e] at this
  exact this
theorem c_contentAt {S : ST} {T : List (Int32 × Int32)} (hT : TokIs S T) (h n : Nat) (hn : n < 2 ^ 31) : Ct MX9_contentAt h [vR 9 0, vI (nI n)] S (fun r S' => r = some (vI (ct T n)) ∧ S' = S) := by
  have e : (if n < T.length then ga S 38 0 n else nI 0) = ct T n := by
    split
    · exact (hT.2.2 n ‹_›).2
    · exact (ct_out (by omega)).symm
  have := c_X9_contentAt h S n T.length hT.1 hT.2.1 hn
  rw [e] at this
  exact this
/-- the reader's moving parts: where it is (at), and the draft -/
def dr (S : ST) (a : Nat) (g1 g2 : Nat → Int32) (n : Nat) : ST := si (sa (sa (si S 4 2 0 (nI a)) 13 0 g1) 14 0 g2) 1 2 0 (nI n)
def CL (g1 g2 : Nat → Int32) (ws : List (Int32 × Int32)) : Prop := ∀ i, i < ws.length → g1 i = (ws.getD i (nI 0, nI 0)).1 ∧ g2 i = (ws.getD i (nI 0, nI 0)).2
section
variable (S : ST) (a a' n n' : Nat) (g1 g2 g1' g2' : Nat → Int32)
theorem dr_at : gi (dr S a g1 g2 n) 4 2 0 = nI a := by simp only [dr, gi_si, gi_sl, gi_sz, gi_sr, gi_sa, gi_sb, gi_sy, gl_si, gl_sl, gl_sz, gl_sr, gl_sa, gl_sb, gl_sy, gz_si, gz_sl, gz_sz, gz_sr, gz_sa, gz_sb, gz_sy, gr_si, gr_sl, gr_sz, gr_sr, gr_sa, gr_sb, gr_sy, ga_si, ga_sl, ga_sz, ga_sr, ga_sa, ga_sb, ga_sy, gb_si, gb_sl, gb_sz, gb_sr, gb_sa, gb_sb, gb_sy, gy_si, gy_sl, gy_sz, gy_sr, gy_sa, gy_sb, gy_sy, reduceIte, Nat.reduceEqDiff, and_true, true_and, and_self, false_and, and_false]
theorem dr_n : gi (dr S a g1 g2 n) 1 2 0 = nI n := by simp only [dr, gi_si, gi_sl, gi_sz, gi_sr, gi_sa, gi_sb, gi_sy, gl_si, gl_sl, gl_sz, gl_sr, gl_sa, gl_sb, gl_sy, gz_si, gz_sl, gz_sz, gz_sr, gz_sa, gz_sb, gz_sy, gr_si, gr_sl, gr_sz, gr_sr, gr_sa, gr_sb, gr_sy, ga_si, ga_sl, ga_sz, ga_sr, ga_sa, ga_sb, ga_sy, gb_si, gb_sl, gb_sz, gb_sr, gb_sa, gb_sb, gb_sy, gy_si, gy_sl, gy_sz, gy_sr, gy_sa, gy_sb, gy_sy, reduceIte, Nat.reduceEqDiff, and_true, true_and, and_self, false_and, and_false]
theorem dr_sat : si (dr S a g1 g2 n) 4 2 0 (nI a') = dr S a' g1 g2 n := by
  apply ST_ext <;> intros <;> simp only [dr, gi_si, gi_sl, gi_sz, gi_sr, gi_sa, gi_sb, gi_sy, gl_si, gl_sl, gl_sz, gl_sr, gl_sa, gl_sb, gl_sy, gz_si, gz_sl, gz_sz, gz_sr, gz_sa, gz_sb, gz_sy, gr_si, gr_sl, gr_sz, gr_sr, gr_sa, gr_sb, gr_sy, ga_si, ga_sl, ga_sz, ga_sr, ga_sa, ga_sb, ga_sy, gb_si, gb_sl, gb_sz, gb_sr, gb_sa, gb_sb, gb_sy, gy_si, gy_sl, gy_sz, gy_sr, gy_sa, gy_sb, gy_sy, reduceIte, Nat.reduceEqDiff, and_true, true_and, and_self, false_and, and_false]
  (repeat' split) <;> simp_all
theorem dr_dr : dr (dr S a g1 g2 n) a' g1' g2' n' = dr S a' g1' g2' n' := by
  apply ST_ext <;> intros <;> simp only [dr, gi_si, gi_sl, gi_sz, gi_sr, gi_sa, gi_sb, gi_sy, gl_si, gl_sl, gl_sz, gl_sr, gl_sa, gl_sb, gl_sy, gz_si, gz_sl, gz_sz, gz_sr, gz_sa, gz_sb, gz_sy, gr_si, gr_sl, gr_sz, gr_sr, gr_sa, gr_sb, gr_sy, ga_si, ga_sl, ga_sz, ga_sr, ga_sa, ga_sb, ga_sy, gb_si, gb_sl, gb_sz, gb_sr, gb_sa, gb_sb, gb_sy, gy_si, gy_sl, gy_sz, gy_sr, gy_sa, gy_sb, gy_sy, reduceIte, Nat.reduceEqDiff, and_true, true_and, and_self, false_and, and_false]
  · (repeat' split) <;> simp_all
  · (repeat' split) <;> simp_all
theorem dr_put (x y : Int32) : si (sa (sa (dr S a g1 g2 n) 13 0 (up1 (ga (dr S a g1 g2 n) 13 0) n x)) 14 0 (up1 (ga (dr S a g1 g2 n) 14 0) n y)) 1 2 0 (nI (n + 1)) = dr S a (up1 g1 n x) (up1 g2 n y) (n + 1) := by
  apply ST_ext <;> intros <;> simp only [dr, gi_si, gi_sl, gi_sz, gi_sr, gi_sa, gi_sb, gi_sy, gl_si, gl_sl, gl_sz, gl_sr, gl_sa, gl_sb, gl_sy, gz_si, gz_sl, gz_sz, gz_sr, gz_sa, gz_sb, gz_sy, gr_si, gr_sl, gr_sz, gr_sr, gr_sa, gr_sb, gr_sy, ga_si, ga_sl, ga_sz, ga_sr, ga_sa, ga_sb, ga_sy, gb_si, gb_sl, gb_sz, gb_sr, gb_sa, gb_sb, gb_sy, gy_si, gy_sl, gy_sz, gy_sr, gy_sa, gy_sb, gy_sy, reduceIte, Nat.reduceEqDiff, and_true, true_and, and_self, false_and, and_false]
  · (repeat' split) <;> simp_all
  · (repeat' split) <;> simp_all
end
theorem TokIs_dr {S : ST} {T : List (Int32 × Int32)} {a n : Nat} {g1 g2 : Nat → Int32} (h : TokIs S T) : TokIs (dr S a g1 g2 n) T := by
  unfold TokIs at h ⊢
  simp only [dr, gi_si, gi_sl, gi_sz, gi_sr, gi_sa, gi_sb, gi_sy, gl_si, gl_sl, gl_sz, gl_sr, gl_sa, gl_sb, gl_sy, gz_si, gz_sl, gz_sz, gz_sr, gz_sa, gz_sb, gz_sy, gr_si, gr_sl, gr_sz, gr_sr, gr_sa, gr_sb, gr_sy, ga_si, ga_sl, ga_sz, ga_sr, ga_sa, ga_sb, ga_sy, gb_si, gb_sl, gb_sz, gb_sr, gb_sa, gb_sb, gb_sy, gy_si, gy_sl, gy_sz, gy_sr, gy_sa, gy_sb, gy_sy, reduceIte, Nat.reduceEqDiff, and_true, true_and, and_self, false_and, and_false]
  exact h
/-- a word behind the draft's last one -/
def adw (ws : List (Int32 × Int32)) (w : Int32 × Int32) : List (Int32 × Int32) := if ws.length < 256 then ws ++ [w] else ws
theorem CL_up {g1 g2 : Nat → Int32} {ws : List (Int32 × Int32)} (h : CL g1 g2 ws) (x y : Int32) : CL (up1 g1 ws.length x) (up1 g2 ws.length y) (ws ++ [(x, y)]) := by
  intro i hi
  simp only [List.length_append, List.length_cons, List.length_nil] at hi
  by_cases hq : i = ws.length
  · subst hq
    simp [up1]
  · have hl : i < ws.length := by omega
    have := h i hl
    simp only [up1, if_neg hq]
    rw [this.1, this.2]
    simp [List.getD, List.getElem?_append_left hl]
theorem Ct_mono {M : MD} {h : Nat} {As : List AV} {S : ST} {Q Q2 : Option AV → ST → Prop} (hC : Ct M h As S Q) (hq : ∀ r S', Q r S' → Q2 r S') : Ct M h As S Q2 := by
  intro l D ad cA hi p e a1 a2 a3 s m args below hf ha hP hK
  obtain ⟨n, o, h1, h2, h3, ⟨r, S', e1, e2, e3⟩, h4⟩ := hC l D ad cA hi p e a1 a2 a3 s m args below hf ha hP hK
  exact ⟨n, o, h1, h2, h3, ⟨r, S', e1, hq _ _ e2, e3⟩, h4⟩
theorem c_dradd {S : ST} {a : Nat} {g1 g2 : Nat → Int32} {ws : List (Int32 × Int32)} (hcl : CL g1 g2 ws) (hw : ws.length ≤ 256) (h : Nat) (x y : Int32) : Ct MX1_add h [vR 1 0, vI x, vI y] (dr S a g1 g2 ws.length) (fun r S' => ∃ g1' g2' : Nat → Int32, r = none ∧ S' = dr S a g1' g2' (adw ws (x, y)).length ∧ CL g1' g2' (adw ws (x, y)) ∧ (adw ws (x, y)).length ≤ 256) := by
  refine Ct_mono (c_X1_add h 0 (dr S a g1 g2 ws.length) x y ws.length (by decide) (dr_n ..) hw) ?_
  rintro r S' ⟨rfl, rfl⟩
  unfold adw
  split
  · refine ⟨_, _, rfl, ?_, CL_up hcl x y, by simp; omega⟩
    rw [dr_put]
    simp
  · exact ⟨g1, g2, rfl, rfl, hcl, hw⟩
theorem c_drend {S : ST} {a n : Nat} {g1 g2 : Nat → Int32} (h : Nat) : Ct MX1_end h [vR 1 0] (dr S a g1 g2 n) (fun r S' => r = some (vI (nI n)) ∧ S' = dr S a g1 g2 n) := by
  refine Ct_mono (c_X1_end h 0 _ (by decide)) ?_
  rintro r S' ⟨rfl, rfl⟩
  exact ⟨by rw [dr_n], rfl⟩
theorem kd_up {T : List (Int32 × Int32)} {a : Nat} {k : Int32} (h : kd T a = k) (hk : k ≠ nI 0) : a + 1 ≤ T.length := kd_lt h hk
theorem c_isNext {S : ST} {T : List (Int32 × Int32)} (hT : TokIs S T) {a n : Nat} {g1 g2 : Nat → Int32} (ha : a ≤ 1000) (h : Nat) (k : Int32) (hk : k ≠ nI 0) : Ct MX4_isNext (h + 1) [vR 4 0, vI k] (dr S a g1 g2 n) (fun r S' => (kd T a = k ∧ a + 1 ≤ T.length ∧ r = some (vI (nI 1)) ∧ S' = dr S a g1 g2 n) ∨ (¬ kd T a = k ∧ r = some (vI (nI 0)) ∧ S' = dr S a g1 g2 n)) := by
  have hkd := @kd_up T a k
  refine e_X4_isNext ?_
  repeat' (first | ((first | with_reducible refine b_X4_isNext_0 ?_ | ((with_reducible refine k_X4_isNext_8 (c_kindAt (by first | assumption | (apply TokIs_dr; assumption)) _ _ (by omega)) ?_ (by first | decide | assumption | (simp only [NI]; omega)) (Nat.le_of_ble_eq_true rfl)); rintro r S' ⟨rfl, rfl⟩) | with_reducible refine b_X4_isNext_11 ?_ | with_reducible refine b_X4_isNext_15 ?_ | with_reducible refine b_X4_isNext_19 ?_ | with_reducible refine b_X4_isNext_20 ?_) <;> (try simp only [o_al, o_c, o_get, o_il, t_2, t_zr, decide_true, decide_false, Bool.decide_eq_true, Bool.not_eq_false, Bool.not_eq_true, bft, btf, false_implies, true_implies, decide_eq_true_eq, decide_eq_false_iff_not, fv, st1, st2, kl, cat1, List.getElem?_cons_zero, List.getElem?_cons_succ, List.set_cons_zero, List.set_cons_succ, List.length_cons, List.length_nil, List.forall_mem_cons, List.not_mem_nil, Option.toList_some, Option.toList_none, List.cons_append, List.nil_append, and_true, true_and, and_self, reduceIte, Nat.reduceEqDiff, Nat.reduceLT, Nat.reduceAdd, Nat.lt_add_one, Nat.zero_lt_one, Nat.reduceLeDiff, false_and, and_false, forall_const, eq_self, not_true_eq_false, not_false_eq_true, implies_true, forall_eq, b2i_t, b2i_f, true_or, or_true, or_self, or_false, false_or, z01, z10, d10, d01, b2i_01, b2i_d, b2i_eq0, b2i_eq1, b2i_inj, Bool.true_eq_false, Bool.false_eq_true, gi_si, gi_sl, gi_sz, gi_sr, gi_sa, gi_sb, gi_sy, gl_si, gl_sl, gl_sz, gl_sr, gl_sa, gl_sb, gl_sy, gz_si, gz_sl, gz_sz, gz_sr, gz_sa, gz_sb, gz_sy, gr_si, gr_sl, gr_sz, gr_sr, gr_sa, gr_sb, gr_sy, ga_si, ga_sl, ga_sz, ga_sr, ga_sa, ga_sb, ga_sy, gb_si, gb_sl, gb_sz, gb_sr, gb_sa, gb_sb, gb_sy, gy_si, gy_sl, gy_sz, gy_sr, gy_sa, gy_sb, gy_sy, NI_4, NI_9, LY_4, LY_9, dr_at])) | ((with_reducible apply br_V) <;> intro hc) | ((with_reducible apply br_C) <;> try intro hc) | (with_reducible apply an_I) | (with_reducible apply an_V) | (with_reducible apply an_A))
  all_goals (try simp (disch := omega) only [nI_add, pk_mul, pk_sub, n_lt0, n_ge0, n_m1, n_m1', n_m1lt, n_eqE, n_leE, n_ltE, n_in, nI_clamp] at *) <;> (try (first | omega | exact vp_in_nI (by omega) (by omega) | rfl | (split <;> first | rfl | omega | (simp_all; done) | (simp_all <;> omega)) | (simp_all; done) | (simp_all <;> omega)))
theorem c_take {S : ST} {T : List (Int32 × Int32)} (hT : TokIs S T) {a n : Nat} {g1 g2 : Nat → Int32} (ha : a ≤ 1000) (h : Nat) (k : Int32) (hk : k ≠ nI 0) : Ct MX4_take (h + 1) [vR 4 0, vI k] (dr S a g1 g2 n) (fun r S' => (kd T a = k ∧ a + 1 ≤ T.length ∧ r = some (vI (nI 1)) ∧ S' = dr S (a + 1) g1 g2 n) ∨ (¬ kd T a = k ∧ r = some (vI (nI 0)) ∧ S' = dr S a g1 g2 n)) := by
  have hkd := @kd_up T a k
  refine e_X4_take ?_
  repeat' (first | ((first | with_reducible refine b_X4_take_0 ?_ | ((with_reducible refine k_X4_take_8 (c_kindAt (by first | assumption | (apply TokIs_dr; assumption)) _ _ (by omega)) ?_ (by first | decide | assumption | (simp only [NI]; omega)) (Nat.le_of_ble_eq_true rfl)); rintro r S' ⟨rfl, rfl⟩) | with_reducible refine b_X4_take_11 ?_ | with_reducible refine b_X4_take_15 ?_ | with_reducible refine b_X4_take_17 ?_) <;> (try simp only [o_al, o_c, o_dup, o_get, o_iadd, o_il, o_puti, t_2, t_zr, decide_true, decide_false, Bool.decide_eq_true, Bool.not_eq_false, Bool.not_eq_true, bft, btf, false_implies, true_implies, decide_eq_true_eq, decide_eq_false_iff_not, fv, st1, st2, kl, cat1, List.getElem?_cons_zero, List.getElem?_cons_succ, List.set_cons_zero, List.set_cons_succ, List.length_cons, List.length_nil, List.forall_mem_cons, List.not_mem_nil, Option.toList_some, Option.toList_none, List.cons_append, List.nil_append, and_true, true_and, and_self, reduceIte, Nat.reduceEqDiff, Nat.reduceLT, Nat.reduceAdd, Nat.lt_add_one, Nat.zero_lt_one, Nat.reduceLeDiff, false_and, and_false, forall_const, eq_self, not_true_eq_false, not_false_eq_true, implies_true, forall_eq, b2i_t, b2i_f, true_or, or_true, or_self, or_false, false_or, z01, z10, d10, d01, b2i_01, b2i_d, b2i_eq0, b2i_eq1, b2i_inj, Bool.true_eq_false, Bool.false_eq_true, gi_si, gi_sl, gi_sz, gi_sr, gi_sa, gi_sb, gi_sy, gl_si, gl_sl, gl_sz, gl_sr, gl_sa, gl_sb, gl_sy, gz_si, gz_sl, gz_sz, gz_sr, gz_sa, gz_sb, gz_sy, gr_si, gr_sl, gr_sz, gr_sr, gr_sa, gr_sb, gr_sy, ga_si, ga_sl, ga_sz, ga_sr, ga_sa, ga_sb, ga_sy, gb_si, gb_sl, gb_sz, gb_sr, gb_sa, gb_sb, gb_sy, gy_si, gy_sl, gy_sz, gy_sr, gy_sa, gy_sb, gy_sy, NI_4, NI_9, LY_4, LY_9, dr_at, nI_add, dr_sat])) | ((with_reducible apply br_V) <;> intro hc) | ((with_reducible apply br_C) <;> try intro hc) | (with_reducible apply an_I) | (with_reducible apply an_V) | (with_reducible apply an_A))
  all_goals (try simp (disch := omega) only [nI_add, pk_mul, pk_sub, n_lt0, n_ge0, n_m1, n_m1', n_m1lt, n_eqE, n_leE, n_ltE, n_in, nI_clamp] at *) <;> (try (first | omega | exact vp_in_nI (by omega) (by omega) | rfl | (split <;> first | rfl | omega | (simp_all; done) | (simp_all <;> omega)) | (simp_all; done) | (simp_all <;> omega)))
