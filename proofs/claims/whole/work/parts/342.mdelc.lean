-- deps: 341
-- the model: delete, the rows that stay
theorem nI_sub {a b : Nat} (h : b ≤ a) : nI a - nI b = nI (a - b) := by
  have e : nI a = nI (a - b) + nI b := by rw [nI_add]; congr 1; omega
  rw [e, Int32.add_sub_cancel]
def cpA {α : Type} (a b : Nat) : Nat → Nat → (Nat → α) → (Nat → α)
  | 0, _, g => g
  | n + 1, i, g => cpA a b n (i + 1) (up1 g (b + i) (g (a + i)))
theorem cpA_s {α : Type} {a b : Nat} (hab : b + 4 ≤ a ∨ a = b) : ∀ (n i : Nat) (g : Nat → α), i + n ≤ 4 → ∀ j, cpA a b n i g j = if b + i ≤ j ∧ j < b + i + n then g (a + (j - b)) else g j := by
  intro n
  induction n with
  | zero => intro i g _ j; rw [cpA, if_neg (by omega)]
  | succ n ih =>
    intro i g hi j
    rw [cpA, ih (i + 1) _ (by omega) j]
    by_cases q : b + (i + 1) ≤ j ∧ j < b + (i + 1) + n
    · rw [if_pos q, if_pos (by omega)]
      simp only [up1, show ¬ a + (j - b) = b + i by omega, reduceIte]
    · rw [if_neg q]
      by_cases q2 : j = b + i
      · subst q2
        rw [if_pos (by omega)]
        simp only [up1, reduceIte]
        rw [show a + i = a + (b + i - b) by omega]
      · rw [if_neg (by omega)]
        simp only [up1, q2, reduceIte]
theorem mv_s {frm to : Nat} (hft : to ≤ frm) : ∀ (n i : Nat) (v : Nat → Int32) (m : Nat → Bool), i + n ≤ 4 → ∀ j, (mvV v m frm to n i).1 j = (if to * 4 + i ≤ j ∧ j < to * 4 + i + n then nrm (m (frm * 4 + (j - to * 4))) (v (frm * 4 + (j - to * 4))) else v j) ∧ (mvV v m frm to n i).2 j = (if to * 4 + i ≤ j ∧ j < to * 4 + i + n then m (frm * 4 + (j - to * 4)) else m j) := by
  intro n
  induction n with
  | zero => intro i v m _ j; rw [mvV, if_neg (by omega), if_neg (by omega)]; exact ⟨rfl, rfl⟩
  | succ n ih =>
    intro i v m hi j
    rw [mvV]
    have := ih (i + 1) (up1 v (to * 4 + i) (nrm (m (frm * 4 + i)) (v (frm * 4 + i)))) (up1 m (to * 4 + i) (m (frm * 4 + i))) (by omega) j
    rw [this.1, this.2]
    by_cases q : to * 4 + (i + 1) ≤ j ∧ j < to * 4 + (i + 1) + n
    · rw [if_pos q, if_pos q, if_pos (show to * 4 + i ≤ j ∧ j < to * 4 + i + (n + 1) by omega), if_pos (show to * 4 + i ≤ j ∧ j < to * 4 + i + (n + 1) by omega)]
      simp only [up1, show ¬ frm * 4 + (j - to * 4) = to * 4 + i by omega, reduceIte, and_self]
    · rw [if_neg q, if_neg q]
      by_cases q2 : j = to * 4 + i
      · subst q2
        rw [if_pos (by omega), if_pos (by omega)]
        simp only [up1, reduceIte]
        rw [show to * 4 + i - to * 4 = i by omega]
        exact ⟨rfl, rfl⟩
      · rw [if_neg (by omega), if_neg (by omega)]
        simp only [up1, q2, reduceIte, and_self]
/-- the model's cells of table t are these -/
def Re (t n K : Nat) (g5 : Nat → Int32) (g6 : Nat → Bool) (v : Nat → Int32) (m : Nat → Bool) : Prop := ∀ q, q < n → ∀ c, c < K → g5 (96 * t + 4 * q + c) = v (q * 4 + c) ∧ g6 (96 * t + 4 * q + c) = m (q * 4 + c)
def IV (n K : Nat) (v : Nat → Int32) (m : Nat → Bool) : Prop := ∀ q, q < n → ∀ c, c < K → m (q * 4 + c) = true → v (q * 4 + c) = nI 0
def Ou (t : Nat) (g5 : Nat → Int32) (g6 : Nat → Bool) (h5 : Nat → Int32) (h6 : Nat → Bool) : Prop := ∀ j, j < 96 * t ∨ 96 * t + 96 ≤ j → g5 j = h5 j ∧ g6 j = h6 j
theorem nrm_IV {z : Bool} {x : Int32} (h : z = true → x = nI 0) : nrm z x = x := by
  unfold nrm
  by_cases q : z = true
  · rw [if_pos q, h q]
  · rw [if_neg q]
theorem Re_mv {t n K i to : Nat} {g5 : Nat → Int32} {g6 : Nat → Bool} {v : Nat → Int32} {m : Nat → Bool} (hR : Re t n K g5 g6 v m) (hI : IV n K v m) (hi : i < n) (hto : to ≤ i) (hK : K ≤ 4) : Re t n K (cpA (96 * t + 4 * i) (96 * t + 4 * to) 4 0 g5) (cpA (96 * t + 4 * i) (96 * t + 4 * to) 4 0 g6) (mvV v m i to K 0).1 (mvV v m i to K 0).2 ∧ IV n K (mvV v m i to K 0).1 (mvV v m i to K 0).2 := by
  have hab : 96 * t + 4 * to + 4 ≤ 96 * t + 4 * i ∨ 96 * t + 4 * i = 96 * t + 4 * to := by omega
  constructor
  · intro q hq c hc
    have hm := mv_s hto K 0 v m (by omega) (q * 4 + c)
    rw [cpA_s hab 4 0 g5 (by omega), cpA_s hab 4 0 g6 (by omega), hm.1, hm.2]
    by_cases e : q = to
    · subst e
      rw [if_pos (by omega), if_pos (by omega), if_pos (by omega), if_pos (by omega)]
      rw [show 96 * t + 4 * i + (96 * t + 4 * q + c - (96 * t + 4 * q)) = 96 * t + 4 * i + c by omega, show i * 4 + (q * 4 + c - q * 4) = i * 4 + c by omega]
      rw [nrm_IV (hI i hi c hc)]
      exact hR i hi c hc
    · rw [if_neg (by omega), if_neg (by omega), if_neg (by omega), if_neg (by omega)]
      exact hR q hq c hc
  · intro q hq c hc hz
    have hm := mv_s hto K 0 v m (by omega) (q * 4 + c)
    rw [hm.1]
    rw [hm.2] at hz
    by_cases e : q = to
    · subst e
      rw [if_pos (by omega)] at hz ⊢
      rw [show i * 4 + (q * 4 + c - q * 4) = i * 4 + c by omega] at hz ⊢
      rw [nrm_IV (hI i hi c hc)]
      exact hI i hi c hc hz
    · rw [if_neg (by omega)] at hz ⊢
      exact hI q hq c hc hz
theorem Ou_cp {t i to : Nat} {g5 h5 : Nat → Int32} {g6 h6 : Nat → Bool} (hto : to ≤ i) (hi : i < 24) (h : Ou t g5 g6 h5 h6) : Ou t (cpA (96 * t + 4 * i) (96 * t + 4 * to) 4 0 g5) (cpA (96 * t + 4 * i) (96 * t + 4 * to) 4 0 g6) h5 h6 := by
  have hab : 96 * t + 4 * to + 4 ≤ 96 * t + 4 * i ∨ 96 * t + 4 * i = 96 * t + 4 * to := by omega
  intro j hj
  rw [cpA_s hab 4 0 g5 (by omega), cpA_s hab 4 0 g6 (by omega), if_neg (by omega), if_neg (by omega)]
  exact h j hj
section
variable (h : Nat) (X : ST) (t : Nat) (k : Int32) (ht : t < 4) (Q : Option AV → ST → Prop)
/-- one row goes up -/
theorem m_deI (ht : t < 4) (to r : Nat) (hto : to ≤ r) (hr : r < 24) : ∀ n c g5 g6, c + n = 4 → V MX11_delete (h + 225) 216 [some (vR 11 0), some (vI k), some (vI (nI t)), some (vI (nI to)), some (vI (nI r)), some (vI (nI 4))] [] (wN X (cpA (96 * t + 4 * r) (96 * t + 4 * to) n c g5) (cpA (96 * t + 4 * r) (96 * t + 4 * to) n c g6)) Q → V MX11_delete (h + 225) 138 [some (vR 11 0), some (vI k), some (vI (nI t)), some (vI (nI to)), some (vI (nI r)), some (vI (nI c))] [] (wN X g5 g6) Q := by
  intro n
  induction n with
  | zero =>
    intro c g5 g6 hc R
    have e : c = 4 := by omega
    subst e
    have c1 : nI 4 ≤ nI 4 := Int32.le_refl _
    (with_reducible refine b_X11_delete_138 ?_); simp only [o_al, o_c, o_get, o_iadd, o_iald, o_iast, o_il, o_imul, o_inc, o_is, o_isub, o_last, o_puti, o_zald, o_zast, t_1, t_2, t_ir, decide_true, decide_false, Bool.decide_eq_true, Bool.not_eq_false, Bool.not_eq_true, bft, btf, false_implies, true_implies, decide_eq_true_eq, decide_eq_false_iff_not, fv, st1, st2, kl, cat1, List.getElem?_cons_zero, List.getElem?_cons_succ, List.set_cons_zero, List.set_cons_succ, List.length_cons, List.length_nil, List.forall_mem_cons, List.not_mem_nil, Option.toList_some, Option.toList_none, List.cons_append, List.nil_append, and_true, true_and, and_self, reduceIte, Nat.reduceEqDiff, Nat.reduceLT, Nat.reduceAdd, Nat.lt_add_one, Nat.zero_lt_one, Nat.reduceLeDiff, false_and, and_false, forall_const, eq_self, not_true_eq_false, not_false_eq_true, implies_true, forall_eq, b2i_t, b2i_f, true_or, or_true, or_self, or_false, false_or, z01, z10, d10, d01, b2i_01, b2i_d, b2i_eq0, b2i_eq1, b2i_inj, Bool.true_eq_false, Bool.false_eq_true, gi_si, gi_sl, gi_sz, gi_sr, gi_sa, gi_sb, gi_sy, gl_si, gl_sl, gl_sz, gl_sr, gl_sa, gl_sb, gl_sy, gz_si, gz_sl, gz_sz, gz_sr, gz_sa, gz_sb, gz_sy, gr_si, gr_sl, gr_sz, gr_sr, gr_sa, gr_sb, gr_sy, ga_si, ga_sl, ga_sz, ga_sr, ga_sa, ga_sb, ga_sy, gb_si, gb_sl, gb_sz, gb_sr, gb_sa, gb_sb, gb_sy, gy_si, gy_sl, gy_sz, gy_sr, gy_sa, gy_sb, gy_sy, NI_11, NI_54, NI_55, NI_56, NI_57, NI_58, NI_59, NI_69, LY_11, LY_54, LY_55, LY_56, LY_57, LY_58, LY_59, LY_69, c1]
    all_goals exact R
  | succ n ih =>
    intro c g5 g6 hc R
    have c1 : ¬ nI 4 ≤ nI c := nI_ge (by omega) (by omega)
    have ea : nI 96 * nI t + nI 4 * nI r + nI c = nI (96 * t + 4 * r + c) := by rw [pk_mul, pk_mul, nI_add, nI_add]
    have eb : nI 96 * nI t + nI 4 * nI to + nI c = nI (96 * t + 4 * to + c) := by rw [pk_mul, pk_mul, nI_add, nI_add]
    have ia : vp_in (nI (96 * t + 4 * r + c)) 384 := vp_in_nI (by omega) (by decide)
    have ka : (nI (96 * t + 4 * r + c)).toNatClampNeg = 96 * t + 4 * r + c := nI_clamp (by omega)
    have ib : vp_in (nI (96 * t + 4 * to + c)) 384 := vp_in_nI (by omega) (by decide)
    have kb : (nI (96 * t + 4 * to + c)).toNatClampNeg = 96 * t + 4 * to + c := nI_clamp (by omega)
    rw [cpA, cpA] at R
    have := ih (c + 1) _ _ (by omega) R
    (with_reducible refine b_X11_delete_138 ?_); simp only [o_al, o_c, o_get, o_iadd, o_iald, o_iast, o_il, o_imul, o_inc, o_is, o_isub, o_last, o_puti, o_zald, o_zast, t_1, t_2, t_ir, decide_true, decide_false, Bool.decide_eq_true, Bool.not_eq_false, Bool.not_eq_true, bft, btf, false_implies, true_implies, decide_eq_true_eq, decide_eq_false_iff_not, fv, st1, st2, kl, cat1, List.getElem?_cons_zero, List.getElem?_cons_succ, List.set_cons_zero, List.set_cons_succ, List.length_cons, List.length_nil, List.forall_mem_cons, List.not_mem_nil, Option.toList_some, Option.toList_none, List.cons_append, List.nil_append, and_true, true_and, and_self, reduceIte, Nat.reduceEqDiff, Nat.reduceLT, Nat.reduceAdd, Nat.lt_add_one, Nat.zero_lt_one, Nat.reduceLeDiff, false_and, and_false, forall_const, eq_self, not_true_eq_false, not_false_eq_true, implies_true, forall_eq, b2i_t, b2i_f, true_or, or_true, or_self, or_false, false_or, z01, z10, d10, d01, b2i_01, b2i_d, b2i_eq0, b2i_eq1, b2i_inj, Bool.true_eq_false, Bool.false_eq_true, gi_si, gi_sl, gi_sz, gi_sr, gi_sa, gi_sb, gi_sy, gl_si, gl_sl, gl_sz, gl_sr, gl_sa, gl_sb, gl_sy, gz_si, gz_sl, gz_sz, gz_sr, gz_sa, gz_sb, gz_sy, gr_si, gr_sl, gr_sz, gr_sr, gr_sa, gr_sb, gr_sy, ga_si, ga_sl, ga_sz, ga_sr, ga_sa, ga_sb, ga_sy, gb_si, gb_sl, gb_sz, gb_sr, gb_sa, gb_sb, gb_sy, gy_si, gy_sl, gy_sz, gy_sr, gy_sa, gy_sb, gy_sy, NI_11, NI_54, NI_55, NI_56, NI_57, NI_58, NI_59, NI_69, LY_11, LY_54, LY_55, LY_56, LY_57, LY_58, LY_59, LY_69, c1]
    cases hz : g6 (96 * t + 4 * r + c) with
    | true =>
      rw [hz] at this
      repeat' (first | ((first | with_reducible refine b_X11_delete_0 ?_ | with_reducible refine b_X11_delete_11 ?_ | with_reducible refine b_X11_delete_21 ?_ | with_reducible refine b_X11_delete_26 ?_ | with_reducible refine b_X11_delete_29 ?_ | with_reducible refine b_X11_delete_31 ?_ | with_reducible refine b_X11_delete_35 ?_ | with_reducible refine b_X11_delete_39 ?_ | with_reducible refine b_X11_delete_44 ?_ | with_reducible refine b_X11_delete_45 ?_ | with_reducible refine b_X11_delete_50 ?_ | with_reducible refine b_X11_delete_59 ?_ | with_reducible refine b_X11_delete_66 ?_ | with_reducible refine b_X11_delete_76 ?_ | with_reducible refine b_X11_delete_93 ?_ | with_reducible refine b_X11_delete_100 ?_ | with_reducible refine b_X11_delete_107 ?_ | with_reducible refine b_X11_delete_109 ?_ | with_reducible refine b_X11_delete_114 ?_ | with_reducible refine b_X11_delete_125 ?_ | with_reducible refine b_X11_delete_135 ?_ | with_reducible refine b_X11_delete_144 ?_ | with_reducible refine b_X11_delete_216 ?_ | with_reducible refine b_X11_delete_219 ?_ | with_reducible refine b_X11_delete_225 ?_) <;> (try simp only [o_al, o_c, o_get, o_iadd, o_iald, o_iast, o_il, o_imul, o_inc, o_is, o_isub, o_last, o_puti, o_zald, o_zast, t_1, t_2, t_ir, decide_true, decide_false, Bool.decide_eq_true, Bool.not_eq_false, Bool.not_eq_true, bft, btf, false_implies, true_implies, decide_eq_true_eq, decide_eq_false_iff_not, fv, st1, st2, kl, cat1, List.getElem?_cons_zero, List.getElem?_cons_succ, List.set_cons_zero, List.set_cons_succ, List.length_cons, List.length_nil, List.forall_mem_cons, List.not_mem_nil, Option.toList_some, Option.toList_none, List.cons_append, List.nil_append, and_true, true_and, and_self, reduceIte, Nat.reduceEqDiff, Nat.reduceLT, Nat.reduceAdd, Nat.lt_add_one, Nat.zero_lt_one, Nat.reduceLeDiff, false_and, and_false, forall_const, eq_self, not_true_eq_false, not_false_eq_true, implies_true, forall_eq, b2i_t, b2i_f, true_or, or_true, or_self, or_false, false_or, z01, z10, d10, d01, b2i_01, b2i_d, b2i_eq0, b2i_eq1, b2i_inj, Bool.true_eq_false, Bool.false_eq_true, gi_si, gi_sl, gi_sz, gi_sr, gi_sa, gi_sb, gi_sy, gl_si, gl_sl, gl_sz, gl_sr, gl_sa, gl_sb, gl_sy, gz_si, gz_sl, gz_sz, gz_sr, gz_sa, gz_sb, gz_sy, gr_si, gr_sl, gr_sz, gr_sr, gr_sa, gr_sb, gr_sy, ga_si, ga_sl, ga_sz, ga_sr, ga_sa, ga_sb, ga_sy, gb_si, gb_sl, gb_sz, gb_sr, gb_sa, gb_sb, gb_sy, gy_si, gy_sl, gy_sz, gy_sr, gy_sa, gy_sb, gy_sy, NI_11, NI_54, NI_55, NI_56, NI_57, NI_58, NI_59, NI_69, LY_11, LY_54, LY_55, LY_56, LY_57, LY_58, LY_59, LY_69, wN_55, wN_56, wN_s5, wN_s6, ea, eb, ia, ka, ib, kb, hz, nI_add, b2i])) | ((with_reducible apply br_V) <;> intro hc) | ((with_reducible apply br_C) <;> try intro hc) | (with_reducible apply an_I) | (with_reducible apply an_V) | (with_reducible apply an_A))
      all_goals exact this
    | false =>
      rw [hz] at this
      repeat' (first | ((first | with_reducible refine b_X11_delete_0 ?_ | with_reducible refine b_X11_delete_11 ?_ | with_reducible refine b_X11_delete_21 ?_ | with_reducible refine b_X11_delete_26 ?_ | with_reducible refine b_X11_delete_29 ?_ | with_reducible refine b_X11_delete_31 ?_ | with_reducible refine b_X11_delete_35 ?_ | with_reducible refine b_X11_delete_39 ?_ | with_reducible refine b_X11_delete_44 ?_ | with_reducible refine b_X11_delete_45 ?_ | with_reducible refine b_X11_delete_50 ?_ | with_reducible refine b_X11_delete_59 ?_ | with_reducible refine b_X11_delete_66 ?_ | with_reducible refine b_X11_delete_76 ?_ | with_reducible refine b_X11_delete_93 ?_ | with_reducible refine b_X11_delete_100 ?_ | with_reducible refine b_X11_delete_107 ?_ | with_reducible refine b_X11_delete_109 ?_ | with_reducible refine b_X11_delete_114 ?_ | with_reducible refine b_X11_delete_125 ?_ | with_reducible refine b_X11_delete_135 ?_ | with_reducible refine b_X11_delete_144 ?_ | with_reducible refine b_X11_delete_216 ?_ | with_reducible refine b_X11_delete_219 ?_ | with_reducible refine b_X11_delete_225 ?_) <;> (try simp only [o_al, o_c, o_get, o_iadd, o_iald, o_iast, o_il, o_imul, o_inc, o_is, o_isub, o_last, o_puti, o_zald, o_zast, t_1, t_2, t_ir, decide_true, decide_false, Bool.decide_eq_true, Bool.not_eq_false, Bool.not_eq_true, bft, btf, false_implies, true_implies, decide_eq_true_eq, decide_eq_false_iff_not, fv, st1, st2, kl, cat1, List.getElem?_cons_zero, List.getElem?_cons_succ, List.set_cons_zero, List.set_cons_succ, List.length_cons, List.length_nil, List.forall_mem_cons, List.not_mem_nil, Option.toList_some, Option.toList_none, List.cons_append, List.nil_append, and_true, true_and, and_self, reduceIte, Nat.reduceEqDiff, Nat.reduceLT, Nat.reduceAdd, Nat.lt_add_one, Nat.zero_lt_one, Nat.reduceLeDiff, false_and, and_false, forall_const, eq_self, not_true_eq_false, not_false_eq_true, implies_true, forall_eq, b2i_t, b2i_f, true_or, or_true, or_self, or_false, false_or, z01, z10, d10, d01, b2i_01, b2i_d, b2i_eq0, b2i_eq1, b2i_inj, Bool.true_eq_false, Bool.false_eq_true, gi_si, gi_sl, gi_sz, gi_sr, gi_sa, gi_sb, gi_sy, gl_si, gl_sl, gl_sz, gl_sr, gl_sa, gl_sb, gl_sy, gz_si, gz_sl, gz_sz, gz_sr, gz_sa, gz_sb, gz_sy, gr_si, gr_sl, gr_sz, gr_sr, gr_sa, gr_sb, gr_sy, ga_si, ga_sl, ga_sz, ga_sr, ga_sa, ga_sb, ga_sy, gb_si, gb_sl, gb_sz, gb_sr, gb_sa, gb_sb, gb_sy, gy_si, gy_sl, gy_sz, gy_sr, gy_sa, gy_sb, gy_sy, NI_11, NI_54, NI_55, NI_56, NI_57, NI_58, NI_59, NI_69, LY_11, LY_54, LY_55, LY_56, LY_57, LY_58, LY_59, LY_69, wN_55, wN_56, wN_s5, wN_s6, ea, eb, ia, ka, ib, kb, hz, nI_add, b2i])) | ((with_reducible apply br_V) <;> intro hc) | ((with_reducible apply br_C) <;> try intro hc) | (with_reducible apply an_I) | (with_reducible apply an_V) | (with_reducible apply an_A))
      all_goals exact this
/-- all rows -/
theorem m_deM (ht : t < 4) (N K : Nat) (hN : N ≤ 24) (hK : K ≤ 4) (mk : Nat → Bool) (h5 : Nat → Int32) (h6 : Nat → Bool) (h5' : Nat → Int32) (h6' : Nat → Bool) (h54 : ga X 54 0 t = nI N) (h69 : ∀ i, i < N → gy X 69 0 i = mk i) (R : ∀ g5 g6 (v : Nat → Int32) (m : Nat → Bool) to, to ≤ N → Re t N K g5 g6 v m → IV N K v m → Ou t g5 g6 h5 h6 → drpV mk K N 0 0 h5' h6' = (v, m, to) → Q (some (vI (nI (N - to)))) (sa (wN X g5 g6) 54 0 (up1 (ga X 54 0) t (nI to)))) : ∀ n i to g5 g6 v m o5, i + n = N → to ≤ i → Re t N K g5 g6 v m → IV N K v m → Ou t g5 g6 h5 h6 → drpV mk K N 0 0 h5' h6' = drpV mk K n i to v m → V MX11_delete (h + 225) 114 [some (vR 11 0), some (vI k), some (vI (nI t)), some (vI (nI to)), some (vI (nI i)), o5] [] (wN X g5 g6) Q := by
  have it : vp_in (nI t) 4 := vp_in_nI (by omega) (by decide)
  have kt : (nI t).toNatClampNeg = t := nI_clamp (by omega)
  have w54 : ∀ g5 g6, ga (wN X g5 g6) 54 0 = ga X 54 0 := fun g5 g6 => wN_54 ..
  have w69 : ∀ g5 g6, gy (wN X g5 g6) 69 0 = gy X 69 0 := fun g5 g6 => by simp only [wN, gi_si, gi_sl, gi_sz, gi_sr, gi_sa, gi_sb, gi_sy, gl_si, gl_sl, gl_sz, gl_sr, gl_sa, gl_sb, gl_sy, gz_si, gz_sl, gz_sz, gz_sr, gz_sa, gz_sb, gz_sy, gr_si, gr_sl, gr_sz, gr_sr, gr_sa, gr_sb, gr_sy, ga_si, ga_sl, ga_sz, ga_sr, ga_sa, ga_sb, ga_sy, gb_si, gb_sl, gb_sz, gb_sr, gb_sa, gb_sb, gb_sy, gy_si, gy_sl, gy_sz, gy_sr, gy_sa, gy_sb, gy_sy, reduceIte, Nat.reduceEqDiff, and_true, true_and, and_self, false_and, and_false]
  intro n
  induction n with
  | zero =>
    intro i to g5 g6 v m o5 hi hto hR hI hO hd
    have e : i = N := by omega
    subst e
    have c1 : nI i ≤ nI i := Int32.le_refl _
    have es : nI i - nI to = nI (i - to) := nI_sub hto
    have := R g5 g6 v m to hto hR hI hO hd
    (with_reducible refine b_X11_delete_114 ?_); simp only [o_al, o_c, o_get, o_iadd, o_iald, o_iast, o_il, o_imul, o_inc, o_is, o_isub, o_last, o_puti, o_zald, o_zast, t_1, t_2, t_ir, decide_true, decide_false, Bool.decide_eq_true, Bool.not_eq_false, Bool.not_eq_true, bft, btf, false_implies, true_implies, decide_eq_true_eq, decide_eq_false_iff_not, fv, st1, st2, kl, cat1, List.getElem?_cons_zero, List.getElem?_cons_succ, List.set_cons_zero, List.set_cons_succ, List.length_cons, List.length_nil, List.forall_mem_cons, List.not_mem_nil, Option.toList_some, Option.toList_none, List.cons_append, List.nil_append, and_true, true_and, and_self, reduceIte, Nat.reduceEqDiff, Nat.reduceLT, Nat.reduceAdd, Nat.lt_add_one, Nat.zero_lt_one, Nat.reduceLeDiff, false_and, and_false, forall_const, eq_self, not_true_eq_false, not_false_eq_true, implies_true, forall_eq, b2i_t, b2i_f, true_or, or_true, or_self, or_false, false_or, z01, z10, d10, d01, b2i_01, b2i_d, b2i_eq0, b2i_eq1, b2i_inj, Bool.true_eq_false, Bool.false_eq_true, gi_si, gi_sl, gi_sz, gi_sr, gi_sa, gi_sb, gi_sy, gl_si, gl_sl, gl_sz, gl_sr, gl_sa, gl_sb, gl_sy, gz_si, gz_sl, gz_sz, gz_sr, gz_sa, gz_sb, gz_sy, gr_si, gr_sl, gr_sz, gr_sr, gr_sa, gr_sb, gr_sy, ga_si, ga_sl, ga_sz, ga_sr, ga_sa, ga_sb, ga_sy, gb_si, gb_sl, gb_sz, gb_sr, gb_sa, gb_sb, gb_sy, gy_si, gy_sl, gy_sz, gy_sr, gy_sa, gy_sb, gy_sy, NI_11, NI_54, NI_55, NI_56, NI_57, NI_58, NI_59, NI_69, LY_11, LY_54, LY_55, LY_56, LY_57, LY_58, LY_59, LY_69, w54, it, kt, h54, c1]
    repeat' (first | ((first | with_reducible refine b_X11_delete_0 ?_ | with_reducible refine b_X11_delete_11 ?_ | with_reducible refine b_X11_delete_21 ?_ | with_reducible refine b_X11_delete_26 ?_ | with_reducible refine b_X11_delete_29 ?_ | with_reducible refine b_X11_delete_31 ?_ | with_reducible refine b_X11_delete_35 ?_ | with_reducible refine b_X11_delete_39 ?_ | with_reducible refine b_X11_delete_44 ?_ | with_reducible refine b_X11_delete_45 ?_ | with_reducible refine b_X11_delete_50 ?_ | with_reducible refine b_X11_delete_59 ?_ | with_reducible refine b_X11_delete_66 ?_ | with_reducible refine b_X11_delete_76 ?_ | with_reducible refine b_X11_delete_93 ?_ | with_reducible refine b_X11_delete_100 ?_ | with_reducible refine b_X11_delete_107 ?_ | with_reducible refine b_X11_delete_109 ?_ | with_reducible refine b_X11_delete_125 ?_ | with_reducible refine b_X11_delete_135 ?_ | with_reducible refine b_X11_delete_138 ?_ | with_reducible refine b_X11_delete_144 ?_ | with_reducible refine b_X11_delete_216 ?_ | with_reducible refine b_X11_delete_219 ?_ | with_reducible refine b_X11_delete_225 ?_) <;> (try simp only [o_al, o_c, o_get, o_iadd, o_iald, o_iast, o_il, o_imul, o_inc, o_is, o_isub, o_last, o_puti, o_zald, o_zast, t_1, t_2, t_ir, decide_true, decide_false, Bool.decide_eq_true, Bool.not_eq_false, Bool.not_eq_true, bft, btf, false_implies, true_implies, decide_eq_true_eq, decide_eq_false_iff_not, fv, st1, st2, kl, cat1, List.getElem?_cons_zero, List.getElem?_cons_succ, List.set_cons_zero, List.set_cons_succ, List.length_cons, List.length_nil, List.forall_mem_cons, List.not_mem_nil, Option.toList_some, Option.toList_none, List.cons_append, List.nil_append, and_true, true_and, and_self, reduceIte, Nat.reduceEqDiff, Nat.reduceLT, Nat.reduceAdd, Nat.lt_add_one, Nat.zero_lt_one, Nat.reduceLeDiff, false_and, and_false, forall_const, eq_self, not_true_eq_false, not_false_eq_true, implies_true, forall_eq, b2i_t, b2i_f, true_or, or_true, or_self, or_false, false_or, z01, z10, d10, d01, b2i_01, b2i_d, b2i_eq0, b2i_eq1, b2i_inj, Bool.true_eq_false, Bool.false_eq_true, gi_si, gi_sl, gi_sz, gi_sr, gi_sa, gi_sb, gi_sy, gl_si, gl_sl, gl_sz, gl_sr, gl_sa, gl_sb, gl_sy, gz_si, gz_sl, gz_sz, gz_sr, gz_sa, gz_sb, gz_sy, gr_si, gr_sl, gr_sz, gr_sr, gr_sa, gr_sb, gr_sy, ga_si, ga_sl, ga_sz, ga_sr, ga_sa, ga_sb, ga_sy, gb_si, gb_sl, gb_sz, gb_sr, gb_sa, gb_sb, gb_sy, gy_si, gy_sl, gy_sz, gy_sr, gy_sa, gy_sb, gy_sy, NI_11, NI_54, NI_55, NI_56, NI_57, NI_58, NI_59, NI_69, LY_11, LY_54, LY_55, LY_56, LY_57, LY_58, LY_59, LY_69, w54, it, kt, h54, es])) | ((with_reducible apply br_V) <;> intro hc) | ((with_reducible apply br_C) <;> try intro hc) | (with_reducible apply an_I) | (with_reducible apply an_V) | (with_reducible apply an_A))
    all_goals exact this
  | succ n ih =>
    intro i to g5 g6 v m o5 hi hto hR hI hO hd
    have c1 : ¬ nI N ≤ nI i := nI_ge (by omega) (by omega)
    have ii : vp_in (nI i) 24 := vp_in_nI (by omega) (by decide)
    have ki : (nI i).toNatClampNeg = i := nI_clamp (by omega)
    have h69i := h69 i (by omega)
    rw [drpV] at hd
    (with_reducible refine b_X11_delete_114 ?_); simp only [o_al, o_c, o_get, o_iadd, o_iald, o_iast, o_il, o_imul, o_inc, o_is, o_isub, o_last, o_puti, o_zald, o_zast, t_1, t_2, t_ir, decide_true, decide_false, Bool.decide_eq_true, Bool.not_eq_false, Bool.not_eq_true, bft, btf, false_implies, true_implies, decide_eq_true_eq, decide_eq_false_iff_not, fv, st1, st2, kl, cat1, List.getElem?_cons_zero, List.getElem?_cons_succ, List.set_cons_zero, List.set_cons_succ, List.length_cons, List.length_nil, List.forall_mem_cons, List.not_mem_nil, Option.toList_some, Option.toList_none, List.cons_append, List.nil_append, and_true, true_and, and_self, reduceIte, Nat.reduceEqDiff, Nat.reduceLT, Nat.reduceAdd, Nat.lt_add_one, Nat.zero_lt_one, Nat.reduceLeDiff, false_and, and_false, forall_const, eq_self, not_true_eq_false, not_false_eq_true, implies_true, forall_eq, b2i_t, b2i_f, true_or, or_true, or_self, or_false, false_or, z01, z10, d10, d01, b2i_01, b2i_d, b2i_eq0, b2i_eq1, b2i_inj, Bool.true_eq_false, Bool.false_eq_true, gi_si, gi_sl, gi_sz, gi_sr, gi_sa, gi_sb, gi_sy, gl_si, gl_sl, gl_sz, gl_sr, gl_sa, gl_sb, gl_sy, gz_si, gz_sl, gz_sz, gz_sr, gz_sa, gz_sb, gz_sy, gr_si, gr_sl, gr_sz, gr_sr, gr_sa, gr_sb, gr_sy, ga_si, ga_sl, ga_sz, ga_sr, ga_sa, ga_sb, ga_sy, gb_si, gb_sl, gb_sz, gb_sr, gb_sa, gb_sb, gb_sy, gy_si, gy_sl, gy_sz, gy_sr, gy_sa, gy_sb, gy_sy, NI_11, NI_54, NI_55, NI_56, NI_57, NI_58, NI_59, NI_69, LY_11, LY_54, LY_55, LY_56, LY_57, LY_58, LY_59, LY_69, w54, it, kt, h54, c1]
    cases hb : mk i with
    | true =>
      rw [hb] at hd h69i
      have := fun o5 => ih (i + 1) to g5 g6 v m o5 (by omega) (by omega) hR hI hO hd
      repeat' (first | ((first | with_reducible refine b_X11_delete_0 ?_ | with_reducible refine b_X11_delete_11 ?_ | with_reducible refine b_X11_delete_21 ?_ | with_reducible refine b_X11_delete_26 ?_ | with_reducible refine b_X11_delete_29 ?_ | with_reducible refine b_X11_delete_31 ?_ | with_reducible refine b_X11_delete_35 ?_ | with_reducible refine b_X11_delete_39 ?_ | with_reducible refine b_X11_delete_44 ?_ | with_reducible refine b_X11_delete_45 ?_ | with_reducible refine b_X11_delete_50 ?_ | with_reducible refine b_X11_delete_59 ?_ | with_reducible refine b_X11_delete_66 ?_ | with_reducible refine b_X11_delete_76 ?_ | with_reducible refine b_X11_delete_93 ?_ | with_reducible refine b_X11_delete_100 ?_ | with_reducible refine b_X11_delete_107 ?_ | with_reducible refine b_X11_delete_109 ?_ | with_reducible refine b_X11_delete_125 ?_ | with_reducible refine b_X11_delete_135 ?_ | with_reducible refine b_X11_delete_138 ?_ | with_reducible refine b_X11_delete_144 ?_ | with_reducible refine b_X11_delete_216 ?_ | with_reducible refine b_X11_delete_219 ?_ | with_reducible refine b_X11_delete_225 ?_) <;> (try simp only [o_al, o_c, o_get, o_iadd, o_iald, o_iast, o_il, o_imul, o_inc, o_is, o_isub, o_last, o_puti, o_zald, o_zast, t_1, t_2, t_ir, decide_true, decide_false, Bool.decide_eq_true, Bool.not_eq_false, Bool.not_eq_true, bft, btf, false_implies, true_implies, decide_eq_true_eq, decide_eq_false_iff_not, fv, st1, st2, kl, cat1, List.getElem?_cons_zero, List.getElem?_cons_succ, List.set_cons_zero, List.set_cons_succ, List.length_cons, List.length_nil, List.forall_mem_cons, List.not_mem_nil, Option.toList_some, Option.toList_none, List.cons_append, List.nil_append, and_true, true_and, and_self, reduceIte, Nat.reduceEqDiff, Nat.reduceLT, Nat.reduceAdd, Nat.lt_add_one, Nat.zero_lt_one, Nat.reduceLeDiff, false_and, and_false, forall_const, eq_self, not_true_eq_false, not_false_eq_true, implies_true, forall_eq, b2i_t, b2i_f, true_or, or_true, or_self, or_false, false_or, z01, z10, d10, d01, b2i_01, b2i_d, b2i_eq0, b2i_eq1, b2i_inj, Bool.true_eq_false, Bool.false_eq_true, gi_si, gi_sl, gi_sz, gi_sr, gi_sa, gi_sb, gi_sy, gl_si, gl_sl, gl_sz, gl_sr, gl_sa, gl_sb, gl_sy, gz_si, gz_sl, gz_sz, gz_sr, gz_sa, gz_sb, gz_sy, gr_si, gr_sl, gr_sz, gr_sr, gr_sa, gr_sb, gr_sy, ga_si, ga_sl, ga_sz, ga_sr, ga_sa, ga_sb, ga_sy, gb_si, gb_sl, gb_sz, gb_sr, gb_sa, gb_sb, gb_sy, gy_si, gy_sl, gy_sz, gy_sr, gy_sa, gy_sb, gy_sy, NI_11, NI_54, NI_55, NI_56, NI_57, NI_58, NI_59, NI_69, LY_11, LY_54, LY_55, LY_56, LY_57, LY_58, LY_59, LY_69, w69, ii, ki, h69i, nI_add, b2i])) | ((with_reducible apply br_V) <;> intro hc) | ((with_reducible apply br_C) <;> try intro hc) | (with_reducible apply an_I) | (with_reducible apply an_V) | (with_reducible apply an_A))
      all_goals exact this _
    | false =>
      rw [hb] at hd h69i
      rw [if_neg (by decide)] at hd
      obtain ⟨hR', hI'⟩ := Re_mv hR hI (show i < N by omega) hto hK
      have := m_deI h X t k Q ht to i hto (by omega) 4 0 g5 g6 (by omega) (by
        have := fun o5 => ih (i + 1) (to + 1) _ _ _ _ o5 (by omega) (by omega) hR' hI' (Ou_cp hto (by omega) hO) hd
        repeat' (first | ((first | with_reducible refine b_X11_delete_0 ?_ | with_reducible refine b_X11_delete_11 ?_ | with_reducible refine b_X11_delete_21 ?_ | with_reducible refine b_X11_delete_26 ?_ | with_reducible refine b_X11_delete_29 ?_ | with_reducible refine b_X11_delete_31 ?_ | with_reducible refine b_X11_delete_35 ?_ | with_reducible refine b_X11_delete_39 ?_ | with_reducible refine b_X11_delete_44 ?_ | with_reducible refine b_X11_delete_45 ?_ | with_reducible refine b_X11_delete_50 ?_ | with_reducible refine b_X11_delete_59 ?_ | with_reducible refine b_X11_delete_66 ?_ | with_reducible refine b_X11_delete_76 ?_ | with_reducible refine b_X11_delete_93 ?_ | with_reducible refine b_X11_delete_100 ?_ | with_reducible refine b_X11_delete_107 ?_ | with_reducible refine b_X11_delete_109 ?_ | with_reducible refine b_X11_delete_125 ?_ | with_reducible refine b_X11_delete_135 ?_ | with_reducible refine b_X11_delete_138 ?_ | with_reducible refine b_X11_delete_144 ?_ | with_reducible refine b_X11_delete_216 ?_ | with_reducible refine b_X11_delete_219 ?_ | with_reducible refine b_X11_delete_225 ?_) <;> (try simp only [o_al, o_c, o_get, o_iadd, o_iald, o_iast, o_il, o_imul, o_inc, o_is, o_isub, o_last, o_puti, o_zald, o_zast, t_1, t_2, t_ir, decide_true, decide_false, Bool.decide_eq_true, Bool.not_eq_false, Bool.not_eq_true, bft, btf, false_implies, true_implies, decide_eq_true_eq, decide_eq_false_iff_not, fv, st1, st2, kl, cat1, List.getElem?_cons_zero, List.getElem?_cons_succ, List.set_cons_zero, List.set_cons_succ, List.length_cons, List.length_nil, List.forall_mem_cons, List.not_mem_nil, Option.toList_some, Option.toList_none, List.cons_append, List.nil_append, and_true, true_and, and_self, reduceIte, Nat.reduceEqDiff, Nat.reduceLT, Nat.reduceAdd, Nat.lt_add_one, Nat.zero_lt_one, Nat.reduceLeDiff, false_and, and_false, forall_const, eq_self, not_true_eq_false, not_false_eq_true, implies_true, forall_eq, b2i_t, b2i_f, true_or, or_true, or_self, or_false, false_or, z01, z10, d10, d01, b2i_01, b2i_d, b2i_eq0, b2i_eq1, b2i_inj, Bool.true_eq_false, Bool.false_eq_true, gi_si, gi_sl, gi_sz, gi_sr, gi_sa, gi_sb, gi_sy, gl_si, gl_sl, gl_sz, gl_sr, gl_sa, gl_sb, gl_sy, gz_si, gz_sl, gz_sz, gz_sr, gz_sa, gz_sb, gz_sy, gr_si, gr_sl, gr_sz, gr_sr, gr_sa, gr_sb, gr_sy, ga_si, ga_sl, ga_sz, ga_sr, ga_sa, ga_sb, ga_sy, gb_si, gb_sl, gb_sz, gb_sr, gb_sa, gb_sb, gb_sy, gy_si, gy_sl, gy_sz, gy_sr, gy_sa, gy_sb, gy_sy, NI_11, NI_54, NI_55, NI_56, NI_57, NI_58, NI_59, NI_69, LY_11, LY_54, LY_55, LY_56, LY_57, LY_58, LY_59, LY_69, nI_add])) | ((with_reducible apply br_V) <;> intro hc) | ((with_reducible apply br_C) <;> try intro hc) | (with_reducible apply an_I) | (with_reducible apply an_V) | (with_reducible apply an_A))
        all_goals exact this _)
      repeat' (first | ((first | with_reducible refine b_X11_delete_0 ?_ | with_reducible refine b_X11_delete_11 ?_ | with_reducible refine b_X11_delete_21 ?_ | with_reducible refine b_X11_delete_26 ?_ | with_reducible refine b_X11_delete_29 ?_ | with_reducible refine b_X11_delete_31 ?_ | with_reducible refine b_X11_delete_35 ?_ | with_reducible refine b_X11_delete_39 ?_ | with_reducible refine b_X11_delete_44 ?_ | with_reducible refine b_X11_delete_45 ?_ | with_reducible refine b_X11_delete_50 ?_ | with_reducible refine b_X11_delete_59 ?_ | with_reducible refine b_X11_delete_66 ?_ | with_reducible refine b_X11_delete_76 ?_ | with_reducible refine b_X11_delete_93 ?_ | with_reducible refine b_X11_delete_100 ?_ | with_reducible refine b_X11_delete_107 ?_ | with_reducible refine b_X11_delete_109 ?_ | with_reducible refine b_X11_delete_125 ?_ | with_reducible refine b_X11_delete_135 ?_ | with_reducible refine b_X11_delete_144 ?_ | with_reducible refine b_X11_delete_216 ?_ | with_reducible refine b_X11_delete_219 ?_ | with_reducible refine b_X11_delete_225 ?_) <;> (try simp only [o_al, o_c, o_get, o_iadd, o_iald, o_iast, o_il, o_imul, o_inc, o_is, o_isub, o_last, o_puti, o_zald, o_zast, t_1, t_2, t_ir, decide_true, decide_false, Bool.decide_eq_true, Bool.not_eq_false, Bool.not_eq_true, bft, btf, false_implies, true_implies, decide_eq_true_eq, decide_eq_false_iff_not, fv, st1, st2, kl, cat1, List.getElem?_cons_zero, List.getElem?_cons_succ, List.set_cons_zero, List.set_cons_succ, List.length_cons, List.length_nil, List.forall_mem_cons, List.not_mem_nil, Option.toList_some, Option.toList_none, List.cons_append, List.nil_append, and_true, true_and, and_self, reduceIte, Nat.reduceEqDiff, Nat.reduceLT, Nat.reduceAdd, Nat.lt_add_one, Nat.zero_lt_one, Nat.reduceLeDiff, false_and, and_false, forall_const, eq_self, not_true_eq_false, not_false_eq_true, implies_true, forall_eq, b2i_t, b2i_f, true_or, or_true, or_self, or_false, false_or, z01, z10, d10, d01, b2i_01, b2i_d, b2i_eq0, b2i_eq1, b2i_inj, Bool.true_eq_false, Bool.false_eq_true, gi_si, gi_sl, gi_sz, gi_sr, gi_sa, gi_sb, gi_sy, gl_si, gl_sl, gl_sz, gl_sr, gl_sa, gl_sb, gl_sy, gz_si, gz_sl, gz_sz, gz_sr, gz_sa, gz_sb, gz_sy, gr_si, gr_sl, gr_sz, gr_sr, gr_sa, gr_sb, gr_sy, ga_si, ga_sl, ga_sz, ga_sr, ga_sa, ga_sb, ga_sy, gb_si, gb_sl, gb_sz, gb_sr, gb_sa, gb_sb, gb_sy, gy_si, gy_sl, gy_sz, gy_sr, gy_sa, gy_sb, gy_sy, NI_11, NI_54, NI_55, NI_56, NI_57, NI_58, NI_59, NI_69, LY_11, LY_54, LY_55, LY_56, LY_57, LY_58, LY_59, LY_69, w69, ii, ki, h69i, b2i])) | ((with_reducible apply br_V) <;> intro hc) | ((with_reducible apply br_C) <;> try intro hc) | (with_reducible apply an_I) | (with_reducible apply an_V) | (with_reducible apply an_A))
      all_goals exact this
end
