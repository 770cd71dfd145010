-- deps: 223
def ckWs (P : Nat → Option (Nat × Nat)) (ty : Nat → Nat → Int32) : List (Int32 × Int32) → (Nat → Int32) → Nat → Nat → Int32 × List (Int32 × Int32) × (Nat → Int32) × Nat × Nat
  | [], g, n, m => (nI 0, [], g, n, m)
  | w :: ws, g, n, m => if (ck1 P ty w g n).1 = nI 0 then ((ckWs P ty ws (ck1 P ty w g n).2.2.1 (ck1 P ty w g n).2.2.2 (max m (ck1 P ty w g n).2.2.2)).1, (ck1 P ty w g n).2.1 :: (ckWs P ty ws (ck1 P ty w g n).2.2.1 (ck1 P ty w g n).2.2.2 (max m (ck1 P ty w g n).2.2.2)).2.1, (ckWs P ty ws (ck1 P ty w g n).2.2.1 (ck1 P ty w g n).2.2.2 (max m (ck1 P ty w g n).2.2.2)).2.2) else ((ck1 P ty w g n).1, (ck1 P ty w g n).2.1 :: ws, (ck1 P ty w g n).2.2.1, (ck1 P ty w g n).2.2.2, m)
def WH : List (Int32 × Int32) → Nat → Prop
  | [], _ => True
  | w :: ws, n => ∃ o, w.1 = nI o ∧ opok o ∧ (o = 50 → ∃ k, w.2 = nI k ∧ k < 1000) ∧ arty o ≤ n ∧ WH ws (n - arty o + 1)
theorem ck1_n {P : Nat → Option (Nat × Nat)} {ty : Nat → Nat → Int32} {o : Nat} {y : Int32} {g : Nat → Int32} {n : Nat} (ho : opok o) (h : (ck1 P ty (nI o, y) g n).1 = nI 0) (ha : arty o ≤ n) : (ck1 P ty (nI o, y) g n).2.2.2 = n - arty o + 1 := by
  have hl : o < 100 := by unfold opok at ho; omega
  unfold opok at ho
  unfold arty at ha ⊢
  simp (disch := omega) only [ck1, n_eqE, n_ltE] at h ⊢
  have hn : ¬ ((-1001 : Int32) = nI 0) := by decide
  rcases hP : P y.toNatClampNeg with _ | ⟨i, c⟩
  all_goals simp only [hP] at h ⊢
  all_goals ((repeat' split at ha) <;> (repeat' split) <;> first | omega | (exfalso; simp_all; done) | (simp_all; omega) | (simp_all; done))
section
variable {P : Nat → Option (Nat × Nat)} {ty : Nat → Nat → Int32} {w w' : Int32 × Int32} {ws : List (Int32 × Int32)} {g g' : Nat → Int32} {n n' m : Nat} {f : Int32}
theorem ckWs_ok (h : ck1 P ty w g n = (f, w', g', n')) (hf : f = nI 0) : ckWs P ty (w :: ws) g n m = ((ckWs P ty ws g' n' (max m n')).1, w' :: (ckWs P ty ws g' n' (max m n')).2.1, (ckWs P ty ws g' n' (max m n')).2.2) := by simp only [ckWs, h, hf, reduceIte]
theorem ckWs_f (h : ck1 P ty w g n = (f, w', g', n')) (hf : ¬ f = nI 0) : ckWs P ty (w :: ws) g n m = (f, w' :: ws, g', n', m) := by simp only [ckWs, h, hf, reduceIte]
end
theorem CL_get {g1 g2 : Nat → Int32} {pre post : List (Int32 × Int32)} {w : Int32 × Int32} (h : CL g1 g2 (pre ++ w :: post)) : g1 pre.length = w.1 ∧ g2 pre.length = w.2 := by
  have := h pre.length (by simp)
  simpa [List.getD] using this
theorem CL_set {g1 g2 : Nat → Int32} {pre post : List (Int32 × Int32)} {w : Int32 × Int32} (h : CL g1 g2 (pre ++ w :: post)) (x y : Int32) : CL (up1 g1 pre.length x) (up1 g2 pre.length y) (pre ++ (x, y) :: post) := by
  intro i hi
  by_cases hq : i = pre.length
  · subst hq; simp [up1, List.getD]
  · have := h i (by simpa using hi)
    simp only [up1, if_neg hq]
    rw [this.1, this.2]
    simp only [List.getD, List.getElem?_append]
    split
    · exact ⟨rfl, rfl⟩
    · obtain ⟨k, hk⟩ : ∃ k, i - pre.length = k + 1 := ⟨i - pre.length - 1, by omega⟩
      simp [hk]
theorem c_checkWords (h : Nat) (S : ST) (d : DB) (T : List (Int32 × Int32)) (nm : Nat → Int32) (no : Nat → Nat) (tc L n0 : Nat) (pre seg post : List (Int32 × Int32)) (g1 g2 g : Nat → Int32) (m : Nat) (hd : DbC S d) (hT : TokIs S T) (hf : FrC S tc nm no) (hL : gi S 1 2 0 = nI L) (hl : L = (pre ++ seg ++ post).length) (hl2 : L ≤ 199) (hcl : CL g1 g2 (pre ++ seg ++ post)) (hw : WH seg 0) (hm : m ≤ 200) : Ct MX0_checkWords (h + 4) [vR 0 0, vI (nI pre.length), vI (nI (pre.length + seg.length))] (ck (cd S g1 g2 m) g n0) (fun r S' => ∃ g1' g2', r = some (vI (ckWs (plc d T nm no tc) (fun i c => dCT d (no i) c) seg g 0 m).1) ∧ S' = ck (cd S g1' g2' (ckWs (plc d T nm no tc) (fun i c => dCT d (no i) c) seg g 0 m).2.2.2.2) (ckWs (plc d T nm no tc) (fun i c => dCT d (no i) c) seg g 0 m).2.2.1 (ckWs (plc d T nm no tc) (fun i c => dCT d (no i) c) seg g 0 m).2.2.2.1 ∧ CL g1' g2' (pre ++ (ckWs (plc d T nm no tc) (fun i c => dCT d (no i) c) seg g 0 m).2.1 ++ post)) := by
  have loop : ∀ (seg pre : List (Int32 × Int32)) (g1 g2 g : Nat → Int32) (m n x : Nat) (o : Option AV), pre.length + seg.length + post.length = L → CL g1 g2 (pre ++ seg ++ post) → WH seg n → m ≤ 200 → n ≤ pre.length → V MX0_checkWords (h + 4) 7 [some (vR 0 0), some (vI (nI x)), some (vI (nI (pre.length + seg.length))), some (vI (nI pre.length)), o] [] (ck (cd S g1 g2 m) g n) (fun r S' => ∃ g1' g2', r = some (vI (ckWs (plc d T nm no tc) (fun i c => dCT d (no i) c) seg g n m).1) ∧ S' = ck (cd S g1' g2' (ckWs (plc d T nm no tc) (fun i c => dCT d (no i) c) seg g n m).2.2.2.2) (ckWs (plc d T nm no tc) (fun i c => dCT d (no i) c) seg g n m).2.2.1 (ckWs (plc d T nm no tc) (fun i c => dCT d (no i) c) seg g n m).2.2.2.1 ∧ CL g1' g2' (pre ++ (ckWs (plc d T nm no tc) (fun i c => dCT d (no i) c) seg g n m).2.1 ++ post)) := by
    intro seg
    induction seg with
    | nil =>
      intro pre g1 g2 g m n x o hl hcl hw hm hn
      have hle : nI (pre.length + 0) ≤ nI pre.length := nI_le (by omega) (by omega)
      simp only [List.length_nil]
      repeat' (first | ((first | with_reducible refine b_X0_checkWords_0 ?_ | with_reducible refine b_X0_checkWords_7 ?_ | with_reducible refine b_X0_checkWords_12 ?_ | with_reducible refine b_X0_checkWords_17 ?_ | with_reducible refine b_X0_checkWords_24 ?_ | with_reducible refine b_X0_checkWords_27 ?_ | with_reducible refine b_X0_checkWords_48 ?_) <;> (try simp only [o_al, o_c, o_get, o_il, o_inc, o_is, o_max, o_puti, t_1, t_2, t_ir, decide_true, decide_false, Bool.decide_eq_true, Bool.not_eq_false, Bool.not_eq_true, bft, btf, false_implies, true_implies, decide_eq_true_eq, decide_eq_false_iff_not, fv, st1, st2, kl, cat1, List.getElem?_cons_zero, List.getElem?_cons_succ, List.set_cons_zero, List.set_cons_succ, List.length_cons, List.length_nil, List.forall_mem_cons, List.not_mem_nil, Option.toList_some, Option.toList_none, List.cons_append, List.nil_append, and_true, true_and, and_self, reduceIte, Nat.reduceEqDiff, Nat.reduceLT, Nat.reduceAdd, Nat.lt_add_one, Nat.zero_lt_one, Nat.reduceLeDiff, false_and, and_false, forall_const, eq_self, not_true_eq_false, not_false_eq_true, implies_true, forall_eq, b2i_t, b2i_f, true_or, or_true, or_self, or_false, false_or, z01, z10, d10, d01, b2i_01, b2i_d, b2i_eq0, b2i_eq1, b2i_inj, Bool.true_eq_false, Bool.false_eq_true, gi_si, gi_sl, gi_sz, gi_sr, gi_sa, gi_sb, gi_sy, gl_si, gl_sl, gl_sz, gl_sr, gl_sa, gl_sb, gl_sy, gz_si, gz_sl, gz_sz, gz_sr, gz_sa, gz_sb, gz_sy, gr_si, gr_sl, gr_sz, gr_sr, gr_sa, gr_sb, gr_sy, ga_si, ga_sl, ga_sz, ga_sr, ga_sa, ga_sb, ga_sy, gb_si, gb_sl, gb_sz, gb_sr, gb_sa, gb_sb, gb_sy, gy_si, gy_sl, gy_sz, gy_sr, gy_sa, gy_sb, gy_sy, NI_0, LY_0, hle])) | ((with_reducible apply br_V) <;> intro hc) | ((with_reducible apply br_C) <;> try intro hc) | (with_reducible apply an_I) | (with_reducible apply an_V) | (with_reducible apply an_A))
      all_goals first | exact ⟨g1, g2, rfl, rfl, hcl⟩ | trace_state
    | cons w seg ih =>
      intro pre g1 g2 g m n x o hl hcl hw hm hn
      obtain ⟨w1, w2⟩ := w
      obtain ⟨op, rfl, hop, h50, har, hw2⟩ := hw
      simp only [List.length_cons] at hl
      have hg := CL_get (g1 := g1) (g2 := g2) (pre := pre) (post := seg ++ post) (w := (nI op, w2)) (by simpa using hcl)
      have hle : ¬ nI (pre.length + (seg.length + 1)) ≤ nI pre.length := nI_ge (by omega) (by omega)
      have hC := c_checkWord h S d T nm no tc g1 g2 g m n pre.length L op w2 hd hT hf hL (by omega) (by omega) hg.1 hg.2 hop h50 (by omega) har
      have hn' := fun z => ck1_n (P := plc d T nm no tc) (ty := fun i c => dCT d (no i) c) (y := w2) (g := g) (n := n) hop z har
      rcases hk : ck1 (plc d T nm no tc) (fun i c => dCT d (no i) c) (nI op, w2) g n with ⟨f, ⟨x1, x2⟩, g', n'⟩
      rw [hk] at hC hn'
      simp only [List.length_cons] at *
      have hmx : f = nI 0 → (if nI m < nI n' then nI n' else nI m) = nI (max m n') := by
        intro z
        have := hn' z
        simp only [n_ltE (show m < 2 ^ 31 by omega) (show n' < 2 ^ 31 by omega)]
        split <;> (congr 1; omega)
      (with_reducible refine b_X0_checkWords_7 ?_); simp only [o_al, o_c, o_get, o_il, o_inc, o_is, o_max, o_puti, t_1, t_2, t_ir, decide_true, decide_false, Bool.decide_eq_true, Bool.not_eq_false, Bool.not_eq_true, bft, btf, false_implies, true_implies, decide_eq_true_eq, decide_eq_false_iff_not, fv, st1, st2, kl, cat1, List.getElem?_cons_zero, List.getElem?_cons_succ, List.set_cons_zero, List.set_cons_succ, List.length_cons, List.length_nil, List.forall_mem_cons, List.not_mem_nil, Option.toList_some, Option.toList_none, List.cons_append, List.nil_append, and_true, true_and, and_self, reduceIte, Nat.reduceEqDiff, Nat.reduceLT, Nat.reduceAdd, Nat.lt_add_one, Nat.zero_lt_one, Nat.reduceLeDiff, false_and, and_false, forall_const, eq_self, not_true_eq_false, not_false_eq_true, implies_true, forall_eq, b2i_t, b2i_f, true_or, or_true, or_self, or_false, false_or, z01, z10, d10, d01, b2i_01, b2i_d, b2i_eq0, b2i_eq1, b2i_inj, Bool.true_eq_false, Bool.false_eq_true, gi_si, gi_sl, gi_sz, gi_sr, gi_sa, gi_sb, gi_sy, gl_si, gl_sl, gl_sz, gl_sr, gl_sa, gl_sb, gl_sy, gz_si, gz_sl, gz_sz, gz_sr, gz_sa, gz_sb, gz_sy, gr_si, gr_sl, gr_sz, gr_sr, gr_sa, gr_sb, gr_sy, ga_si, ga_sl, ga_sz, ga_sr, ga_sa, ga_sb, ga_sy, gb_si, gb_sl, gb_sz, gb_sr, gb_sa, gb_sb, gb_sy, gy_si, gy_sl, gy_sz, gy_sr, gy_sa, gy_sb, gy_sy, NI_0, LY_0, hle]
      repeat' (first | ((first | with_reducible refine b_X0_checkWords_0 ?_ | with_reducible refine b_X0_checkWords_12 ?_ | ((with_reducible refine k_X0_checkWords_14 (hC) ?_ (by first | decide | assumption | (simp only [NI]; omega)) (Nat.le_of_ble_eq_true rfl)); rintro r S' ⟨rfl, rfl⟩) | with_reducible refine b_X0_checkWords_17 ?_ | with_reducible refine b_X0_checkWords_24 ?_ | with_reducible refine b_X0_checkWords_27 ?_ | with_reducible refine b_X0_checkWords_48 ?_) <;> (try simp only [o_al, o_c, o_get, o_il, o_inc, o_is, o_max, o_puti, t_1, t_2, t_ir, decide_true, decide_false, Bool.decide_eq_true, Bool.not_eq_false, Bool.not_eq_true, bft, btf, false_implies, true_implies, decide_eq_true_eq, decide_eq_false_iff_not, fv, st1, st2, kl, cat1, List.getElem?_cons_zero, List.getElem?_cons_succ, List.set_cons_zero, List.set_cons_succ, List.length_cons, List.length_nil, List.forall_mem_cons, List.not_mem_nil, Option.toList_some, Option.toList_none, List.cons_append, List.nil_append, and_true, true_and, and_self, reduceIte, Nat.reduceEqDiff, Nat.reduceLT, Nat.reduceAdd, Nat.lt_add_one, Nat.zero_lt_one, Nat.reduceLeDiff, false_and, and_false, forall_const, eq_self, not_true_eq_false, not_false_eq_true, implies_true, forall_eq, b2i_t, b2i_f, true_or, or_true, or_self, or_false, false_or, z01, z10, d10, d01, b2i_01, b2i_d, b2i_eq0, b2i_eq1, b2i_inj, Bool.true_eq_false, Bool.false_eq_true, gi_si, gi_sl, gi_sz, gi_sr, gi_sa, gi_sb, gi_sy, gl_si, gl_sl, gl_sz, gl_sr, gl_sa, gl_sb, gl_sy, gz_si, gz_sl, gz_sz, gz_sr, gz_sa, gz_sb, gz_sy, gr_si, gr_sl, gr_sz, gr_sr, gr_sa, gr_sb, gr_sy, ga_si, ga_sl, ga_sz, ga_sr, ga_sa, ga_sb, ga_sy, gb_si, gb_sl, gb_sz, gb_sr, gb_sa, gb_sb, gb_sy, gy_si, gy_sl, gy_sz, gy_sr, gy_sa, gy_sb, gy_sy, NI_0, LY_0, nI_add, cd_m, ck_n])) | ((with_reducible apply br_V) <;> intro hc) | ((with_reducible apply br_C) <;> try intro hc) | (with_reducible apply an_I) | (with_reducible apply an_V) | (with_reducible apply an_A))
      · exact Nat.le_of_ble_eq_true rfl
      · rw [hmx hc, cd_sm, ckWs_ok hk hc]
        have := hn' hc
        have hx := ih (pre ++ [(x1, x2)]) (up1 g1 pre.length x1) (up1 g2 pre.length x2) g' (max m n') n' x (some (vI f)) (by simp; omega) (by have := CL_set (post := seg ++ post) (by simpa using hcl) x1 x2; simpa using this) (by rw [this]; exact hw2) (by omega) (by simp; omega)
        simp only [List.length_append, List.length_cons, List.length_nil, List.append_assoc, List.cons_append, List.nil_append, Nat.zero_add] at hx ⊢
        rw [show pre.length + 1 + seg.length = pre.length + (seg.length + 1) by omega] at hx
        exact hx
      · rw [ckWs_f hk hc]
        refine ⟨_, _, rfl, rfl, ?_⟩
        have := CL_set (post := seg ++ post) (by simpa using hcl) x1 x2
        simpa using this
  refine e_X0_checkWords ?_
  repeat' (first | ((first | with_reducible refine b_X0_checkWords_0 ?_ | with_reducible refine b_X0_checkWords_12 ?_ | with_reducible refine b_X0_checkWords_17 ?_ | with_reducible refine b_X0_checkWords_24 ?_ | with_reducible refine b_X0_checkWords_27 ?_ | with_reducible refine b_X0_checkWords_48 ?_) <;> (try simp only [o_al, o_c, o_get, o_il, o_inc, o_is, o_max, o_puti, t_1, t_2, t_ir, decide_true, decide_false, Bool.decide_eq_true, Bool.not_eq_false, Bool.not_eq_true, bft, btf, false_implies, true_implies, decide_eq_true_eq, decide_eq_false_iff_not, fv, st1, st2, kl, cat1, List.getElem?_cons_zero, List.getElem?_cons_succ, List.set_cons_zero, List.set_cons_succ, List.length_cons, List.length_nil, List.forall_mem_cons, List.not_mem_nil, Option.toList_some, Option.toList_none, List.cons_append, List.nil_append, and_true, true_and, and_self, reduceIte, Nat.reduceEqDiff, Nat.reduceLT, Nat.reduceAdd, Nat.lt_add_one, Nat.zero_lt_one, Nat.reduceLeDiff, false_and, and_false, forall_const, eq_self, not_true_eq_false, not_false_eq_true, implies_true, forall_eq, b2i_t, b2i_f, true_or, or_true, or_self, or_false, false_or, z01, z10, d10, d01, b2i_01, b2i_d, b2i_eq0, b2i_eq1, b2i_inj, Bool.true_eq_false, Bool.false_eq_true, gi_si, gi_sl, gi_sz, gi_sr, gi_sa, gi_sb, gi_sy, gl_si, gl_sl, gl_sz, gl_sr, gl_sa, gl_sb, gl_sy, gz_si, gz_sl, gz_sz, gz_sr, gz_sa, gz_sb, gz_sy, gr_si, gr_sl, gr_sz, gr_sr, gr_sa, gr_sb, gr_sy, ga_si, ga_sl, ga_sz, ga_sr, ga_sa, ga_sb, ga_sy, gb_si, gb_sl, gb_sz, gb_sr, gb_sa, gb_sb, gb_sy, gy_si, gy_sl, gy_sz, gy_sr, gy_sa, gy_sb, gy_sy, NI_0, LY_0, ck_down])) | ((with_reducible apply br_V) <;> intro hc) | ((with_reducible apply br_C) <;> try intro hc) | (with_reducible apply an_I) | (with_reducible apply an_V) | (with_reducible apply an_A))
  all_goals exact loop seg pre g1 g2 g m 0 _ none (by simp at hl; omega) hcl hw hm (Nat.zero_le _)
