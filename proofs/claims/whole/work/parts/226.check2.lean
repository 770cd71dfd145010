-- deps: 224 225
-- Checker: items, assignment
abbrev IL : Type := List (Int32 × List (Int32 × Int32))
def flt (its : IL) : List (Int32 × Int32) := (its.map Prod.snd).flatten
def ckIt (P : Nat → Option (Nat × Nat)) (ty : Nat → Nat → Int32) : IL → (Nat → Int32) → Nat → Nat → Int32 × IL × (Nat → Int32) × Nat × Nat
  | [], g, n, m => (nI 0, [], g, n, m)
  | x :: r, g, n, m =>
    if (ckWs P ty x.2 g 0 m).1 = nI 0 then
      (if x.1 = nI 218 ∧ (ckWs P ty x.2 g 0 m).2.2.1 0 = nI 2 then (-1002, (x.1, (ckWs P ty x.2 g 0 m).2.1) :: r, (ckWs P ty x.2 g 0 m).2.2)
       else ((ckIt P ty r (ckWs P ty x.2 g 0 m).2.2.1 (ckWs P ty x.2 g 0 m).2.2.2.1 (ckWs P ty x.2 g 0 m).2.2.2.2).1, (x.1, (ckWs P ty x.2 g 0 m).2.1) :: (ckIt P ty r (ckWs P ty x.2 g 0 m).2.2.1 (ckWs P ty x.2 g 0 m).2.2.2.1 (ckWs P ty x.2 g 0 m).2.2.2.2).2.1, (ckIt P ty r (ckWs P ty x.2 g 0 m).2.2.1 (ckWs P ty x.2 g 0 m).2.2.2.1 (ckWs P ty x.2 g 0 m).2.2.2.2).2.2))
    else ((ckWs P ty x.2 g 0 m).1, (x.1, (ckWs P ty x.2 g 0 m).2.1) :: r, (ckWs P ty x.2 g 0 m).2.2)
section
variable {P : Nat → Option (Nat × Nat)} {ty : Nat → Nat → Int32} {a f : Int32} {sg sg' : List (Int32 × Int32)} {r : IL} {g g' : Nat → Int32} {n n' m m' : Nat}
theorem ckIt_f (h : ckWs P ty sg g 0 m = (f, sg', g', n', m')) (hf : ¬ f = nI 0) : ckIt P ty ((a, sg) :: r) g n m = (f, (a, sg') :: r, g', n', m') := by simp only [ckIt, h, hf, reduceIte]
theorem ckIt_t (h : ckWs P ty sg g 0 m = (f, sg', g', n', m')) (hf : f = nI 0) (h1 : a = nI 218) (h2 : g' 0 = nI 2) : ckIt P ty ((a, sg) :: r) g n m = (-1002, (a, sg') :: r, g', n', m') := by simp only [ckIt, h, hf, h1, h2, and_self, reduceIte]
theorem ckIt_g (h : ckWs P ty sg g 0 m = (f, sg', g', n', m')) (hf : f = nI 0) (h1 : ¬ (a = nI 218 ∧ g' 0 = nI 2)) : ckIt P ty ((a, sg) :: r) g n m = ((ckIt P ty r g' n' m').1, (a, sg') :: (ckIt P ty r g' n' m').2.1, (ckIt P ty r g' n' m').2.2) := by simp only [ckIt, h, hf, h1, reduceIte]
theorem ckWs_len : ∀ {ws : List (Int32 × Int32)} {g : Nat → Int32} {n m : Nat}, (ckWs P ty ws g n m).2.1.length = ws.length := by
  intro ws
  induction ws with
  | nil => intro g n m; rfl
  | cons w ws ih => intro g n m; simp only [ckWs]; split <;> simp [ih]
theorem ckWs_m : ∀ {ws : List (Int32 × Int32)} {g : Nat → Int32} {n m : Nat}, WH ws n → m ≤ 200 → n + ws.length ≤ 200 → (ckWs P ty ws g n m).2.2.2.2 ≤ 200 := by
  intro ws
  induction ws with
  | nil => intro g n m _ hm _; exact hm
  | cons w ws ih =>
    intro g n m hw hm hl
    obtain ⟨w1, w2⟩ := w
    obtain ⟨o, rfl, ho, h50, har, hw2⟩ := hw
    simp only [List.length_cons] at hl
    rcases hk : ck1 P ty (nI o, w2) g n with ⟨f, w', g', n'⟩
    by_cases hf : f = nI 0
    · rw [ckWs_ok hk hf]
      have hn := ck1_n (P := P) (ty := ty) (y := w2) (g := g) ho (by rw [hk]; exact hf) har
      rw [hk] at hn
      simp only at hn
      refine ih ?_ (by omega) (by omega)
      rw [hn]; exact hw2
    · rw [ckWs_f hk hf]; exact hm
end
/-- the items as the statement holds them, from item i, word p on -/
def ItO (S : ST) : Nat → Nat → IL → Prop
  | _, _, [] => True
  | i, p, x :: r => ga S 27 0 i = x.1 ∧ ga S 28 0 i = nI (p + x.2.length) ∧ WH x.2 0 ∧ ItO S (i + 1) (p + x.2.length) r
theorem c_checkItems (h : Nat) (S : ST) (d : DB) (T : List (Int32 × Int32)) (nm : Nat → Int32) (no : Nat → Nat) (tc L n0 N : Nat) (its : IL) (post : List (Int32 × Int32)) (g1 g2 g : Nat → Int32) (m : Nat) (hd : DbC S d) (hT : TokIs S T) (hf : FrC S tc nm no) (hL : gi S 1 2 0 = nI L) (hl : L = (flt its ++ post).length) (hl2 : L ≤ 199) (hcl : CL g1 g2 (flt its ++ post)) (hit : ItO S 0 0 its) (h10 : gi S 6 10 0 = nI its.length) (h4 : its.length ≤ 4) (hm : m ≤ 200) : Ct MX0_checkItems (h + 5) [vR 0 0] (ck (cd S g1 g2 m) g n0) (fun r S' => ∃ g1' g2', r = some (vI (ckIt (plc d T nm no tc) (fun i c => dCT d (no i) c) its g n0 m).1) ∧ S' = ck (cd S g1' g2' (ckIt (plc d T nm no tc) (fun i c => dCT d (no i) c) its g n0 m).2.2.2.2) (ckIt (plc d T nm no tc) (fun i c => dCT d (no i) c) its g n0 m).2.2.1 (ckIt (plc d T nm no tc) (fun i c => dCT d (no i) c) its g n0 m).2.2.2.1 ∧ CL g1' g2' (flt (ckIt (plc d T nm no tc) (fun i c => dCT d (no i) c) its g n0 m).2.1 ++ post)) := by
  have loop : ∀ (r : IL) (i : Nat) (pre : List (Int32 × Int32)) (g1 g2 g : Nat → Int32) (n m : Nat) (o : Option AV), i + r.length = its.length → pre.length + (flt r ++ post).length = L → CL g1 g2 (pre ++ flt r ++ post) → ItO S i pre.length r → (i = 0 → pre.length = 0) → (¬ i = 0 → ga S 28 0 (i - 1) = nI pre.length) → m ≤ 200 → V MX0_checkItems (h + 5) 2 [some (vR 0 0), some (vI (nI i)), o] [] (ck (cd S g1 g2 m) g n) (fun q S' => ∃ g1' g2', q = some (vI (ckIt (plc d T nm no tc) (fun i c => dCT d (no i) c) r g n m).1) ∧ S' = ck (cd S g1' g2' (ckIt (plc d T nm no tc) (fun i c => dCT d (no i) c) r g n m).2.2.2.2) (ckIt (plc d T nm no tc) (fun i c => dCT d (no i) c) r g n m).2.2.1 (ckIt (plc d T nm no tc) (fun i c => dCT d (no i) c) r g n m).2.2.2.1 ∧ CL g1' g2' (pre ++ flt (ckIt (plc d T nm no tc) (fun i c => dCT d (no i) c) r g n m).2.1 ++ post)) := by
    intro r
    induction r with
    | nil =>
      intro i pre g1 g2 g n m o hi hp hcl hit h0 he hm
      have hle : nI its.length ≤ nI i := nI_le (by simp at hi; omega) (by simp at hi; omega)
      repeat' (first | ((first | with_reducible refine b_X0_checkItems_0 ?_ | with_reducible refine b_X0_checkItems_2 ?_ | with_reducible refine b_X0_checkItems_13 ?_ | with_reducible refine b_X0_checkItems_22 ?_ | with_reducible refine b_X0_checkItems_34 ?_ | with_reducible refine b_X0_checkItems_39 ?_ | with_reducible refine b_X0_checkItems_41 ?_ | with_reducible refine b_X0_checkItems_56 ?_ | with_reducible refine b_X0_checkItems_66 ?_ | with_reducible refine b_X0_checkItems_70 ?_ | with_reducible refine b_X0_checkItems_76 ?_) <;> (try simp only [o_al, o_c, o_get, o_iald, o_il, o_inc, o_is, t_1, t_2, t_ir, decide_true, decide_false, Bool.decide_eq_true, Bool.not_eq_false, Bool.not_eq_true, bft, btf, false_implies, true_implies, decide_eq_true_eq, decide_eq_false_iff_not, fv, st1, st2, kl, cat1, List.getElem?_cons_zero, List.getElem?_cons_succ, List.set_cons_zero, List.set_cons_succ, List.length_cons, List.length_nil, List.forall_mem_cons, List.not_mem_nil, Option.toList_some, Option.toList_none, List.cons_append, List.nil_append, and_true, true_and, and_self, reduceIte, Nat.reduceEqDiff, Nat.reduceLT, Nat.reduceAdd, Nat.lt_add_one, Nat.zero_lt_one, Nat.reduceLeDiff, false_and, and_false, forall_const, eq_self, not_true_eq_false, not_false_eq_true, implies_true, forall_eq, b2i_t, b2i_f, true_or, or_true, or_self, or_false, false_or, z01, z10, d10, d01, b2i_01, b2i_d, b2i_eq0, b2i_eq1, b2i_inj, Bool.true_eq_false, Bool.false_eq_true, gi_si, gi_sl, gi_sz, gi_sr, gi_sa, gi_sb, gi_sy, gl_si, gl_sl, gl_sz, gl_sr, gl_sa, gl_sb, gl_sy, gz_si, gz_sl, gz_sz, gz_sr, gz_sa, gz_sb, gz_sy, gr_si, gr_sl, gr_sz, gr_sr, gr_sa, gr_sb, gr_sy, ga_si, ga_sl, ga_sz, ga_sr, ga_sa, ga_sb, ga_sy, gb_si, gb_sl, gb_sz, gb_sr, gb_sa, gb_sb, gb_sy, gy_si, gy_sl, gy_sz, gy_sr, gy_sa, gy_sb, gy_sy, NI_0, NI_6, NI_12, NI_27, NI_28, LY_0, LY_6, LY_12, LY_27, LY_28, hle, ck_gi6, cd_gi6, h10])) | ((with_reducible apply br_V) <;> intro hc) | ((with_reducible apply br_C) <;> try intro hc) | (with_reducible apply an_I) | (with_reducible apply an_V) | (with_reducible apply an_A))
      all_goals exact ⟨g1, g2, rfl, rfl, hcl⟩
    | cons x r ih =>
      intro i pre g1 g2 g n m o hi hp hcl hit h0 he hm
      obtain ⟨a, sg⟩ := x
      obtain ⟨e1, e2, hw, hit2⟩ := hit
      simp only at e1 e2 hw hit2
      simp only [List.length_cons] at hi
      have hfl : flt ((a, sg) :: r) = sg ++ flt r := by simp [flt]
      have hle : ¬ nI its.length ≤ nI i := nI_ge (by omega) (by omega)
      have i1 : vp_in (nI i) 4 := vp_in_nI (by omega) (by decide)
      have k1 : (nI i).toNatClampNeg = i := nI_clamp (by omega)
      have hi0 : vp_in (nI 0) 200 := vp_in_nI (by omega) (by decide)
      have k0 : (nI 0).toNatClampNeg = 0 := nI_clamp (by omega)
      rw [hfl] at hcl hp
      have hS : ∀ h, Ct MX6_itemStart h [vR 6 0, vI (nI i)] (ck (cd S g1 g2 m) g n) (fun r S' => r = some (vI (nI pre.length)) ∧ S' = (ck (cd S g1 g2 m) g n)) := fun h => c_itemStart h (ck (cd S g1 g2 m) g n) its.length i pre.length (by rw [ck_gi6, cd_gi6]; exact h10) h4 (by omega) h0 (by rw [ck_ga28, cd_ga28]; exact he)
      have hW := c_checkWords h S d T nm no tc L n pre sg (flt r ++ post) g1 g2 g m hd hT hf hL (by simp at hp ⊢; omega) hl2 (by simpa using hcl) hw hm
      have hm' := ckWs_m (P := plc d T nm no tc) (ty := fun i c => dCT d (no i) c) (g := g) hw hm (by simp at hp; omega)
      have hlen := ckWs_len (P := plc d T nm no tc) (ty := fun i c => dCT d (no i) c) (ws := sg) (g := g) (n := 0) (m := m)
      rcases hk : ckWs (plc d T nm no tc) (fun i c => dCT d (no i) c) sg g 0 m with ⟨f, sg', g', n', m'⟩
      rw [hk] at hW hm' hlen
      simp only at hm' hlen
      have go : ∀ (o : Option AV) (g1' g2' : Nat → Int32), CL g1' g2' (pre ++ sg' ++ (flt r ++ post)) → V MX0_checkItems (h + 4 + 1) 2 [some (vR 0 0), some (vI (nI (i + 1))), o] [] (ck (cd S g1' g2' m') g' n') (fun q S' => ∃ g1' g2', q = some (vI (ckIt (plc d T nm no tc) (fun i c => dCT d (no i) c) r g' n' m').1) ∧ S' = ck (cd S g1' g2' (ckIt (plc d T nm no tc) (fun i c => dCT d (no i) c) r g' n' m').2.2.2.2) (ckIt (plc d T nm no tc) (fun i c => dCT d (no i) c) r g' n' m').2.2.1 (ckIt (plc d T nm no tc) (fun i c => dCT d (no i) c) r g' n' m').2.2.2.1 ∧ CL g1' g2' (pre ++ flt ((a, sg') :: (ckIt (plc d T nm no tc) (fun i c => dCT d (no i) c) r g' n' m').2.1) ++ post)) := by
        intro o g1' g2' hcl2
        have hx := ih (i + 1) (pre ++ sg') g1' g2' g' n' m' o (by omega) (by simp at hp ⊢; omega) (by simpa using hcl2) (by simp only [List.length_append, hlen]; exact hit2) (by omega) (fun _ => by simp only [List.length_append, hlen, Nat.add_sub_cancel]; exact e2) hm'
        simpa [flt] using hx
      (with_reducible refine b_X0_checkItems_2 ?_); simp only [o_al, o_c, o_get, o_iald, o_il, o_inc, o_is, t_1, t_2, t_ir, decide_true, decide_false, Bool.decide_eq_true, Bool.not_eq_false, Bool.not_eq_true, bft, btf, false_implies, true_implies, decide_eq_true_eq, decide_eq_false_iff_not, fv, st1, st2, kl, cat1, List.getElem?_cons_zero, List.getElem?_cons_succ, List.set_cons_zero, List.set_cons_succ, List.length_cons, List.length_nil, List.forall_mem_cons, List.not_mem_nil, Option.toList_some, Option.toList_none, List.cons_append, List.nil_append, and_true, true_and, and_self, reduceIte, Nat.reduceEqDiff, Nat.reduceLT, Nat.reduceAdd, Nat.lt_add_one, Nat.zero_lt_one, Nat.reduceLeDiff, false_and, and_false, forall_const, eq_self, not_true_eq_false, not_false_eq_true, implies_true, forall_eq, b2i_t, b2i_f, true_or, or_true, or_self, or_false, false_or, z01, z10, d10, d01, b2i_01, b2i_d, b2i_eq0, b2i_eq1, b2i_inj, Bool.true_eq_false, Bool.false_eq_true, gi_si, gi_sl, gi_sz, gi_sr, gi_sa, gi_sb, gi_sy, gl_si, gl_sl, gl_sz, gl_sr, gl_sa, gl_sb, gl_sy, gz_si, gz_sl, gz_sz, gz_sr, gz_sa, gz_sb, gz_sy, gr_si, gr_sl, gr_sz, gr_sr, gr_sa, gr_sb, gr_sy, ga_si, ga_sl, ga_sz, ga_sr, ga_sa, ga_sb, ga_sy, gb_si, gb_sl, gb_sz, gb_sr, gb_sa, gb_sb, gb_sy, gy_si, gy_sl, gy_sz, gy_sr, gy_sa, gy_sb, gy_sy, NI_0, NI_6, NI_12, NI_27, NI_28, LY_0, LY_6, LY_12, LY_27, LY_28, hle, ck_gi6, cd_gi6, h10]
      repeat' (first | ((first | with_reducible refine b_X0_checkItems_0 ?_ | with_reducible refine b_X0_checkItems_13 ?_ | ((with_reducible refine k_X0_checkItems_19 (hS _) ?_ (by first | decide | assumption | (simp only [NI]; omega)) (Nat.le_of_ble_eq_true rfl)); rintro r S' ⟨rfl, rfl⟩) | with_reducible refine b_X0_checkItems_22 ?_ | ((with_reducible refine k_X0_checkItems_31 (hW) ?_ (by first | decide | assumption | (simp only [NI]; omega)) (Nat.le_of_ble_eq_true rfl)); rintro r S' ⟨g1', g2', rfl, rfl, hcl2⟩) | with_reducible refine b_X0_checkItems_34 ?_ | with_reducible refine b_X0_checkItems_39 ?_ | with_reducible refine b_X0_checkItems_41 ?_ | with_reducible refine b_X0_checkItems_56 ?_ | with_reducible refine b_X0_checkItems_66 ?_ | with_reducible refine b_X0_checkItems_70 ?_ | with_reducible refine b_X0_checkItems_76 ?_) <;> (try simp only [o_al, o_c, o_get, o_iald, o_il, o_inc, o_is, t_1, t_2, t_ir, decide_true, decide_false, Bool.decide_eq_true, Bool.not_eq_false, Bool.not_eq_true, bft, btf, false_implies, true_implies, decide_eq_true_eq, decide_eq_false_iff_not, fv, st1, st2, kl, cat1, List.getElem?_cons_zero, List.getElem?_cons_succ, List.set_cons_zero, List.set_cons_succ, List.length_cons, List.length_nil, List.forall_mem_cons, List.not_mem_nil, Option.toList_some, Option.toList_none, List.cons_append, List.nil_append, and_true, true_and, and_self, reduceIte, Nat.reduceEqDiff, Nat.reduceLT, Nat.reduceAdd, Nat.lt_add_one, Nat.zero_lt_one, Nat.reduceLeDiff, false_and, and_false, forall_const, eq_self, not_true_eq_false, not_false_eq_true, implies_true, forall_eq, b2i_t, b2i_f, true_or, or_true, or_self, or_false, false_or, z01, z10, d10, d01, b2i_01, b2i_d, b2i_eq0, b2i_eq1, b2i_inj, Bool.true_eq_false, Bool.false_eq_true, gi_si, gi_sl, gi_sz, gi_sr, gi_sa, gi_sb, gi_sy, gl_si, gl_sl, gl_sz, gl_sr, gl_sa, gl_sb, gl_sy, gz_si, gz_sl, gz_sz, gz_sr, gz_sa, gz_sb, gz_sy, gr_si, gr_sl, gr_sz, gr_sr, gr_sa, gr_sb, gr_sy, ga_si, ga_sl, ga_sz, ga_sr, ga_sa, ga_sb, ga_sy, gb_si, gb_sl, gb_sz, gb_sr, gb_sa, gb_sb, gb_sy, gy_si, gy_sl, gy_sz, gy_sr, gy_sa, gy_sb, gy_sy, NI_0, NI_6, NI_12, NI_27, NI_28, LY_0, LY_6, LY_12, LY_27, LY_28, i1, k1, hi0, k0, ck_ga28, cd_ga28, ck_ga27, cd_ga27, ck_g, e1, e2, nI_add])) | ((with_reducible apply br_V) <;> intro hc) | ((with_reducible apply br_C) <;> try intro hc) | (with_reducible apply an_I) | (with_reducible apply an_V) | (with_reducible apply an_A))
      · rw [ckIt_t hk ‹_› ‹_› hc]
        exact ⟨_, _, rfl, rfl, by simpa [flt] using hcl2⟩
      · rw [ckIt_g hk ‹_› (fun z => hc z.2)]
        have := go (some (vI f)) g1' g2' hcl2
        exact this
      · rw [ckIt_g hk ‹_› (fun z => hc z.1)]
        exact go _ g1' g2' hcl2
      · rw [ckIt_f hk hc]
        exact ⟨_, _, rfl, rfl, by simpa [flt] using hcl2⟩
  refine e_X0_checkItems ?_
  repeat' (first | ((first | with_reducible refine b_X0_checkItems_0 ?_ | with_reducible refine b_X0_checkItems_13 ?_ | with_reducible refine b_X0_checkItems_22 ?_ | with_reducible refine b_X0_checkItems_34 ?_ | with_reducible refine b_X0_checkItems_39 ?_ | with_reducible refine b_X0_checkItems_41 ?_ | with_reducible refine b_X0_checkItems_56 ?_ | with_reducible refine b_X0_checkItems_66 ?_ | with_reducible refine b_X0_checkItems_70 ?_ | with_reducible refine b_X0_checkItems_76 ?_) <;> (try simp only [o_al, o_c, o_get, o_iald, o_il, o_inc, o_is, t_1, t_2, t_ir, decide_true, decide_false, Bool.decide_eq_true, Bool.not_eq_false, Bool.not_eq_true, bft, btf, false_implies, true_implies, decide_eq_true_eq, decide_eq_false_iff_not, fv, st1, st2, kl, cat1, List.getElem?_cons_zero, List.getElem?_cons_succ, List.set_cons_zero, List.set_cons_succ, List.length_cons, List.length_nil, List.forall_mem_cons, List.not_mem_nil, Option.toList_some, Option.toList_none, List.cons_append, List.nil_append, and_true, true_and, and_self, reduceIte, Nat.reduceEqDiff, Nat.reduceLT, Nat.reduceAdd, Nat.lt_add_one, Nat.zero_lt_one, Nat.reduceLeDiff, false_and, and_false, forall_const, eq_self, not_true_eq_false, not_false_eq_true, implies_true, forall_eq, b2i_t, b2i_f, true_or, or_true, or_self, or_false, false_or, z01, z10, d10, d01, b2i_01, b2i_d, b2i_eq0, b2i_eq1, b2i_inj, Bool.true_eq_false, Bool.false_eq_true, gi_si, gi_sl, gi_sz, gi_sr, gi_sa, gi_sb, gi_sy, gl_si, gl_sl, gl_sz, gl_sr, gl_sa, gl_sb, gl_sy, gz_si, gz_sl, gz_sz, gz_sr, gz_sa, gz_sb, gz_sy, gr_si, gr_sl, gr_sz, gr_sr, gr_sa, gr_sb, gr_sy, ga_si, ga_sl, ga_sz, ga_sr, ga_sa, ga_sb, ga_sy, gb_si, gb_sl, gb_sz, gb_sr, gb_sa, gb_sb, gb_sy, gy_si, gy_sl, gy_sz, gy_sr, gy_sa, gy_sb, gy_sy, NI_0, NI_6, NI_12, NI_27, NI_28, LY_0, LY_6, LY_12, LY_27, LY_28])) | ((with_reducible apply br_V) <;> intro hc) | ((with_reducible apply br_C) <;> try intro hc) | (with_reducible apply an_I) | (with_reducible apply an_V) | (with_reducible apply an_A))
  exact loop its 0 [] g1 g2 g n0 m none (by omega) (by simp at hl ⊢; omega) (by simpa using hcl) hit (fun _ => rfl) (fun z => absurd rfl z) hm
