-- deps: 304
-- the model: knots and words
section
variable (h : Nat) (S : ST) (a : Nat) (o c : Nat) (K : KA) (x : Int32)
theorem m_knot (w k l r : Int32) (v : Int64) (hc : c < 220) : Ct MX11_knot h [vR 11 0, vI k, vI l, vI r, vL v] (kS S a w o c K) (fun q S' => q = some (vI (nI c)) ∧ S' = kS S a w o (c + 1) (kU K c k l r v)) := by
  have i1 : vp_in (nI c) 220 := vp_in_nI (by omega) (by decide)
  have k1 : (nI c).toNatClampNeg = c := nI_clamp (by omega)
  have hk := kS_knot S a o c K w k l r v
  have e1 : nI (c + 1) - nI 1 = nI c := by rw [pk_sub (by omega)]; congr 1
  refine e_X11_knot ?_
  repeat' (first | ((first | with_reducible refine b_X11_knot_0 ?_) <;> (try simp only [o_al, o_c, o_dup, o_get, o_iadd, o_iast, o_il, o_isub, o_last, o_lc, o_ll, o_puti, t_ir, decide_true, decide_false, Bool.decide_eq_true, Bool.not_eq_false, Bool.not_eq_true, bft, btf, false_implies, true_implies, decide_eq_true_eq, decide_eq_false_iff_not, fv, st1, st2, kl, cat1, List.getElem?_cons_zero, List.getElem?_cons_succ, List.set_cons_zero, List.set_cons_succ, List.length_cons, List.length_nil, List.forall_mem_cons, List.not_mem_nil, Option.toList_some, Option.toList_none, List.cons_append, List.nil_append, and_true, true_and, and_self, reduceIte, Nat.reduceEqDiff, Nat.reduceLT, Nat.reduceAdd, Nat.lt_add_one, Nat.zero_lt_one, Nat.reduceLeDiff, false_and, and_false, forall_const, eq_self, not_true_eq_false, not_false_eq_true, implies_true, forall_eq, b2i_t, b2i_f, true_or, or_true, or_self, or_false, false_or, z01, z10, d10, d01, b2i_01, b2i_d, b2i_eq0, b2i_eq1, b2i_inj, Bool.true_eq_false, Bool.false_eq_true, gi_si, gi_sl, gi_sz, gi_sr, gi_sa, gi_sb, gi_sy, gl_si, gl_sl, gl_sz, gl_sr, gl_sa, gl_sb, gl_sy, gz_si, gz_sl, gz_sz, gz_sr, gz_sa, gz_sb, gz_sy, gr_si, gr_sl, gr_sz, gr_sr, gr_sa, gr_sb, gr_sy, ga_si, ga_sl, ga_sz, ga_sr, ga_sa, ga_sb, ga_sy, gb_si, gb_sl, gb_sz, gb_sr, gb_sa, gb_sb, gb_sy, gy_si, gy_sl, gy_sz, gy_sr, gy_sa, gy_sb, gy_sy, NI_11, NI_43, NI_44, NI_45, NI_46, NI_47, LY_11, LY_43, LY_44, LY_45, LY_46, LY_47, kS_at, kS_wr, kS_op, kS_kn, kS_41, kS_42, kS_sat, kS_swr, kS_sop, m1_lt, m1_ge, nI_add, i1, k1, e1])) | ((with_reducible apply br_V) <;> intro hc) | ((with_reducible apply br_C) <;> try intro hc) | (with_reducible apply an_I) | (with_reducible apply an_V) | (with_reducible apply an_A))
  all_goals first | exact hk | trace_state
end
/-- the words of a text, as the model holds them -/
def MT (S : ST) (T : WL) : Prop := CM (ga S 41 0) (gb S 42 0) T ∧ ga S 41 0 T.length = nI 54 ∧ T.length ≤ 200
theorem MT_k {S : ST} {T : WL} (h : MT S T) {i : Nat} (hi : i ≤ T.length) : mkR (kd T i) (ga S 41 0 i) := by
  by_cases q : i < T.length
  · exact (h.1 i q).1
  · have : i = T.length := by omega
    subst this
    rw [kd_out (Nat.le_refl _), h.2.1]
    exact ⟨(0, 54), by decide, rfl, rfl⟩
theorem MT_i {S : ST} {T : WL} (h : MT S T) {i : Nat} (hi : i ≤ T.length) (x y : Nat) (hp : (x, y) ∈ kps) : (ga S 41 0 i = nI y) = (kd T i = nI x) := mk_iff (MT_k h hi) x y hp
/-- a name, as the class and as the model hold it -/
def nmV (c : Int32) (v : Int64) : Prop := ∃ x y, VNm 6 x y ∧ x ≠ 0 ∧ c = nI x ∧ v = lN y
theorem MT_n {S : ST} {T : WL} (h : MT S T) {i : Nat} (hk : kd T i = nI 2) : nmV (ct T i) (gb S 42 0 i) := (h.1 i (kd_in hk (by decide))).2.1 hk
theorem MT_v {S : ST} {T : WL} (h : MT S T) {i : Nat} (hk : kd T i = nI 3 ∨ kd T i = nI 4) : gb S 42 0 i = (ct T i).toInt64 ∧ 0 ≤ (ct T i).toInt := (h.1 i (by rcases hk with q | q <;> exact kd_in q (by decide))).2.2 hk
/-- a place, as the class (where it stands) and as the model hold it -/
def PLn (T : WL) (p : Nat) (v u : Int64) : Prop := if kd T (p + 1) = nI 46 then nmV (ct T (p + 2)) v ∧ nmV (ct T p) u else nmV (ct T p) v ∧ u = lN 0
def LK (K : KA) (k m : Nat) : Prop := K.1 k = nI m ∧ K.2.1 k = -1 ∧ K.2.2.1 k = -1
def UK (K : KA) (k m l : Nat) : Prop := K.1 k = nI m ∧ K.2.1 k = nI l ∧ K.2.2.1 k = -1
def BK (K : KA) (k m l r : Nat) : Prop := K.1 k = nI m ∧ K.2.1 k = nI l ∧ K.2.2.1 k = nI r
def aops : List (Nat × Nat) := [(7, 36), (8, 37), (9, 38), (10, 39)]
def cops : List (Nat × Nat) := [(11, 40), (12, 45), (13, 41), (14, 42), (15, 43), (16, 44)]
def lops : List (Nat × Nat) := [(19, 15), (20, 16)]
/-- knot k is the expression x -/
def RX (T : WL) (K : KA) : Nat → Nat → WL → Prop
  | 0, _, _ => False
  | f + 1, k, x => (∃ y, x = [(nI 1, y)] ∧ LK K k 51 ∧ K.2.2.2.1 k = y.toInt64) ∨ (∃ y, x = [(nI 2, y)] ∧ LK K k 52 ∧ K.2.2.2.1 k = y.toInt64) ∨ (x = [(nI 3, nI 0)] ∧ LK K k 13) ∨ (∃ p, x = [(nI 50, nI p)] ∧ kd T p = nI 2 ∧ (kd T (p + 1) = nI 46 → kd T (p + 2) = nI 2) ∧ LK K k 61 ∧ PLn T p (K.2.2.2.1 k) (K.2.2.2.2 k)) ∨ (∃ y l, RX T K f l y ∧ l < k ∧ x = y ++ [(nI 6, nI 0)] ∧ UK K k 60 l) ∨ (∃ y z l r o m, RX T K f l y ∧ RX T K f r z ∧ (l < k ∧ r < k) ∧ (o, m) ∈ aops ∧ x = y ++ z ++ [(nI o, nI 0)] ∧ BK K k m l r)
/-- knot k is the condition x -/
def RCk (T : WL) (K : KA) : Nat → Nat → WL → Prop
  | 0, _, _ => False
  | f + 1, k, x => (∃ y l, RX T K f l y ∧ l < k ∧ x = y ++ [(nI 17, nI 0)] ∧ UK K k 14 l) ∨ (∃ y z l r o m, RX T K f l y ∧ RX T K f r z ∧ (l < k ∧ r < k) ∧ (o, m) ∈ cops ∧ x = y ++ z ++ [(nI o, nI 0)] ∧ BK K k m l r) ∨ (∃ y l, RCk T K f l y ∧ l < k ∧ x = y ++ [(nI 18, nI 0)] ∧ UK K k 17 l) ∨ (∃ y z l r o m, RCk T K f l y ∧ RCk T K f r z ∧ (l < k ∧ r < k) ∧ (o, m) ∈ lops ∧ x = y ++ z ++ [(nI o, nI 0)] ∧ BK K k m l r)
/-- the knots below c are the same -/
def KE (c : Nat) (K K' : KA) : Prop := ∀ i, i < c → K'.1 i = K.1 i ∧ K'.2.1 i = K.2.1 i ∧ K'.2.2.1 i = K.2.2.1 i ∧ K'.2.2.2.1 i = K.2.2.2.1 i ∧ K'.2.2.2.2 i = K.2.2.2.2 i
theorem KE_r (c : Nat) (K : KA) : KE c K K := fun _ _ => ⟨rfl, rfl, rfl, rfl, rfl⟩
theorem KE_le {c c' : Nat} {K K' : KA} (h : KE c K K') (hc : c' ≤ c) : KE c' K K' := fun i hi => h i (by omega)
theorem KE_t {c c' : Nat} {K K' K'' : KA} (h : KE c K K') (h' : KE c' K' K'') (hc : c ≤ c') : KE c K K'' := fun i hi => by
  have a := h i hi
  have b := h' i (by omega)
  exact ⟨b.1.trans a.1, b.2.1.trans a.2.1, b.2.2.1.trans a.2.2.1, b.2.2.2.1.trans a.2.2.2.1, b.2.2.2.2.trans a.2.2.2.2⟩
theorem KE_U (c : Nat) (K : KA) (k l r : Int32) (v : Int64) : KE c K (kU K c k l r v) := fun i hi => by
  have : ¬ i = c := by omega
  simp [kU, up1, this]
theorem RX_up {T : WL} {K : KA} : ∀ {f k : Nat} {x : WL}, RX T K f k x → RX T K (f + 1) k x := by
  intro f
  induction f with
  | zero => intro k x h; exact h.elim
  | succ f ih =>
    intro k x h
    rcases h with h | h | h | h | ⟨y, l, h1, h2, h3⟩ | ⟨y, z, l, r, o, m, h1, h2, h3⟩
    · exact Or.inl h
    · exact Or.inr (Or.inl h)
    · exact Or.inr (Or.inr (Or.inl h))
    · exact Or.inr (Or.inr (Or.inr (Or.inl h)))
    · exact Or.inr (Or.inr (Or.inr (Or.inr (Or.inl ⟨y, l, ih h1, h2, h3⟩))))
    · exact Or.inr (Or.inr (Or.inr (Or.inr (Or.inr ⟨y, z, l, r, o, m, ih h1, ih h2, h3⟩))))
theorem RX_mono {T : WL} {K : KA} {f g k : Nat} {x : WL} (h : RX T K f k x) (hg : f ≤ g) : RX T K g k x := by
  obtain ⟨d, rfl⟩ := Nat.exists_eq_add_of_le hg
  induction d with
  | zero => exact h
  | succ d ih => exact RX_up (ih (by omega))
theorem RCk_up {T : WL} {K : KA} : ∀ {f k : Nat} {x : WL}, RCk T K f k x → RCk T K (f + 1) k x := by
  intro f
  induction f with
  | zero => intro k x h; exact h.elim
  | succ f ih =>
    intro k x h
    rcases h with ⟨y, l, h1, h2⟩ | ⟨y, z, l, r, o, m, h1, h2, h3⟩ | ⟨y, l, h1, h2⟩ | ⟨y, z, l, r, o, m, h1, h2, h3⟩
    · exact Or.inl ⟨y, l, RX_up h1, h2⟩
    · exact Or.inr (Or.inl ⟨y, z, l, r, o, m, RX_up h1, RX_up h2, h3⟩)
    · exact Or.inr (Or.inr (Or.inl ⟨y, l, ih h1, h2⟩))
    · exact Or.inr (Or.inr (Or.inr ⟨y, z, l, r, o, m, ih h1, ih h2, h3⟩))
theorem RCk_mono {T : WL} {K : KA} {f g k : Nat} {x : WL} (h : RCk T K f k x) (hg : f ≤ g) : RCk T K g k x := by
  obtain ⟨d, rfl⟩ := Nat.exists_eq_add_of_le hg
  induction d with
  | zero => exact h
  | succ d ih => exact RCk_up (ih (by omega))
theorem LK_e {K K' : KA} {k m : Nat} (h : KE (k + 1) K K') (hl : LK K k m) : LK K' k m := by
  have a := h k (by omega)
  exact ⟨a.1.trans hl.1, a.2.1.trans hl.2.1, a.2.2.1.trans hl.2.2⟩
theorem UK_e {K K' : KA} {k m l : Nat} (h : KE (k + 1) K K') (hl : UK K k m l) : UK K' k m l := by
  have a := h k (by omega)
  exact ⟨a.1.trans hl.1, a.2.1.trans hl.2.1, a.2.2.1.trans hl.2.2⟩
theorem BK_e {K K' : KA} {k m l r : Nat} (h : KE (k + 1) K K') (hl : BK K k m l r) : BK K' k m l r := by
  have a := h k (by omega)
  exact ⟨a.1.trans hl.1, a.2.1.trans hl.2.1, a.2.2.1.trans hl.2.2⟩
theorem RX_e {T : WL} {K K' : KA} : ∀ {f k : Nat} {x : WL}, KE (k + 1) K K' → RX T K f k x → RX T K' f k x := by
  intro f
  induction f with
  | zero => intro k x _ h; exact h.elim
  | succ f ih =>
    intro k x he h
    have a := he k (by omega)
    rcases h with ⟨y, h1, h2, h3⟩ | ⟨y, h1, h2, h3⟩ | ⟨h1, h2⟩ | ⟨p, h1, h2, h3, h4, h5⟩ | ⟨y, l, h1, h2, h3, h4⟩ | ⟨y, z, l, r, o, m, h1, h2, h3, h4, h5, h6⟩
    · exact Or.inl ⟨y, h1, LK_e he h2, a.2.2.2.1.trans h3⟩
    · exact Or.inr (Or.inl ⟨y, h1, LK_e he h2, a.2.2.2.1.trans h3⟩)
    · exact Or.inr (Or.inr (Or.inl ⟨h1, LK_e he h2⟩))
    · refine Or.inr (Or.inr (Or.inr (Or.inl ⟨p, h1, h2, h3, LK_e he h4, ?_⟩)))
      rw [a.2.2.2.1, a.2.2.2.2]
      exact h5
    · exact Or.inr (Or.inr (Or.inr (Or.inr (Or.inl ⟨y, l, ih (KE_le he (by omega)) h1, h2, h3, UK_e he h4⟩))))
    · exact Or.inr (Or.inr (Or.inr (Or.inr (Or.inr ⟨y, z, l, r, o, m, ih (KE_le he (by omega)) h1, ih (KE_le he (by omega)) h2, h3, h4, h5, BK_e he h6⟩))))
theorem RCk_e {T : WL} {K K' : KA} : ∀ {f k : Nat} {x : WL}, KE (k + 1) K K' → RCk T K f k x → RCk T K' f k x := by
  intro f
  induction f with
  | zero => intro k x _ h; exact h.elim
  | succ f ih =>
    intro k x he h
    rcases h with ⟨y, l, h1, h2, h3, h4⟩ | ⟨y, z, l, r, o, m, h1, h2, h3, h4, h5, h6⟩ | ⟨y, l, h1, h2, h3, h4⟩ | ⟨y, z, l, r, o, m, h1, h2, h3, h4, h5, h6⟩
    · exact Or.inl ⟨y, l, RX_e (KE_le he (by omega)) h1, h2, h3, UK_e he h4⟩
    · exact Or.inr (Or.inl ⟨y, z, l, r, o, m, RX_e (KE_le he (by omega)) h1, RX_e (KE_le he (by omega)) h2, h3, h4, h5, BK_e he h6⟩)
    · exact Or.inr (Or.inr (Or.inl ⟨y, l, ih (KE_le he (by omega)) h1, h2, h3, UK_e he h4⟩))
    · exact Or.inr (Or.inr (Or.inr ⟨y, z, l, r, o, m, ih (KE_le he (by omega)) h1, ih (KE_le he (by omega)) h2, h3, h4, h5, BK_e he h6⟩))
def rX (T : WL) (K : KA) (k : Nat) (x : WL) : Prop := ∃ f, RX T K f k x
def rC (T : WL) (K : KA) (k : Nat) (x : WL) : Prop := ∃ f, RCk T K f k x
/-- what reading leaves, where it went well and where not -/
abbrev KG : Type := KA → Nat → WL → Prop
def MrT (G : KG) (S : ST) (o c : Nat) (K : KA) (a a' : Nat) (x : WL) (r : Option AV) (S' : ST) : Prop := ∃ k c' K', r = some (vI (nI k)) ∧ S' = kS S a' (-1) o c' K' ∧ KE c K K' ∧ (c ≤ k ∧ k < c' ∧ c' + a ≤ c + a') ∧ G K' k x
def MrF (S : ST) (T : WL) (o c : Nat) (K : KA) (a a' : Nat) (r : Option AV) (S' : ST) : Prop := ∃ k c' K' b, r = some (vI (nI k)) ∧ S' = kS S b (nI a') o c' K' ∧ KE c K K' ∧ (c ≤ c' ∧ c' + a ≤ c + a' + 1 ∧ b ≤ T.length ∧ k < 1000)
def MrQ (G : KG) (S : ST) (T : WL) (o c : Nat) (K : KA) (a : Nat) (q : Bool × PS) (r : Option AV) (S' : ST) : Prop := (q.1 = true → MrT G S o c K a q.2.1 q.2.2 r S') ∧ (q.1 = false → MrF S T o c K a q.2.1 r S')
def MrC (G : KG) (M : MD) (h : Nat) (T : WL) (o : Nat) (F : PF) : Prop := ∀ (S : ST), MT S T → ∀ (a c : Nat) (K : KA), a ≤ T.length → c + (T.length - a) ≤ 210 → Ct M h [vR 11 0] (kS S a (-1) o c K) (MrQ G S T o c K a (F (a, [])))
section
variable {G : KG} {M : MD} {h : Nat} {T : WL} {o : Nat} {F : PF} {S : ST} {a c : Nat} {K : KA} {a' : Nat} {x : WL}
theorem mr_t (hF : MrC G M h T o F) (hT : MT S T) (ha : a ≤ T.length) (hc : c + (T.length - a) ≤ 210) (e : F (a, []) = (true, (a', x))) : Ct M h [vR 11 0] (kS S a (-1) o c K) (MrT G S o c K a a' x) := by
  refine Ct_mono (hF S hT a c K ha hc) ?_
  intro r S' hq
  have := hq.1 (by rw [e])
  rw [e] at this
  exact this
theorem mr_f (hF : MrC G M h T o F) (hT : MT S T) (ha : a ≤ T.length) (hc : c + (T.length - a) ≤ 210) (e : F (a, []) = (false, (a', x))) : Ct M h [vR 11 0] (kS S a (-1) o c K) (MrF S T o c K a a') := by
  refine Ct_mono (hF S hT a c K ha hc) ?_
  intro r S' hq
  have := hq.2 (by rw [e])
  rw [e] at this
  exact this
end
theorem mrq_t {G : KG} {S : ST} {T : WL} {o c : Nat} {K : KA} {a a' : Nat} {x : WL} {q : Bool × PS} {r : Option AV} {S' : ST} (e : q = (true, (a', x))) (h : MrT G S o c K a a' x r S') : MrQ G S T o c K a q r S' := by
  subst e
  exact ⟨fun _ => h, fun z => Bool.noConfusion z⟩
theorem mrq_f {G : KG} {S : ST} {T : WL} {o c : Nat} {K : KA} {a a' : Nat} {x : WL} {q : Bool × PS} {r : Option AV} {S' : ST} (e : q = (false, (a', x))) (h : MrF S T o c K a a' r S') : MrQ G S T o c K a q r S' := by
  subst e
  exact ⟨fun z => Bool.noConfusion z, fun _ => h⟩
