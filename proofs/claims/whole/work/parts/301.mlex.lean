-- deps: 300
-- the model: words of a text
def mS (S : ST) (c : Nat) (g1 : Nat → Int32) (g2 : Nat → Int64) : ST := si (sb (sa S 41 0 g1) 42 0 g2) 11 4 0 (nI c)
theorem mS_40 (S : ST) (c : Nat) (g1 : Nat → Int32) (g2 : Nat → Int64) : ga (mS S c g1 g2) 40 0 = ga S 40 0 := by simp only [mS, gi_si, gi_sl, gi_sz, gi_sr, gi_sa, gi_sb, gi_sy, gl_si, gl_sl, gl_sz, gl_sr, gl_sa, gl_sb, gl_sy, gz_si, gz_sl, gz_sz, gz_sr, gz_sa, gz_sb, gz_sy, gr_si, gr_sl, gr_sz, gr_sr, gr_sa, gr_sb, gr_sy, ga_si, ga_sl, ga_sz, ga_sr, ga_sa, ga_sb, ga_sy, gb_si, gb_sl, gb_sz, gb_sr, gb_sa, gb_sb, gb_sy, gy_si, gy_sl, gy_sz, gy_sr, gy_sa, gy_sb, gy_sy, reduceIte, Nat.reduceEqDiff, and_true, true_and, and_self, false_and, and_false]
theorem mS_s (S : ST) (c : Nat) (g1 : Nat → Int32) (g2 : Nat → Int64) : gi (mS S c g1 g2) 11 1 0 = gi S 11 1 0 := by simp only [mS, gi_si, gi_sl, gi_sz, gi_sr, gi_sa, gi_sb, gi_sy, gl_si, gl_sl, gl_sz, gl_sr, gl_sa, gl_sb, gl_sy, gz_si, gz_sl, gz_sz, gz_sr, gz_sa, gz_sb, gz_sy, gr_si, gr_sl, gr_sz, gr_sr, gr_sa, gr_sb, gr_sy, ga_si, ga_sl, ga_sz, ga_sr, ga_sa, ga_sb, ga_sy, gb_si, gb_sl, gb_sz, gb_sr, gb_sa, gb_sb, gb_sy, gy_si, gy_sl, gy_sz, gy_sr, gy_sa, gy_sb, gy_sy, reduceIte, Nat.reduceEqDiff, and_true, true_and, and_self, false_and, and_false]
theorem mS_w (S : ST) (c : Nat) (g1 : Nat → Int32) (g2 : Nat → Int64) : gi (mS S c g1 g2) 11 4 0 = nI c := by simp only [mS, gi_si, gi_sl, gi_sz, gi_sr, gi_sa, gi_sb, gi_sy, gl_si, gl_sl, gl_sz, gl_sr, gl_sa, gl_sb, gl_sy, gz_si, gz_sl, gz_sz, gz_sr, gz_sa, gz_sb, gz_sy, gr_si, gr_sl, gr_sz, gr_sr, gr_sa, gr_sb, gr_sy, ga_si, ga_sl, ga_sz, ga_sr, ga_sa, ga_sb, ga_sy, gb_si, gb_sl, gb_sz, gb_sr, gb_sa, gb_sb, gb_sy, gy_si, gy_sl, gy_sz, gy_sr, gy_sa, gy_sb, gy_sy, reduceIte, Nat.reduceEqDiff, and_true, true_and, and_self, false_and, and_false]
theorem TxM_mS {S : ST} {n : Nat} {tx : Nat → Nat} (h : TxM S n tx) (c : Nat) (g1 : Nat → Int32) (g2 : Nat → Int64) : TxM (mS S c g1 g2) n tx := by unfold TxM; rw [mS_40, mS_s]; exact h
theorem mS_put (S : ST) (c : Nat) (g1 : Nat → Int32) (g2 : Nat → Int64) (x : Int32) (v : Int64) : si (sb (sa (mS S c g1 g2) 41 0 (up1 (ga (mS S c g1 g2) 41 0) c x)) 42 0 (up1 (gb (mS S c g1 g2) 42 0) c v)) 11 4 0 (nI (c + 1)) = mS S (c + 1) (up1 g1 c x) (up1 g2 c v) := by
  apply ST_ext <;> intros <;> simp only [mS, gi_si, gi_sl, gi_sz, gi_sr, gi_sa, gi_sb, gi_sy, gl_si, gl_sl, gl_sz, gl_sr, gl_sa, gl_sb, gl_sy, gz_si, gz_sl, gz_sz, gz_sr, gz_sa, gz_sb, gz_sy, gr_si, gr_sl, gr_sz, gr_sr, gr_sa, gr_sb, gr_sy, ga_si, ga_sl, ga_sz, ga_sr, ga_sa, ga_sb, ga_sy, gb_si, gb_sl, gb_sz, gb_sr, gb_sa, gb_sb, gb_sy, gy_si, gy_sl, gy_sz, gy_sr, gy_sa, gy_sb, gy_sy, reduceIte, Nat.reduceEqDiff, and_true, true_and, and_self, false_and, and_false]
  all_goals ((repeat' split) <;> simp_all)
theorem m_word (h : Nat) (S : ST) (c : Nat) (g1 : Nat → Int32) (g2 : Nat → Int64) (x : Int32) (v : Int64) (hc : c < 200) : Ct MX11_word h [vR 11 0, vI x, vL v] (mS S c g1 g2) (fun r S' => r = none ∧ S' = mS S (c + 1) (up1 g1 c x) (up1 g2 c v)) := by
  have hw := mS_w S c g1 g2
  have i1 : vp_in (nI c) 202 := vp_in_nI (by omega) (by decide)
  have k1 : (nI c).toNatClampNeg = c := nI_clamp (by omega)
  have hp := mS_put S c g1 g2 x v
  have hw2 : ∀ g, gi (sa (mS S c g1 g2) 41 0 g) 11 4 0 = nI c := by intro g; simp only [gi_si, gi_sl, gi_sz, gi_sr, gi_sa, gi_sb, gi_sy, gl_si, gl_sl, gl_sz, gl_sr, gl_sa, gl_sb, gl_sy, gz_si, gz_sl, gz_sz, gz_sr, gz_sa, gz_sb, gz_sy, gr_si, gr_sl, gr_sz, gr_sr, gr_sa, gr_sb, gr_sy, ga_si, ga_sl, ga_sz, ga_sr, ga_sa, ga_sb, ga_sy, gb_si, gb_sl, gb_sz, gb_sr, gb_sa, gb_sb, gb_sy, gy_si, gy_sl, gy_sz, gy_sr, gy_sa, gy_sb, gy_sy, reduceIte, Nat.reduceEqDiff, and_true, true_and, and_self, false_and, and_false]; exact hw
  have hw3 : ∀ g g', gi (sb (sa (mS S c g1 g2) 41 0 g) 42 0 g') 11 4 0 = nI c := by intro g g'; simp only [gi_si, gi_sl, gi_sz, gi_sr, gi_sa, gi_sb, gi_sy, gl_si, gl_sl, gl_sz, gl_sr, gl_sa, gl_sb, gl_sy, gz_si, gz_sl, gz_sz, gz_sr, gz_sa, gz_sb, gz_sy, gr_si, gr_sl, gr_sz, gr_sr, gr_sa, gr_sb, gr_sy, ga_si, ga_sl, ga_sz, ga_sr, ga_sa, ga_sb, ga_sy, gb_si, gb_sl, gb_sz, gb_sr, gb_sa, gb_sb, gb_sy, gy_si, gy_sl, gy_sz, gy_sr, gy_sa, gy_sb, gy_sy, reduceIte, Nat.reduceEqDiff, and_true, true_and, and_self, false_and, and_false]; exact hw
  have hg : ∀ g, gb (sa (mS S c g1 g2) 41 0 g) 42 0 = gb (mS S c g1 g2) 42 0 := by intro g; simp only [gi_si, gi_sl, gi_sz, gi_sr, gi_sa, gi_sb, gi_sy, gl_si, gl_sl, gl_sz, gl_sr, gl_sa, gl_sb, gl_sy, gz_si, gz_sl, gz_sz, gz_sr, gz_sa, gz_sb, gz_sy, gr_si, gr_sl, gr_sz, gr_sr, gr_sa, gr_sb, gr_sy, ga_si, ga_sl, ga_sz, ga_sr, ga_sa, ga_sb, ga_sy, gb_si, gb_sl, gb_sz, gb_sr, gb_sa, gb_sb, gb_sy, gy_si, gy_sl, gy_sz, gy_sr, gy_sa, gy_sb, gy_sy, reduceIte, Nat.reduceEqDiff, and_true, true_and, and_self, false_and, and_false]
  refine e_X11_word ?_
  repeat' (first | ((first | with_reducible refine b_X11_word_0 ?_) <;> (try simp only [o_al, o_c, o_dup, o_get, o_iadd, o_iast, o_il, o_last, o_ll, o_puti, t_vr, decide_true, decide_false, Bool.decide_eq_true, Bool.not_eq_false, Bool.not_eq_true, bft, btf, false_implies, true_implies, decide_eq_true_eq, decide_eq_false_iff_not, fv, st1, st2, kl, cat1, List.getElem?_cons_zero, List.getElem?_cons_succ, List.set_cons_zero, List.set_cons_succ, List.length_cons, List.length_nil, List.forall_mem_cons, List.not_mem_nil, Option.toList_some, Option.toList_none, List.cons_append, List.nil_append, and_true, true_and, and_self, reduceIte, Nat.reduceEqDiff, Nat.reduceLT, Nat.reduceAdd, Nat.lt_add_one, Nat.zero_lt_one, Nat.reduceLeDiff, false_and, and_false, forall_const, eq_self, not_true_eq_false, not_false_eq_true, implies_true, forall_eq, b2i_t, b2i_f, true_or, or_true, or_self, or_false, false_or, z01, z10, d10, d01, b2i_01, b2i_d, b2i_eq0, b2i_eq1, b2i_inj, Bool.true_eq_false, Bool.false_eq_true, gi_si, gi_sl, gi_sz, gi_sr, gi_sa, gi_sb, gi_sy, gl_si, gl_sl, gl_sz, gl_sr, gl_sa, gl_sb, gl_sy, gz_si, gz_sl, gz_sz, gz_sr, gz_sa, gz_sb, gz_sy, gr_si, gr_sl, gr_sz, gr_sr, gr_sa, gr_sb, gr_sy, ga_si, ga_sl, ga_sz, ga_sr, ga_sa, ga_sb, ga_sy, gb_si, gb_sl, gb_sz, gb_sr, gb_sa, gb_sb, gb_sy, gy_si, gy_sl, gy_sz, gy_sr, gy_sa, gy_sb, gy_sy, NI_11, NI_41, NI_42, LY_11, LY_41, LY_42, hw, hw2, hw3, hg, i1, k1, nI_add, hp])) | ((with_reducible apply br_V) <;> intro hc) | ((with_reducible apply br_C) <;> try intro hc) | (with_reducible apply an_I) | (with_reducible apply an_V) | (with_reducible apply an_A))
/-- names: the class's number (base 32) and the model's (base 27) -/
def VNm : Nat → Nat → Nat → Prop
  | 0, x, v => x = 0 ∧ v = 0
  | m + 1, x, v => (x = 0 ∧ v = 0) ∨ ∃ x' v' d, 1 ≤ d ∧ d ≤ 26 ∧ VNm m x' v' ∧ x = 32 * x' + d ∧ v = 27 * v' + d
theorem VNm_z (m : Nat) : VNm m 0 0 := by
  cases m with
  | zero => exact ⟨rfl, rfl⟩
  | succ m => exact Or.inl ⟨rfl, rfl⟩
theorem VNm_s : ∀ {m x v : Nat}, VNm m x v → VNm (m + 1) x v := by
  intro m
  induction m with
  | zero => intro x v h; exact Or.inl h
  | succ m ih =>
    intro x v h
    rcases h with h | ⟨x', v', d, h1, h2, h3, h4, h5⟩
    · exact Or.inl h
    · exact Or.inr ⟨x', v', d, h1, h2, ih h3, h4, h5⟩
theorem VNm_le {m x v : Nat} (h : VNm m x v) : ∀ c, VNm (m + c) x v := by
  intro c
  induction c with
  | zero => exact h
  | succ c ih => exact VNm_s ih
theorem VNm_lt : ∀ {m x v : Nat}, VNm m x v → x < 32 ^ m ∧ v < 27 ^ m := by
  intro m
  induction m with
  | zero => rintro x v ⟨rfl, rfl⟩; decide
  | succ m ih =>
    rintro x v (⟨rfl, rfl⟩ | ⟨x', v', d, h1, h2, h3, rfl, rfl⟩)
    · exact ⟨Nat.pow_pos (by decide), Nat.pow_pos (by decide)⟩
    · have := ih h3
      rw [Nat.pow_succ, Nat.pow_succ]
      omega
theorem VNm_one : ∀ {m : Nat} {m' x v y w : Nat}, VNm m x v → VNm m' y w → (x = y ↔ v = w) := by
  intro m
  induction m with
  | zero =>
    rintro m' x v y w ⟨rfl, rfl⟩ h
    cases m' with
    | zero => obtain ⟨rfl, rfl⟩ := h; exact ⟨fun _ => rfl, fun _ => rfl⟩
    | succ m' =>
      rcases h with ⟨rfl, rfl⟩ | ⟨x', v', d, h1, h2, h3, rfl, rfl⟩
      · exact ⟨fun _ => rfl, fun _ => rfl⟩
      · omega
  | succ m ih =>
    rintro m' x v y w hx hy
    rcases hx with ⟨rfl, rfl⟩ | ⟨x', v', d, h1, h2, h3, rfl, rfl⟩
    · cases m' with
      | zero => obtain ⟨rfl, rfl⟩ := hy; exact ⟨fun _ => rfl, fun _ => rfl⟩
      | succ m' =>
        rcases hy with ⟨rfl, rfl⟩ | ⟨x', v', d, h1, h2, h3, rfl, rfl⟩
        · exact ⟨fun _ => rfl, fun _ => rfl⟩
        · omega
    · cases m' with
      | zero => obtain ⟨rfl, rfl⟩ := hy; omega
      | succ m' =>
        rcases hy with ⟨rfl, rfl⟩ | ⟨y', w', d', k1, k2, k3, rfl, rfl⟩
        · omega
        · have := ih h3 k3
          constructor
          · intro q
            have : x' = y' := by omega
            have := (ih h3 k3).1 this
            omega
          · intro q
            have : v' = w' := by omega
            have := (ih h3 k3).2 this
            omega
/-- kinds of words: the class's and the model's -/
def kps : List (Nat × Nat) := [(0, 54), (1, 53), (2, 50), (3, 51), (4, 52), (5, 43), (6, 44), (7, 45), (40, 30), (41, 31), (91, 32), (93, 33), (44, 34), (46, 35), (43, 36), (45, 37), (42, 38), (47, 39), (61, 40), (60, 41), (62, 42), (200, 0), (201, 1), (202, 2), (203, 3), (204, 4), (205, 5), (206, 6), (207, 7), (208, 8), (209, 9), (210, 10), (211, 11), (212, 12), (213, 13), (214, 14), (215, 15), (216, 16), (217, 17), (218, 18), (219, 19), (220, 20), (221, 21)]
theorem kps_one : ∀ p, p ∈ kps → ∀ q, q ∈ kps → (p.1 = q.1 ↔ p.2 = q.2) := by decide
theorem kps_lt : ∀ p, p ∈ kps → p.1 < 256 ∧ p.2 < 256 := by decide
def mkR (k k' : Int32) : Prop := ∃ p, p ∈ kps ∧ k = nI p.1 ∧ k' = nI p.2
theorem mk_iff {k k' : Int32} (h : mkR k k') (a b : Nat) (hp : (a, b) ∈ kps) : (k' = nI b) = (k = nI a) := by
  obtain ⟨p, h1, rfl, rfl⟩ := h
  have a1 := kps_lt p h1
  have a2 := kps_lt _ hp
  rw [n_eqE (by omega) (by omega), n_eqE (by omega) (by omega)]
  exact propext (kps_one p h1 _ hp).symm
/-- a word of the class and the model's -/
def TR (w : Int32 × Int32) (k' : Int32) (v : Int64) : Prop := mkR w.1 k' ∧ (w.1 = nI 2 → ∃ x y, VNm 6 x y ∧ x ≠ 0 ∧ w.2 = nI x ∧ v = lN y) ∧ (w.1 = nI 3 ∨ w.1 = nI 4 → v = w.2.toInt64 ∧ 0 ≤ w.2.toInt)
def CM (g1 : Nat → Int32) (g2 : Nat → Int64) (T : WL) : Prop := ∀ i, i < T.length → TR (T.getD i (nI 0, nI 0)) (g1 i) (g2 i)
theorem CM_add {g1 : Nat → Int32} {g2 : Nat → Int64} {T : WL} (h : CM g1 g2 T) {w : Int32 × Int32} {x : Int32} {v : Int64} (hw : TR w x v) : CM (up1 g1 T.length x) (up1 g2 T.length v) (T ++ [w]) := by
  intro i hi
  simp only [List.length_append, List.length_cons, List.length_nil] at hi
  by_cases hq : i = T.length
  · subst hq
    simpa [up1] using hw
  · have hl : i < T.length := by omega
    have := h i hl
    simp only [up1, if_neg hq]
    simpa [List.getD, List.getElem?_append_left hl] using this
def LxQ (S : ST) (n : Nat) (T : WL) (e : Nat) (r : Option AV) (S' : ST) : Prop := ∃ g1 g2 e', r = some (vI (nI e')) ∧ (e' = e ∨ (n ≤ e' ∧ n ≤ e ∧ e' ≤ n + 1)) ∧ S' = mS S T.length g1 g2 ∧ CM g1 g2 T
theorem lxq {S : ST} {n : Nat} {g1 : Nat → Int32} {g2 : Nat → Int64} {T : WL} {e : Nat} {r : Option AV} {x : Int32} {v : Int64} {w : Int32 × Int32} (hcm : CM g1 g2 T) (hw : TR w x v) (er : r = some (vI (nI e))) : LxQ S n (T ++ [w]) e r (mS S (T.length + 1) (up1 g1 T.length x) (up1 g2 T.length v)) := by
  refine ⟨_, _, e, er, Or.inl rfl, ?_, CM_add hcm hw⟩
  simp
theorem TR_no {w : Int32 × Int32} (v : Int64) (h : w.1 = nI 1) : TR w (nI 53) v := by
  obtain ⟨a, b⟩ := w
  simp only at h
  subst h
  refine ⟨⟨(1, 53), by decide, rfl, rfl⟩, fun h => absurd (show nI 1 = nI 2 from h) (by decide), fun h => ?_⟩
  rcases h with h | h
  · exact absurd (show nI 1 = nI 3 from h) (by decide)
  · exact absurd (show nI 1 = nI 4 from h) (by decide)
def nm32 (tx : Nat → Nat) : Nat → Nat → Nat → Nat
  | 0, _, x => x
  | c + 1, b, x => nm32 tx c (b + 1) (32 * x + (tx b - 96))
def nm27 (tx : Nat → Nat) : Nat → Nat → Nat → Nat
  | 0, _, x => x
  | c + 1, b, x => nm27 tx c (b + 1) (27 * x + (tx b - 96))
theorem isL_ok {c : Nat} (h : isL c = true) : 97 ≤ c ∧ c ≤ 122 := by
  unfold isL at h
  simpa using h
theorem isD_ok {c : Nat} (h : isD c = true) : 48 ≤ c ∧ c ≤ 57 := by
  unfold isD at h
  simpa using h
theorem nm_VNm (tx : Nat → Nat) : ∀ (c b m x y : Nat), VNm m x y → (∀ i, b ≤ i → i < b + c → isL (tx i) = true) → VNm (m + c) (nm32 tx c b x) (nm27 tx c b y) := by
  intro c
  induction c with
  | zero => intro b m x y h _; exact h
  | succ c ih =>
    intro b m x y h hl
    have h1 := isL_ok (hl b (Nat.le_refl _) (by omega))
    rw [nm32, nm27, show m + (c + 1) = (m + 1) + c by omega]
    exact ih (b + 1) (m + 1) _ _ (Or.inr ⟨x, y, tx b - 96, by omega, by omega, h, rfl, rfl⟩) (fun i h1 h2 => hl i (by omega) (by omega))
theorem nm32_pos (tx : Nat → Nat) : ∀ (c b x : Nat), (∀ i, b ≤ i → i < b + c → isL (tx i) = true) → 1 ≤ x + c → 1 ≤ nm32 tx c b x := by
  intro c
  induction c with
  | zero => intro b x _ h; exact h
  | succ c ih =>
    intro b x hl _
    have h1 := isL_ok (hl b (Nat.le_refl _) (by omega))
    rw [nm32]
    exact ih (b + 1) _ (fun i h1 h2 => hl i (by omega) (by omega)) (by omega)
theorem lrF_L (tx : Nat → Nat) : ∀ (f a : Nat) (x : Int32) (i : Nat), a ≤ i → i < (lrF tx f a x).1 → isL (tx i) = true := by
  intro f
  induction f with
  | zero => intro a x i h1 h2; rw [lrF] at h2; exact absurd h2 (by omega)
  | succ f ih =>
    intro a x i h1 h2
    rw [lrF] at h2
    split at h2
    · rename_i q
      by_cases e : i = a
      · rw [e]; exact q
      · exact ih (a + 1) _ i (by omega) h2
    · exact absurd h2 (by simp; omega)
theorem lrF_nm (tx : Nat → Nat) : ∀ (f a x : Nat), (lrF tx f a (nI x)).2 = nI (nm32 tx ((lrF tx f a (nI x)).1 - a) a x) := by
  intro f
  induction f with
  | zero => intro a x; simp [lrF, nm32]
  | succ f ih =>
    intro a x
    rw [lrF]
    split
    · rename_i q
      have hq := isL_ok q
      have e1 : nI x * nI 32 + (nI (tx a) - nI 97 + nI 1) = nI (32 * x + (tx a - 96)) := by
        rw [pk_sub (by omega), nI_add, pk_mul, nI_add]
        congr 1
        omega
      rw [e1]
      have hle := (lrF_le tx f (a + 1) (nI (32 * x + (tx a - 96)))).1
      rw [ih (a + 1) (32 * x + (tx a - 96))]
      generalize (lrF tx f (a + 1) (nI (32 * x + (tx a - 96)))).1 = E at hle
      rw [show E - a = (E - (a + 1)) + 1 by omega, nm32]
    · simp [nm32]
theorem lsub {a b : Nat} (h : b ≤ a) : lN a - lN b = lN (a - b) := by
  have : lN a = lN (a - b) + lN b := by rw [lN_add]; congr 1; omega
  rw [this, Int64.add_sub_cancel]
section
variable (h : Nat) (S : ST) (n : Nat) (tx : Nat → Nat) (a : Nat) (g1 : Nat → Int32) (g2 : Nat → Int64) (T : WL)
theorem m_letters (hT : TxM S n tx) (ha : a < n) (hL : isL (tx a) = true) (hcm : CM g1 g2 T) (hl : T.length < 200) : Ct MX11_letters (h + 6) [vR 11 0, vI (nI a)] (mS S T.length g1 g2) (LxQ S n (T ++ [(tkL tx n a).1]) (tkL tx n a).2) := by
  have hn := hT.2.1
  have hT' := TxM_mS hT T.length g1 g2
  have loop : ∀ (f b : Nat) (x : Int32) (Q : Option AV → ST → Prop), b + f = n → V MX11_letters (h + 6) 19 [some (vR 11 0), some (vI (nI a)), some (vI (nI (lrF tx f b x).1)), none, none, none, none] [] (mS S T.length g1 g2) Q → V MX11_letters (h + 6) 2 [some (vR 11 0), some (vI (nI a)), some (vI (nI b)), none, none, none, none] [] (mS S T.length g1 g2) Q := by
    intro f
    induction f with
    | zero =>
      intro b x Q hb K
      have h1 := fun h => m_sign h (mS S T.length g1 g2) n tx b hT' (by omega)
      have e1 : sgM tx n b = 0 := by unfold sgM; rw [if_neg (by omega)]
      rw [e1] at h1
      have h2 := fun h => m_letter h (mS S T.length g1 g2) 0 (by decide)
      rw [show isL 0 = false from rfl] at h2
      (with_reducible refine b_X11_letters_2 ?_); simp only [o_al, o_c, o_get, o_i2l, o_iadd, o_iald, o_il, o_inc, o_is, o_isub, o_ladd, o_lc, o_ll, o_lmul, o_ls, o_lsub, t_1, t_2, t_ir, decide_true, decide_false, Bool.decide_eq_true, Bool.not_eq_false, Bool.not_eq_true, bft, btf, false_implies, true_implies, decide_eq_true_eq, decide_eq_false_iff_not, fv, st1, st2, kl, cat1, List.getElem?_cons_zero, List.getElem?_cons_succ, List.set_cons_zero, List.set_cons_succ, List.length_cons, List.length_nil, List.forall_mem_cons, List.not_mem_nil, Option.toList_some, Option.toList_none, List.cons_append, List.nil_append, and_true, true_and, and_self, reduceIte, Nat.reduceEqDiff, Nat.reduceLT, Nat.reduceAdd, Nat.lt_add_one, Nat.zero_lt_one, Nat.reduceLeDiff, false_and, and_false, forall_const, eq_self, not_true_eq_false, not_false_eq_true, implies_true, forall_eq, b2i_t, b2i_f, true_or, or_true, or_self, or_false, false_or, z01, z10, d10, d01, b2i_01, b2i_d, b2i_eq0, b2i_eq1, b2i_inj, Bool.true_eq_false, Bool.false_eq_true, gi_si, gi_sl, gi_sz, gi_sr, gi_sa, gi_sb, gi_sy, gl_si, gl_sl, gl_sz, gl_sr, gl_sa, gl_sb, gl_sy, gz_si, gz_sl, gz_sz, gz_sr, gz_sa, gz_sb, gz_sy, gr_si, gr_sl, gr_sz, gr_sr, gr_sa, gr_sb, gr_sy, ga_si, ga_sl, ga_sz, ga_sr, ga_sa, ga_sb, ga_sy, gb_si, gb_sl, gb_sz, gb_sr, gb_sa, gb_sb, gb_sy, gy_si, gy_sl, gy_sz, gy_sr, gy_sa, gy_sb, gy_sy, NI_11, NI_40, LY_11, LY_40]
      repeat' (first | ((first | with_reducible refine b_X11_letters_0 ?_ | ((with_reducible refine k_X11_letters_4 (h1 _) ?_ (by first | decide | assumption | (simp only [NI]; omega)) (Nat.le_of_ble_eq_true rfl)); rintro r S' ⟨rfl, rfl⟩) | ((with_reducible refine k_X11_letters_7 (h2 _) ?_ (Nat.le_of_ble_eq_true rfl)); rintro r S' ⟨rfl, rfl⟩) | with_reducible refine b_X11_letters_10 ?_ | with_reducible refine b_X11_letters_13 ?_ | with_reducible refine b_X11_letters_27 ?_ | with_reducible refine b_X11_letters_31 ?_ | with_reducible refine b_X11_letters_37 ?_ | with_reducible refine b_X11_letters_44 ?_ | with_reducible refine b_X11_letters_50 ?_ | with_reducible refine b_X11_letters_59 ?_ | with_reducible refine b_X11_letters_88 ?_ | with_reducible refine b_X11_letters_93 ?_ | with_reducible refine b_X11_letters_97 ?_ | with_reducible refine b_X11_letters_105 ?_ | with_reducible refine b_X11_letters_110 ?_ | with_reducible refine b_X11_letters_112 ?_ | with_reducible refine b_X11_letters_117 ?_) <;> (try simp only [o_al, o_c, o_get, o_i2l, o_iadd, o_iald, o_il, o_inc, o_is, o_isub, o_ladd, o_lc, o_ll, o_lmul, o_ls, o_lsub, t_1, t_2, t_ir, decide_true, decide_false, Bool.decide_eq_true, Bool.not_eq_false, Bool.not_eq_true, bft, btf, false_implies, true_implies, decide_eq_true_eq, decide_eq_false_iff_not, fv, st1, st2, kl, cat1, List.getElem?_cons_zero, List.getElem?_cons_succ, List.set_cons_zero, List.set_cons_succ, List.length_cons, List.length_nil, List.forall_mem_cons, List.not_mem_nil, Option.toList_some, Option.toList_none, List.cons_append, List.nil_append, and_true, true_and, and_self, reduceIte, Nat.reduceEqDiff, Nat.reduceLT, Nat.reduceAdd, Nat.lt_add_one, Nat.zero_lt_one, Nat.reduceLeDiff, false_and, and_false, forall_const, eq_self, not_true_eq_false, not_false_eq_true, implies_true, forall_eq, b2i_t, b2i_f, true_or, or_true, or_self, or_false, false_or, z01, z10, d10, d01, b2i_01, b2i_d, b2i_eq0, b2i_eq1, b2i_inj, Bool.true_eq_false, Bool.false_eq_true, gi_si, gi_sl, gi_sz, gi_sr, gi_sa, gi_sb, gi_sy, gl_si, gl_sl, gl_sz, gl_sr, gl_sa, gl_sb, gl_sy, gz_si, gz_sl, gz_sz, gz_sr, gz_sa, gz_sb, gz_sy, gr_si, gr_sl, gr_sz, gr_sr, gr_sa, gr_sb, gr_sy, ga_si, ga_sl, ga_sz, ga_sr, ga_sa, ga_sb, ga_sy, gb_si, gb_sl, gb_sz, gb_sr, gb_sa, gb_sb, gb_sy, gy_si, gy_sl, gy_sz, gy_sr, gy_sa, gy_sb, gy_sy, NI_11, NI_40, LY_11, LY_40, nI_add])) | ((with_reducible apply br_V) <;> intro hc) | ((with_reducible apply br_C) <;> try intro hc) | (with_reducible apply an_I) | (with_reducible apply an_V) | (with_reducible apply an_A))
      all_goals first | exact K | trace_state
    | succ f ih =>
      intro b x Q hb K
      have h1 := fun h => m_sign h (mS S T.length g1 g2) n tx b hT' (by omega)
      have e1 : sgM tx n b = tx b := by unfold sgM; rw [if_pos (by omega)]
      rw [e1] at h1
      have hx := hT.2.2 b (by omega)
      have h2 := fun h => m_letter h (mS S T.length g1 g2) (tx b) (by omega)
      rw [lrF] at K
      cases hq : isL (tx b) with
      | true =>
        rw [hq] at K h2
        have := ih (b + 1) _ Q (by omega) K
        (with_reducible refine b_X11_letters_2 ?_); simp only [o_al, o_c, o_get, o_i2l, o_iadd, o_iald, o_il, o_inc, o_is, o_isub, o_ladd, o_lc, o_ll, o_lmul, o_ls, o_lsub, t_1, t_2, t_ir, decide_true, decide_false, Bool.decide_eq_true, Bool.not_eq_false, Bool.not_eq_true, bft, btf, false_implies, true_implies, decide_eq_true_eq, decide_eq_false_iff_not, fv, st1, st2, kl, cat1, List.getElem?_cons_zero, List.getElem?_cons_succ, List.set_cons_zero, List.set_cons_succ, List.length_cons, List.length_nil, List.forall_mem_cons, List.not_mem_nil, Option.toList_some, Option.toList_none, List.cons_append, List.nil_append, and_true, true_and, and_self, reduceIte, Nat.reduceEqDiff, Nat.reduceLT, Nat.reduceAdd, Nat.lt_add_one, Nat.zero_lt_one, Nat.reduceLeDiff, false_and, and_false, forall_const, eq_self, not_true_eq_false, not_false_eq_true, implies_true, forall_eq, b2i_t, b2i_f, true_or, or_true, or_self, or_false, false_or, z01, z10, d10, d01, b2i_01, b2i_d, b2i_eq0, b2i_eq1, b2i_inj, Bool.true_eq_false, Bool.false_eq_true, gi_si, gi_sl, gi_sz, gi_sr, gi_sa, gi_sb, gi_sy, gl_si, gl_sl, gl_sz, gl_sr, gl_sa, gl_sb, gl_sy, gz_si, gz_sl, gz_sz, gz_sr, gz_sa, gz_sb, gz_sy, gr_si, gr_sl, gr_sz, gr_sr, gr_sa, gr_sb, gr_sy, ga_si, ga_sl, ga_sz, ga_sr, ga_sa, ga_sb, ga_sy, gb_si, gb_sl, gb_sz, gb_sr, gb_sa, gb_sb, gb_sy, gy_si, gy_sl, gy_sz, gy_sr, gy_sa, gy_sb, gy_sy, NI_11, NI_40, LY_11, LY_40]
        repeat' (first | ((first | with_reducible refine b_X11_letters_0 ?_ | ((with_reducible refine k_X11_letters_4 (h1 _) ?_ (by first | decide | assumption | (simp only [NI]; omega)) (Nat.le_of_ble_eq_true rfl)); rintro r S' ⟨rfl, rfl⟩) | ((with_reducible refine k_X11_letters_7 (h2 _) ?_ (Nat.le_of_ble_eq_true rfl)); rintro r S' ⟨rfl, rfl⟩) | with_reducible refine b_X11_letters_10 ?_ | with_reducible refine b_X11_letters_13 ?_ | with_reducible refine b_X11_letters_27 ?_ | with_reducible refine b_X11_letters_31 ?_ | with_reducible refine b_X11_letters_37 ?_ | with_reducible refine b_X11_letters_44 ?_ | with_reducible refine b_X11_letters_50 ?_ | with_reducible refine b_X11_letters_59 ?_ | with_reducible refine b_X11_letters_88 ?_ | with_reducible refine b_X11_letters_93 ?_ | with_reducible refine b_X11_letters_97 ?_ | with_reducible refine b_X11_letters_105 ?_ | with_reducible refine b_X11_letters_110 ?_ | with_reducible refine b_X11_letters_112 ?_ | with_reducible refine b_X11_letters_117 ?_) <;> (try simp only [o_al, o_c, o_get, o_i2l, o_iadd, o_iald, o_il, o_inc, o_is, o_isub, o_ladd, o_lc, o_ll, o_lmul, o_ls, o_lsub, t_1, t_2, t_ir, decide_true, decide_false, Bool.decide_eq_true, Bool.not_eq_false, Bool.not_eq_true, bft, btf, false_implies, true_implies, decide_eq_true_eq, decide_eq_false_iff_not, fv, st1, st2, kl, cat1, List.getElem?_cons_zero, List.getElem?_cons_succ, List.set_cons_zero, List.set_cons_succ, List.length_cons, List.length_nil, List.forall_mem_cons, List.not_mem_nil, Option.toList_some, Option.toList_none, List.cons_append, List.nil_append, and_true, true_and, and_self, reduceIte, Nat.reduceEqDiff, Nat.reduceLT, Nat.reduceAdd, Nat.lt_add_one, Nat.zero_lt_one, Nat.reduceLeDiff, false_and, and_false, forall_const, eq_self, not_true_eq_false, not_false_eq_true, implies_true, forall_eq, b2i_t, b2i_f, true_or, or_true, or_self, or_false, false_or, z01, z10, d10, d01, b2i_01, b2i_d, b2i_eq0, b2i_eq1, b2i_inj, Bool.true_eq_false, Bool.false_eq_true, gi_si, gi_sl, gi_sz, gi_sr, gi_sa, gi_sb, gi_sy, gl_si, gl_sl, gl_sz, gl_sr, gl_sa, gl_sb, gl_sy, gz_si, gz_sl, gz_sz, gz_sr, gz_sa, gz_sb, gz_sy, gr_si, gr_sl, gr_sz, gr_sr, gr_sa, gr_sb, gr_sy, ga_si, ga_sl, ga_sz, ga_sr, ga_sa, ga_sb, ga_sy, gb_si, gb_sl, gb_sz, gb_sr, gb_sa, gb_sb, gb_sy, gy_si, gy_sl, gy_sz, gy_sr, gy_sa, gy_sb, gy_sy, NI_11, NI_40, LY_11, LY_40, nI_add])) | ((with_reducible apply br_V) <;> intro hc) | ((with_reducible apply br_C) <;> try intro hc) | (with_reducible apply an_I) | (with_reducible apply an_V) | (with_reducible apply an_A))
        all_goals first | exact this | trace_state
      | false =>
        rw [hq] at K h2
        (with_reducible refine b_X11_letters_2 ?_); simp only [o_al, o_c, o_get, o_i2l, o_iadd, o_iald, o_il, o_inc, o_is, o_isub, o_ladd, o_lc, o_ll, o_lmul, o_ls, o_lsub, t_1, t_2, t_ir, decide_true, decide_false, Bool.decide_eq_true, Bool.not_eq_false, Bool.not_eq_true, bft, btf, false_implies, true_implies, decide_eq_true_eq, decide_eq_false_iff_not, fv, st1, st2, kl, cat1, List.getElem?_cons_zero, List.getElem?_cons_succ, List.set_cons_zero, List.set_cons_succ, List.length_cons, List.length_nil, List.forall_mem_cons, List.not_mem_nil, Option.toList_some, Option.toList_none, List.cons_append, List.nil_append, and_true, true_and, and_self, reduceIte, Nat.reduceEqDiff, Nat.reduceLT, Nat.reduceAdd, Nat.lt_add_one, Nat.zero_lt_one, Nat.reduceLeDiff, false_and, and_false, forall_const, eq_self, not_true_eq_false, not_false_eq_true, implies_true, forall_eq, b2i_t, b2i_f, true_or, or_true, or_self, or_false, false_or, z01, z10, d10, d01, b2i_01, b2i_d, b2i_eq0, b2i_eq1, b2i_inj, Bool.true_eq_false, Bool.false_eq_true, gi_si, gi_sl, gi_sz, gi_sr, gi_sa, gi_sb, gi_sy, gl_si, gl_sl, gl_sz, gl_sr, gl_sa, gl_sb, gl_sy, gz_si, gz_sl, gz_sz, gz_sr, gz_sa, gz_sb, gz_sy, gr_si, gr_sl, gr_sz, gr_sr, gr_sa, gr_sb, gr_sy, ga_si, ga_sl, ga_sz, ga_sr, ga_sa, ga_sb, ga_sy, gb_si, gb_sl, gb_sz, gb_sr, gb_sa, gb_sb, gb_sy, gy_si, gy_sl, gy_sz, gy_sr, gy_sa, gy_sb, gy_sy, NI_11, NI_40, LY_11, LY_40]
        repeat' (first | ((first | with_reducible refine b_X11_letters_0 ?_ | ((with_reducible refine k_X11_letters_4 (h1 _) ?_ (by first | decide | assumption | (simp only [NI]; omega)) (Nat.le_of_ble_eq_true rfl)); rintro r S' ⟨rfl, rfl⟩) | ((with_reducible refine k_X11_letters_7 (h2 _) ?_ (Nat.le_of_ble_eq_true rfl)); rintro r S' ⟨rfl, rfl⟩) | with_reducible refine b_X11_letters_10 ?_ | with_reducible refine b_X11_letters_13 ?_ | with_reducible refine b_X11_letters_27 ?_ | with_reducible refine b_X11_letters_31 ?_ | with_reducible refine b_X11_letters_37 ?_ | with_reducible refine b_X11_letters_44 ?_ | with_reducible refine b_X11_letters_50 ?_ | with_reducible refine b_X11_letters_59 ?_ | with_reducible refine b_X11_letters_88 ?_ | with_reducible refine b_X11_letters_93 ?_ | with_reducible refine b_X11_letters_97 ?_ | with_reducible refine b_X11_letters_105 ?_ | with_reducible refine b_X11_letters_110 ?_ | with_reducible refine b_X11_letters_112 ?_ | with_reducible refine b_X11_letters_117 ?_) <;> (try simp only [o_al, o_c, o_get, o_i2l, o_iadd, o_iald, o_il, o_inc, o_is, o_isub, o_ladd, o_lc, o_ll, o_lmul, o_ls, o_lsub, t_1, t_2, t_ir, decide_true, decide_false, Bool.decide_eq_true, Bool.not_eq_false, Bool.not_eq_true, bft, btf, false_implies, true_implies, decide_eq_true_eq, decide_eq_false_iff_not, fv, st1, st2, kl, cat1, List.getElem?_cons_zero, List.getElem?_cons_succ, List.set_cons_zero, List.set_cons_succ, List.length_cons, List.length_nil, List.forall_mem_cons, List.not_mem_nil, Option.toList_some, Option.toList_none, List.cons_append, List.nil_append, and_true, true_and, and_self, reduceIte, Nat.reduceEqDiff, Nat.reduceLT, Nat.reduceAdd, Nat.lt_add_one, Nat.zero_lt_one, Nat.reduceLeDiff, false_and, and_false, forall_const, eq_self, not_true_eq_false, not_false_eq_true, implies_true, forall_eq, b2i_t, b2i_f, true_or, or_true, or_self, or_false, false_or, z01, z10, d10, d01, b2i_01, b2i_d, b2i_eq0, b2i_eq1, b2i_inj, Bool.true_eq_false, Bool.false_eq_true, gi_si, gi_sl, gi_sz, gi_sr, gi_sa, gi_sb, gi_sy, gl_si, gl_sl, gl_sz, gl_sr, gl_sa, gl_sb, gl_sy, gz_si, gz_sl, gz_sz, gz_sr, gz_sa, gz_sb, gz_sy, gr_si, gr_sl, gr_sz, gr_sr, gr_sa, gr_sb, gr_sy, ga_si, ga_sl, ga_sz, ga_sr, ga_sa, ga_sb, ga_sy, gb_si, gb_sl, gb_sz, gb_sr, gb_sa, gb_sb, gb_sy, gy_si, gy_sl, gy_sz, gy_sr, gy_sa, gy_sb, gy_sy, NI_11, NI_40, LY_11, LY_40, nI_add])) | ((with_reducible apply br_V) <;> intro hc) | ((with_reducible apply br_C) <;> try intro hc) | (with_reducible apply an_I) | (with_reducible apply an_V) | (with_reducible apply an_A))
        all_goals first | exact K | trace_state
  have name : ∀ (c b y e : Nat) (r : Int32) (Q : Option AV → ST → Prop), b + c = min e (a + 6) → e ≤ n → a ≤ b → (∀ i, a ≤ i → i < e → isL (tx i) = true) → V MX11_letters (h + 6) 88 [some (vR 11 0), some (vI (nI a)), some (vI (nI e)), some (vI r), some (vL (lN (nm27 tx c b y))), none, some (vI (nI (b + c)))] [] (mS S T.length g1 g2) Q → V MX11_letters (h + 6) 44 [some (vR 11 0), some (vI (nI a)), some (vI (nI e)), some (vI r), some (vL (lN y)), none, some (vI (nI b))] [] (mS S T.length g1 g2) Q := by
    intro c
    induction c with
    | zero =>
      intro b y e r Q hb he hab hll K
      have c0 : nI a + nI 6 = nI (a + 6) := nI_add _ _
      by_cases q : b < e
      · have c1 : ¬ nI e ≤ nI b := nI_ge q (by omega)
        have c2 : nI (a + 6) ≤ nI b := nI_le (by omega) (by omega)
        (with_reducible refine b_X11_letters_44 ?_); simp only [o_al, o_c, o_get, o_i2l, o_iadd, o_iald, o_il, o_inc, o_is, o_isub, o_ladd, o_lc, o_ll, o_lmul, o_ls, o_lsub, t_1, t_2, t_ir, decide_true, decide_false, Bool.decide_eq_true, Bool.not_eq_false, Bool.not_eq_true, bft, btf, false_implies, true_implies, decide_eq_true_eq, decide_eq_false_iff_not, fv, st1, st2, kl, cat1, List.getElem?_cons_zero, List.getElem?_cons_succ, List.set_cons_zero, List.set_cons_succ, List.length_cons, List.length_nil, List.forall_mem_cons, List.not_mem_nil, Option.toList_some, Option.toList_none, List.cons_append, List.nil_append, and_true, true_and, and_self, reduceIte, Nat.reduceEqDiff, Nat.reduceLT, Nat.reduceAdd, Nat.lt_add_one, Nat.zero_lt_one, Nat.reduceLeDiff, false_and, and_false, forall_const, eq_self, not_true_eq_false, not_false_eq_true, implies_true, forall_eq, b2i_t, b2i_f, true_or, or_true, or_self, or_false, false_or, z01, z10, d10, d01, b2i_01, b2i_d, b2i_eq0, b2i_eq1, b2i_inj, Bool.true_eq_false, Bool.false_eq_true, gi_si, gi_sl, gi_sz, gi_sr, gi_sa, gi_sb, gi_sy, gl_si, gl_sl, gl_sz, gl_sr, gl_sa, gl_sb, gl_sy, gz_si, gz_sl, gz_sz, gz_sr, gz_sa, gz_sb, gz_sy, gr_si, gr_sl, gr_sz, gr_sr, gr_sa, gr_sb, gr_sy, ga_si, ga_sl, ga_sz, ga_sr, ga_sa, ga_sb, ga_sy, gb_si, gb_sl, gb_sz, gb_sr, gb_sa, gb_sb, gb_sy, gy_si, gy_sl, gy_sz, gy_sr, gy_sa, gy_sb, gy_sy, NI_11, NI_40, LY_11, LY_40, c1]
        (with_reducible refine b_X11_letters_50 ?_); simp only [o_al, o_c, o_get, o_i2l, o_iadd, o_iald, o_il, o_inc, o_is, o_isub, o_ladd, o_lc, o_ll, o_lmul, o_ls, o_lsub, t_1, t_2, t_ir, decide_true, decide_false, Bool.decide_eq_true, Bool.not_eq_false, Bool.not_eq_true, bft, btf, false_implies, true_implies, decide_eq_true_eq, decide_eq_false_iff_not, fv, st1, st2, kl, cat1, List.getElem?_cons_zero, List.getElem?_cons_succ, List.set_cons_zero, List.set_cons_succ, List.length_cons, List.length_nil, List.forall_mem_cons, List.not_mem_nil, Option.toList_some, Option.toList_none, List.cons_append, List.nil_append, and_true, true_and, and_self, reduceIte, Nat.reduceEqDiff, Nat.reduceLT, Nat.reduceAdd, Nat.lt_add_one, Nat.zero_lt_one, Nat.reduceLeDiff, false_and, and_false, forall_const, eq_self, not_true_eq_false, not_false_eq_true, implies_true, forall_eq, b2i_t, b2i_f, true_or, or_true, or_self, or_false, false_or, z01, z10, d10, d01, b2i_01, b2i_d, b2i_eq0, b2i_eq1, b2i_inj, Bool.true_eq_false, Bool.false_eq_true, gi_si, gi_sl, gi_sz, gi_sr, gi_sa, gi_sb, gi_sy, gl_si, gl_sl, gl_sz, gl_sr, gl_sa, gl_sb, gl_sy, gz_si, gz_sl, gz_sz, gz_sr, gz_sa, gz_sb, gz_sy, gr_si, gr_sl, gr_sz, gr_sr, gr_sa, gr_sb, gr_sy, ga_si, ga_sl, ga_sz, ga_sr, ga_sa, ga_sb, ga_sy, gb_si, gb_sl, gb_sz, gb_sr, gb_sa, gb_sb, gb_sy, gy_si, gy_sl, gy_sz, gy_sr, gy_sa, gy_sb, gy_sy, NI_11, NI_40, LY_11, LY_40, c0, c2]
        all_goals first | exact K | trace_state
      · have c1 : nI e ≤ nI b := nI_le (by omega) (by omega)
        (with_reducible refine b_X11_letters_44 ?_); simp only [o_al, o_c, o_get, o_i2l, o_iadd, o_iald, o_il, o_inc, o_is, o_isub, o_ladd, o_lc, o_ll, o_lmul, o_ls, o_lsub, t_1, t_2, t_ir, decide_true, decide_false, Bool.decide_eq_true, Bool.not_eq_false, Bool.not_eq_true, bft, btf, false_implies, true_implies, decide_eq_true_eq, decide_eq_false_iff_not, fv, st1, st2, kl, cat1, List.getElem?_cons_zero, List.getElem?_cons_succ, List.set_cons_zero, List.set_cons_succ, List.length_cons, List.length_nil, List.forall_mem_cons, List.not_mem_nil, Option.toList_some, Option.toList_none, List.cons_append, List.nil_append, and_true, true_and, and_self, reduceIte, Nat.reduceEqDiff, Nat.reduceLT, Nat.reduceAdd, Nat.lt_add_one, Nat.zero_lt_one, Nat.reduceLeDiff, false_and, and_false, forall_const, eq_self, not_true_eq_false, not_false_eq_true, implies_true, forall_eq, b2i_t, b2i_f, true_or, or_true, or_self, or_false, false_or, z01, z10, d10, d01, b2i_01, b2i_d, b2i_eq0, b2i_eq1, b2i_inj, Bool.true_eq_false, Bool.false_eq_true, gi_si, gi_sl, gi_sz, gi_sr, gi_sa, gi_sb, gi_sy, gl_si, gl_sl, gl_sz, gl_sr, gl_sa, gl_sb, gl_sy, gz_si, gz_sl, gz_sz, gz_sr, gz_sa, gz_sb, gz_sy, gr_si, gr_sl, gr_sz, gr_sr, gr_sa, gr_sb, gr_sy, ga_si, ga_sl, ga_sz, ga_sr, ga_sa, ga_sb, ga_sy, gb_si, gb_sl, gb_sz, gb_sr, gb_sa, gb_sb, gb_sy, gy_si, gy_sl, gy_sz, gy_sr, gy_sa, gy_sb, gy_sy, NI_11, NI_40, LY_11, LY_40, c1]
        all_goals first | exact K | trace_state
    | succ c ih =>
      intro b y e r Q hb he hab hll K
      have c0 : nI a + nI 6 = nI (a + 6) := nI_add _ _
      have c1 : ¬ nI e ≤ nI b := nI_ge (by omega) (by omega)
      have c2 : ¬ nI (a + 6) ≤ nI b := nI_ge (by omega) (by omega)
      have hx := hT.2.2 b (by omega)
      have hb1 := isL_ok (hll b hab (by omega))
      have i1 : vp_in (nI b) 200 := vp_in_nI (by omega) (by decide)
      have k1 : (nI b).toNatClampNeg = b := nI_clamp (by omega)
      have e2 : (nI (tx b)).toInt64 = lN (tx b) := nI_l (by omega)
      have e3 : lN (27 * y + tx b) - lN 97 = lN (27 * y + tx b - 97) := lsub (by omega)
      have e4 : 27 * y + tx b - 97 + 1 = 27 * y + (tx b - 96) := by omega
      rw [nm27, show b + (c + 1) = (b + 1) + c by omega] at K
      have := ih (b + 1) _ e r Q (by omega) he (by omega) hll K
      (with_reducible refine b_X11_letters_44 ?_); simp only [o_al, o_c, o_get, o_i2l, o_iadd, o_iald, o_il, o_inc, o_is, o_isub, o_ladd, o_lc, o_ll, o_lmul, o_ls, o_lsub, t_1, t_2, t_ir, decide_true, decide_false, Bool.decide_eq_true, Bool.not_eq_false, Bool.not_eq_true, bft, btf, false_implies, true_implies, decide_eq_true_eq, decide_eq_false_iff_not, fv, st1, st2, kl, cat1, List.getElem?_cons_zero, List.getElem?_cons_succ, List.set_cons_zero, List.set_cons_succ, List.length_cons, List.length_nil, List.forall_mem_cons, List.not_mem_nil, Option.toList_some, Option.toList_none, List.cons_append, List.nil_append, and_true, true_and, and_self, reduceIte, Nat.reduceEqDiff, Nat.reduceLT, Nat.reduceAdd, Nat.lt_add_one, Nat.zero_lt_one, Nat.reduceLeDiff, false_and, and_false, forall_const, eq_self, not_true_eq_false, not_false_eq_true, implies_true, forall_eq, b2i_t, b2i_f, true_or, or_true, or_self, or_false, false_or, z01, z10, d10, d01, b2i_01, b2i_d, b2i_eq0, b2i_eq1, b2i_inj, Bool.true_eq_false, Bool.false_eq_true, gi_si, gi_sl, gi_sz, gi_sr, gi_sa, gi_sb, gi_sy, gl_si, gl_sl, gl_sz, gl_sr, gl_sa, gl_sb, gl_sy, gz_si, gz_sl, gz_sz, gz_sr, gz_sa, gz_sb, gz_sy, gr_si, gr_sl, gr_sz, gr_sr, gr_sa, gr_sb, gr_sy, ga_si, ga_sl, ga_sz, ga_sr, ga_sa, ga_sb, ga_sy, gb_si, gb_sl, gb_sz, gb_sr, gb_sa, gb_sb, gb_sy, gy_si, gy_sl, gy_sz, gy_sr, gy_sa, gy_sb, gy_sy, NI_11, NI_40, LY_11, LY_40, c1]
      (with_reducible refine b_X11_letters_50 ?_); simp only [o_al, o_c, o_get, o_i2l, o_iadd, o_iald, o_il, o_inc, o_is, o_isub, o_ladd, o_lc, o_ll, o_lmul, o_ls, o_lsub, t_1, t_2, t_ir, decide_true, decide_false, Bool.decide_eq_true, Bool.not_eq_false, Bool.not_eq_true, bft, btf, false_implies, true_implies, decide_eq_true_eq, decide_eq_false_iff_not, fv, st1, st2, kl, cat1, List.getElem?_cons_zero, List.getElem?_cons_succ, List.set_cons_zero, List.set_cons_succ, List.length_cons, List.length_nil, List.forall_mem_cons, List.not_mem_nil, Option.toList_some, Option.toList_none, List.cons_append, List.nil_append, and_true, true_and, and_self, reduceIte, Nat.reduceEqDiff, Nat.reduceLT, Nat.reduceAdd, Nat.lt_add_one, Nat.zero_lt_one, Nat.reduceLeDiff, false_and, and_false, forall_const, eq_self, not_true_eq_false, not_false_eq_true, implies_true, forall_eq, b2i_t, b2i_f, true_or, or_true, or_self, or_false, false_or, z01, z10, d10, d01, b2i_01, b2i_d, b2i_eq0, b2i_eq1, b2i_inj, Bool.true_eq_false, Bool.false_eq_true, gi_si, gi_sl, gi_sz, gi_sr, gi_sa, gi_sb, gi_sy, gl_si, gl_sl, gl_sz, gl_sr, gl_sa, gl_sb, gl_sy, gz_si, gz_sl, gz_sz, gz_sr, gz_sa, gz_sb, gz_sy, gr_si, gr_sl, gr_sz, gr_sr, gr_sa, gr_sb, gr_sy, ga_si, ga_sl, ga_sz, ga_sr, ga_sa, ga_sb, ga_sy, gb_si, gb_sl, gb_sz, gb_sr, gb_sa, gb_sb, gb_sy, gy_si, gy_sl, gy_sz, gy_sr, gy_sa, gy_sb, gy_sy, NI_11, NI_40, LY_11, LY_40, c0, c2]
      (with_reducible refine b_X11_letters_59 ?_); simp only [o_al, o_c, o_get, o_i2l, o_iadd, o_iald, o_il, o_inc, o_is, o_isub, o_ladd, o_lc, o_ll, o_lmul, o_ls, o_lsub, t_1, t_2, t_ir, decide_true, decide_false, Bool.decide_eq_true, Bool.not_eq_false, Bool.not_eq_true, bft, btf, false_implies, true_implies, decide_eq_true_eq, decide_eq_false_iff_not, fv, st1, st2, kl, cat1, List.getElem?_cons_zero, List.getElem?_cons_succ, List.set_cons_zero, List.set_cons_succ, List.length_cons, List.length_nil, List.forall_mem_cons, List.not_mem_nil, Option.toList_some, Option.toList_none, List.cons_append, List.nil_append, and_true, true_and, and_self, reduceIte, Nat.reduceEqDiff, Nat.reduceLT, Nat.reduceAdd, Nat.lt_add_one, Nat.zero_lt_one, Nat.reduceLeDiff, false_and, and_false, forall_const, eq_self, not_true_eq_false, not_false_eq_true, implies_true, forall_eq, b2i_t, b2i_f, true_or, or_true, or_self, or_false, false_or, z01, z10, d10, d01, b2i_01, b2i_d, b2i_eq0, b2i_eq1, b2i_inj, Bool.true_eq_false, Bool.false_eq_true, gi_si, gi_sl, gi_sz, gi_sr, gi_sa, gi_sb, gi_sy, gl_si, gl_sl, gl_sz, gl_sr, gl_sa, gl_sb, gl_sy, gz_si, gz_sl, gz_sz, gz_sr, gz_sa, gz_sb, gz_sy, gr_si, gr_sl, gr_sz, gr_sr, gr_sa, gr_sb, gr_sy, ga_si, ga_sl, ga_sz, ga_sr, ga_sa, ga_sb, ga_sy, gb_si, gb_sl, gb_sz, gb_sr, gb_sa, gb_sb, gb_sy, gy_si, gy_sl, gy_sz, gy_sr, gy_sa, gy_sb, gy_sy, NI_11, NI_40, LY_11, LY_40, i1, k1, mS_40, hx, nI_add, e2, lN_mul, lN_add, e3, e4]
      all_goals first | exact this | trace_state
  have hle := lrF_le tx (n - a) a (nI 0)
  have hLL := lrF_L tx (n - a) a (nI 0)
  have hnm := lrF_nm tx (n - a) a 0
  have hgt : a < (lrF tx (n - a) a (nI 0)).1 := by
    obtain ⟨f, hf⟩ : ∃ f, n - a = f + 1 := ⟨n - a - 1, by omega⟩
    rw [hf, lrF, if_pos hL]
    exact Nat.lt_of_lt_of_le (Nat.lt_succ_self a) (lrF_le tx f (a + 1) _).1
  refine e_X11_letters ?_
  repeat' (first | ((first | with_reducible refine b_X11_letters_0 ?_ | with_reducible refine b_X11_letters_10 ?_ | with_reducible refine b_X11_letters_13 ?_ | with_reducible refine b_X11_letters_27 ?_ | with_reducible refine b_X11_letters_31 ?_ | with_reducible refine b_X11_letters_37 ?_ | with_reducible refine b_X11_letters_44 ?_ | with_reducible refine b_X11_letters_50 ?_ | with_reducible refine b_X11_letters_59 ?_ | with_reducible refine b_X11_letters_88 ?_ | with_reducible refine b_X11_letters_93 ?_ | with_reducible refine b_X11_letters_97 ?_ | with_reducible refine b_X11_letters_105 ?_ | with_reducible refine b_X11_letters_110 ?_ | with_reducible refine b_X11_letters_112 ?_ | with_reducible refine b_X11_letters_117 ?_) <;> (try simp only [o_al, o_c, o_get, o_i2l, o_iadd, o_iald, o_il, o_inc, o_is, o_isub, o_ladd, o_lc, o_ll, o_lmul, o_ls, o_lsub, t_1, t_2, t_ir, decide_true, decide_false, Bool.decide_eq_true, Bool.not_eq_false, Bool.not_eq_true, bft, btf, false_implies, true_implies, decide_eq_true_eq, decide_eq_false_iff_not, fv, st1, st2, kl, cat1, List.getElem?_cons_zero, List.getElem?_cons_succ, List.set_cons_zero, List.set_cons_succ, List.length_cons, List.length_nil, List.forall_mem_cons, List.not_mem_nil, Option.toList_some, Option.toList_none, List.cons_append, List.nil_append, and_true, true_and, and_self, reduceIte, Nat.reduceEqDiff, Nat.reduceLT, Nat.reduceAdd, Nat.lt_add_one, Nat.zero_lt_one, Nat.reduceLeDiff, false_and, and_false, forall_const, eq_self, not_true_eq_false, not_false_eq_true, implies_true, forall_eq, b2i_t, b2i_f, true_or, or_true, or_self, or_false, false_or, z01, z10, d10, d01, b2i_01, b2i_d, b2i_eq0, b2i_eq1, b2i_inj, Bool.true_eq_false, Bool.false_eq_true, gi_si, gi_sl, gi_sz, gi_sr, gi_sa, gi_sb, gi_sy, gl_si, gl_sl, gl_sz, gl_sr, gl_sa, gl_sb, gl_sy, gz_si, gz_sl, gz_sz, gz_sr, gz_sa, gz_sb, gz_sy, gr_si, gr_sl, gr_sz, gr_sr, gr_sa, gr_sb, gr_sy, ga_si, ga_sl, ga_sz, ga_sr, ga_sa, ga_sb, ga_sy, gb_si, gb_sl, gb_sz, gb_sr, gb_sa, gb_sb, gb_sy, gy_si, gy_sl, gy_sz, gy_sr, gy_sa, gy_sb, gy_sy, NI_11, NI_40, LY_11, LY_40])) | ((with_reducible apply br_V) <;> intro hc) | ((with_reducible apply br_C) <;> try intro hc) | (with_reducible apply an_I) | (with_reducible apply an_V) | (with_reducible apply an_A))
  refine loop (n - a) a (nI 0) _ (by omega) ?_
  unfold tkL
  generalize lrF tx (n - a) a (nI 0) = q at hle hLL hnm hgt
  obtain ⟨e, x⟩ := q
  simp only at hle hLL hnm hgt ⊢
  have es : nI e - nI a = nI (e - a) := pk_sub hle.1
  have hW := fun h x v => m_word h S T.length g1 g2 x v hl
  by_cases q6 : 6 < e - a
  · have c6 : ¬ nI (e - a) ≤ nI 6 := nI_ge q6 (by omega)
    rw [if_pos q6]
    repeat' (first | ((first | with_reducible refine b_X11_letters_0 ?_ | with_reducible refine b_X11_letters_2 ?_ | with_reducible refine b_X11_letters_10 ?_ | with_reducible refine b_X11_letters_13 ?_ | with_reducible refine b_X11_letters_19 ?_ | with_reducible refine b_X11_letters_27 ?_ | with_reducible refine b_X11_letters_31 ?_ | with_reducible refine b_X11_letters_37 ?_ | with_reducible refine b_X11_letters_50 ?_ | with_reducible refine b_X11_letters_59 ?_ | with_reducible refine b_X11_letters_88 ?_ | with_reducible refine b_X11_letters_93 ?_ | with_reducible refine b_X11_letters_97 ?_ | with_reducible refine b_X11_letters_105 ?_ | with_reducible refine b_X11_letters_110 ?_ | with_reducible refine b_X11_letters_112 ?_ | with_reducible refine b_X11_letters_117 ?_) <;> (try simp only [o_al, o_c, o_get, o_i2l, o_iadd, o_iald, o_il, o_inc, o_is, o_isub, o_ladd, o_lc, o_ll, o_lmul, o_ls, o_lsub, t_1, t_2, t_ir, decide_true, decide_false, Bool.decide_eq_true, Bool.not_eq_false, Bool.not_eq_true, bft, btf, false_implies, true_implies, decide_eq_true_eq, decide_eq_false_iff_not, fv, st1, st2, kl, cat1, List.getElem?_cons_zero, List.getElem?_cons_succ, List.set_cons_zero, List.set_cons_succ, List.length_cons, List.length_nil, List.forall_mem_cons, List.not_mem_nil, Option.toList_some, Option.toList_none, List.cons_append, List.nil_append, and_true, true_and, and_self, reduceIte, Nat.reduceEqDiff, Nat.reduceLT, Nat.reduceAdd, Nat.lt_add_one, Nat.zero_lt_one, Nat.reduceLeDiff, false_and, and_false, forall_const, eq_self, not_true_eq_false, not_false_eq_true, implies_true, forall_eq, b2i_t, b2i_f, true_or, or_true, or_self, or_false, false_or, z01, z10, d10, d01, b2i_01, b2i_d, b2i_eq0, b2i_eq1, b2i_inj, Bool.true_eq_false, Bool.false_eq_true, gi_si, gi_sl, gi_sz, gi_sr, gi_sa, gi_sb, gi_sy, gl_si, gl_sl, gl_sz, gl_sr, gl_sa, gl_sb, gl_sy, gz_si, gz_sl, gz_sz, gz_sr, gz_sa, gz_sb, gz_sy, gr_si, gr_sl, gr_sz, gr_sr, gr_sa, gr_sb, gr_sy, ga_si, ga_sl, ga_sz, ga_sr, ga_sa, ga_sb, ga_sy, gb_si, gb_sl, gb_sz, gb_sr, gb_sa, gb_sb, gb_sy, gy_si, gy_sl, gy_sz, gy_sr, gy_sa, gy_sb, gy_sy, NI_11, NI_40, LY_11, LY_40, es, c6])) | ((with_reducible apply br_V) <;> intro hc) | ((with_reducible apply br_C) <;> try intro hc) | (with_reducible apply an_I) | (with_reducible apply an_V) | (with_reducible apply an_A))
    refine name (min e (a + 6) - a) a 0 e _ _ (by omega) (by omega) (Nat.le_refl _) hLL ?_
    have c1 : ¬ nI 0 ≤ (-1 : Int32) := by decide
    have c2 : (-1 : Int32) < nI 0 := by decide
    repeat' (first | ((first | with_reducible refine b_X11_letters_0 ?_ | with_reducible refine b_X11_letters_2 ?_ | with_reducible refine b_X11_letters_10 ?_ | with_reducible refine b_X11_letters_13 ?_ | with_reducible refine b_X11_letters_19 ?_ | with_reducible refine b_X11_letters_27 ?_ | with_reducible refine b_X11_letters_31 ?_ | with_reducible refine b_X11_letters_37 ?_ | with_reducible refine b_X11_letters_44 ?_ | with_reducible refine b_X11_letters_50 ?_ | with_reducible refine b_X11_letters_59 ?_ | with_reducible refine b_X11_letters_88 ?_ | with_reducible refine b_X11_letters_93 ?_ | with_reducible refine b_X11_letters_97 ?_ | with_reducible refine b_X11_letters_105 ?_ | with_reducible refine b_X11_letters_110 ?_ | with_reducible refine b_X11_letters_112 ?_ | ((with_reducible refine k_X11_letters_114 (hW _ _ _) ?_ (by first | decide | assumption | (simp only [NI]; omega)) (Nat.le_of_ble_eq_true rfl)); rintro r S' ⟨rfl, rfl⟩) | with_reducible refine b_X11_letters_117 ?_) <;> (try simp only [o_al, o_c, o_get, o_i2l, o_iadd, o_iald, o_il, o_inc, o_is, o_isub, o_ladd, o_lc, o_ll, o_lmul, o_ls, o_lsub, t_1, t_2, t_ir, decide_true, decide_false, Bool.decide_eq_true, Bool.not_eq_false, Bool.not_eq_true, bft, btf, false_implies, true_implies, decide_eq_true_eq, decide_eq_false_iff_not, fv, st1, st2, kl, cat1, List.getElem?_cons_zero, List.getElem?_cons_succ, List.set_cons_zero, List.set_cons_succ, List.length_cons, List.length_nil, List.forall_mem_cons, List.not_mem_nil, Option.toList_some, Option.toList_none, List.cons_append, List.nil_append, and_true, true_and, and_self, reduceIte, Nat.reduceEqDiff, Nat.reduceLT, Nat.reduceAdd, Nat.lt_add_one, Nat.zero_lt_one, Nat.reduceLeDiff, false_and, and_false, forall_const, eq_self, not_true_eq_false, not_false_eq_true, implies_true, forall_eq, b2i_t, b2i_f, true_or, or_true, or_self, or_false, false_or, z01, z10, d10, d01, b2i_01, b2i_d, b2i_eq0, b2i_eq1, b2i_inj, Bool.true_eq_false, Bool.false_eq_true, gi_si, gi_sl, gi_sz, gi_sr, gi_sa, gi_sb, gi_sy, gl_si, gl_sl, gl_sz, gl_sr, gl_sa, gl_sb, gl_sy, gz_si, gz_sl, gz_sz, gz_sr, gz_sa, gz_sb, gz_sy, gr_si, gr_sl, gr_sz, gr_sr, gr_sa, gr_sb, gr_sy, ga_si, ga_sl, ga_sz, ga_sr, ga_sa, ga_sb, ga_sy, gb_si, gb_sl, gb_sz, gb_sr, gb_sa, gb_sb, gb_sy, gy_si, gy_sl, gy_sz, gy_sr, gy_sa, gy_sb, gy_sy, NI_11, NI_40, LY_11, LY_40, es, c6, c1, c2])) | ((with_reducible apply br_V) <;> intro hc) | ((with_reducible apply br_C) <;> try intro hc) | (with_reducible apply an_I) | (with_reducible apply an_V) | (with_reducible apply an_A))
    all_goals first | exact lxq hcm (TR_no _ rfl) rfl | trace_state
  · have c6 : nI (e - a) ≤ nI 6 := nI_le (by omega) (by decide)
    have hR := fun h => m_reserved h (mS S T.length g1 g2) n tx a e hT' hle.1 (by omega) (by omega) hLL
    rw [if_neg q6]
    have hv := nm_VNm tx (e - a) a 0 0 0 ⟨rfl, rfl⟩ (fun i h1 h2 => hLL i h1 (by omega))
    have hp := nm32_pos tx (e - a) a 0 (fun i h1 h2 => hLL i h1 (by omega)) (by omega)
    have tail := fun r Q => name (e - a) a 0 e r Q (by omega) (by omega) (Nat.le_refl _) hLL
    rcases res_cs tx a e 22 0 rfl with ⟨r1, r2⟩ | ⟨q, hq, r1, r2⟩
    · rw [r1] at hR
      rw [r2]
      have c1 : ¬ nI 0 ≤ (-1 : Int32) := by decide
      have c2 : (-1 : Int32) < nI 0 := by decide
      repeat' (first | ((first | with_reducible refine b_X11_letters_0 ?_ | with_reducible refine b_X11_letters_2 ?_ | with_reducible refine b_X11_letters_10 ?_ | with_reducible refine b_X11_letters_13 ?_ | with_reducible refine b_X11_letters_19 ?_ | with_reducible refine b_X11_letters_27 ?_ | with_reducible refine b_X11_letters_31 ?_ | ((with_reducible refine k_X11_letters_34 (hR _) ?_ (by first | decide | assumption | (simp only [NI]; omega)) (Nat.le_of_ble_eq_true rfl)); rintro r S' ⟨rfl, rfl⟩) | with_reducible refine b_X11_letters_37 ?_ | with_reducible refine b_X11_letters_50 ?_ | with_reducible refine b_X11_letters_59 ?_ | with_reducible refine b_X11_letters_88 ?_ | with_reducible refine b_X11_letters_93 ?_ | with_reducible refine b_X11_letters_97 ?_ | with_reducible refine b_X11_letters_105 ?_ | with_reducible refine b_X11_letters_110 ?_ | with_reducible refine b_X11_letters_112 ?_ | with_reducible refine b_X11_letters_117 ?_) <;> (try simp only [o_al, o_c, o_get, o_i2l, o_iadd, o_iald, o_il, o_inc, o_is, o_isub, o_ladd, o_lc, o_ll, o_lmul, o_ls, o_lsub, t_1, t_2, t_ir, decide_true, decide_false, Bool.decide_eq_true, Bool.not_eq_false, Bool.not_eq_true, bft, btf, false_implies, true_implies, decide_eq_true_eq, decide_eq_false_iff_not, fv, st1, st2, kl, cat1, List.getElem?_cons_zero, List.getElem?_cons_succ, List.set_cons_zero, List.set_cons_succ, List.length_cons, List.length_nil, List.forall_mem_cons, List.not_mem_nil, Option.toList_some, Option.toList_none, List.cons_append, List.nil_append, and_true, true_and, and_self, reduceIte, Nat.reduceEqDiff, Nat.reduceLT, Nat.reduceAdd, Nat.lt_add_one, Nat.zero_lt_one, Nat.reduceLeDiff, false_and, and_false, forall_const, eq_self, not_true_eq_false, not_false_eq_true, implies_true, forall_eq, b2i_t, b2i_f, true_or, or_true, or_self, or_false, false_or, z01, z10, d10, d01, b2i_01, b2i_d, b2i_eq0, b2i_eq1, b2i_inj, Bool.true_eq_false, Bool.false_eq_true, gi_si, gi_sl, gi_sz, gi_sr, gi_sa, gi_sb, gi_sy, gl_si, gl_sl, gl_sz, gl_sr, gl_sa, gl_sb, gl_sy, gz_si, gz_sl, gz_sz, gz_sr, gz_sa, gz_sb, gz_sy, gr_si, gr_sl, gr_sz, gr_sr, gr_sa, gr_sb, gr_sy, ga_si, ga_sl, ga_sz, ga_sr, ga_sa, ga_sb, ga_sy, gb_si, gb_sl, gb_sz, gb_sr, gb_sa, gb_sb, gb_sy, gy_si, gy_sl, gy_sz, gy_sr, gy_sa, gy_sb, gy_sy, NI_11, NI_40, LY_11, LY_40, es, c6])) | ((with_reducible apply br_V) <;> intro hc) | ((with_reducible apply br_C) <;> try intro hc) | (with_reducible apply an_I) | (with_reducible apply an_V) | (with_reducible apply an_A))
      refine tail _ _ ?_
      repeat' (first | ((first | with_reducible refine b_X11_letters_0 ?_ | with_reducible refine b_X11_letters_2 ?_ | with_reducible refine b_X11_letters_10 ?_ | with_reducible refine b_X11_letters_13 ?_ | with_reducible refine b_X11_letters_19 ?_ | with_reducible refine b_X11_letters_27 ?_ | with_reducible refine b_X11_letters_31 ?_ | with_reducible refine b_X11_letters_37 ?_ | with_reducible refine b_X11_letters_44 ?_ | with_reducible refine b_X11_letters_50 ?_ | with_reducible refine b_X11_letters_59 ?_ | with_reducible refine b_X11_letters_88 ?_ | with_reducible refine b_X11_letters_93 ?_ | with_reducible refine b_X11_letters_97 ?_ | with_reducible refine b_X11_letters_105 ?_ | with_reducible refine b_X11_letters_110 ?_ | with_reducible refine b_X11_letters_112 ?_ | ((with_reducible refine k_X11_letters_114 (hW _ _ _) ?_ (by first | decide | assumption | (simp only [NI]; omega)) (Nat.le_of_ble_eq_true rfl)); rintro r S' ⟨rfl, rfl⟩) | with_reducible refine b_X11_letters_117 ?_) <;> (try simp only [o_al, o_c, o_get, o_i2l, o_iadd, o_iald, o_il, o_inc, o_is, o_isub, o_ladd, o_lc, o_ll, o_lmul, o_ls, o_lsub, t_1, t_2, t_ir, decide_true, decide_false, Bool.decide_eq_true, Bool.not_eq_false, Bool.not_eq_true, bft, btf, false_implies, true_implies, decide_eq_true_eq, decide_eq_false_iff_not, fv, st1, st2, kl, cat1, List.getElem?_cons_zero, List.getElem?_cons_succ, List.set_cons_zero, List.set_cons_succ, List.length_cons, List.length_nil, List.forall_mem_cons, List.not_mem_nil, Option.toList_some, Option.toList_none, List.cons_append, List.nil_append, and_true, true_and, and_self, reduceIte, Nat.reduceEqDiff, Nat.reduceLT, Nat.reduceAdd, Nat.lt_add_one, Nat.zero_lt_one, Nat.reduceLeDiff, false_and, and_false, forall_const, eq_self, not_true_eq_false, not_false_eq_true, implies_true, forall_eq, b2i_t, b2i_f, true_or, or_true, or_self, or_false, false_or, z01, z10, d10, d01, b2i_01, b2i_d, b2i_eq0, b2i_eq1, b2i_inj, Bool.true_eq_false, Bool.false_eq_true, gi_si, gi_sl, gi_sz, gi_sr, gi_sa, gi_sb, gi_sy, gl_si, gl_sl, gl_sz, gl_sr, gl_sa, gl_sb, gl_sy, gz_si, gz_sl, gz_sz, gz_sr, gz_sa, gz_sb, gz_sy, gr_si, gr_sl, gr_sz, gr_sr, gr_sa, gr_sb, gr_sy, ga_si, ga_sl, ga_sz, ga_sr, ga_sa, ga_sb, ga_sy, gb_si, gb_sl, gb_sz, gb_sr, gb_sa, gb_sb, gb_sy, gy_si, gy_sl, gy_sz, gy_sr, gy_sa, gy_sb, gy_sy, NI_11, NI_40, LY_11, LY_40, es, c6, c1, c2])) | ((with_reducible apply br_V) <;> intro hc) | ((with_reducible apply br_C) <;> try intro hc) | (with_reducible apply an_I) | (with_reducible apply an_V) | (with_reducible apply an_A))
      refine lxq hcm ⟨⟨(2, 50), by decide, rfl, rfl⟩, fun _ => ?_, fun h => ?_⟩ rfl
      · have h6 := VNm_le hv (6 - (0 + (e - a)))
        rw [show 0 + (e - a) + (6 - (0 + (e - a))) = 6 by omega] at h6
        exact ⟨_, _, h6, by omega, hnm, rfl⟩
      · rcases h with h | h
        · exact absurd (show nI 2 = nI 3 from h) (by decide)
        · exact absurd (show nI 2 = nI 4 from h) (by decide)
    · rw [r1] at hR
      rw [r2]
      have c1 : nI 0 ≤ nI q := nI_le (by omega) (by omega)
      have c2 : ¬ nI q < nI 0 := nI_nlt (by omega) (by omega)
      repeat' (first | ((first | with_reducible refine b_X11_letters_0 ?_ | with_reducible refine b_X11_letters_2 ?_ | with_reducible refine b_X11_letters_10 ?_ | with_reducible refine b_X11_letters_13 ?_ | with_reducible refine b_X11_letters_19 ?_ | with_reducible refine b_X11_letters_27 ?_ | with_reducible refine b_X11_letters_31 ?_ | ((with_reducible refine k_X11_letters_34 (hR _) ?_ (by first | decide | assumption | (simp only [NI]; omega)) (Nat.le_of_ble_eq_true rfl)); rintro r S' ⟨rfl, rfl⟩) | with_reducible refine b_X11_letters_37 ?_ | with_reducible refine b_X11_letters_50 ?_ | with_reducible refine b_X11_letters_59 ?_ | with_reducible refine b_X11_letters_88 ?_ | with_reducible refine b_X11_letters_93 ?_ | with_reducible refine b_X11_letters_97 ?_ | with_reducible refine b_X11_letters_105 ?_ | with_reducible refine b_X11_letters_110 ?_ | with_reducible refine b_X11_letters_112 ?_ | with_reducible refine b_X11_letters_117 ?_) <;> (try simp only [o_al, o_c, o_get, o_i2l, o_iadd, o_iald, o_il, o_inc, o_is, o_isub, o_ladd, o_lc, o_ll, o_lmul, o_ls, o_lsub, t_1, t_2, t_ir, decide_true, decide_false, Bool.decide_eq_true, Bool.not_eq_false, Bool.not_eq_true, bft, btf, false_implies, true_implies, decide_eq_true_eq, decide_eq_false_iff_not, fv, st1, st2, kl, cat1, List.getElem?_cons_zero, List.getElem?_cons_succ, List.set_cons_zero, List.set_cons_succ, List.length_cons, List.length_nil, List.forall_mem_cons, List.not_mem_nil, Option.toList_some, Option.toList_none, List.cons_append, List.nil_append, and_true, true_and, and_self, reduceIte, Nat.reduceEqDiff, Nat.reduceLT, Nat.reduceAdd, Nat.lt_add_one, Nat.zero_lt_one, Nat.reduceLeDiff, false_and, and_false, forall_const, eq_self, not_true_eq_false, not_false_eq_true, implies_true, forall_eq, b2i_t, b2i_f, true_or, or_true, or_self, or_false, false_or, z01, z10, d10, d01, b2i_01, b2i_d, b2i_eq0, b2i_eq1, b2i_inj, Bool.true_eq_false, Bool.false_eq_true, gi_si, gi_sl, gi_sz, gi_sr, gi_sa, gi_sb, gi_sy, gl_si, gl_sl, gl_sz, gl_sr, gl_sa, gl_sb, gl_sy, gz_si, gz_sl, gz_sz, gz_sr, gz_sa, gz_sb, gz_sy, gr_si, gr_sl, gr_sz, gr_sr, gr_sa, gr_sb, gr_sy, ga_si, ga_sl, ga_sz, ga_sr, ga_sa, ga_sb, ga_sy, gb_si, gb_sl, gb_sz, gb_sr, gb_sa, gb_sb, gb_sy, gy_si, gy_sl, gy_sz, gy_sr, gy_sa, gy_sb, gy_sy, NI_11, NI_40, LY_11, LY_40, es, c6])) | ((with_reducible apply br_V) <;> intro hc) | ((with_reducible apply br_C) <;> try intro hc) | (with_reducible apply an_I) | (with_reducible apply an_V) | (with_reducible apply an_A))
      refine tail _ _ ?_
      repeat' (first | ((first | with_reducible refine b_X11_letters_0 ?_ | with_reducible refine b_X11_letters_2 ?_ | with_reducible refine b_X11_letters_10 ?_ | with_reducible refine b_X11_letters_13 ?_ | with_reducible refine b_X11_letters_19 ?_ | with_reducible refine b_X11_letters_27 ?_ | with_reducible refine b_X11_letters_31 ?_ | with_reducible refine b_X11_letters_37 ?_ | with_reducible refine b_X11_letters_44 ?_ | with_reducible refine b_X11_letters_50 ?_ | with_reducible refine b_X11_letters_59 ?_ | with_reducible refine b_X11_letters_88 ?_ | with_reducible refine b_X11_letters_93 ?_ | with_reducible refine b_X11_letters_97 ?_ | with_reducible refine b_X11_letters_105 ?_ | with_reducible refine b_X11_letters_110 ?_ | with_reducible refine b_X11_letters_112 ?_ | ((with_reducible refine k_X11_letters_114 (hW _ _ _) ?_ (by first | decide | assumption | (simp only [NI]; omega)) (Nat.le_of_ble_eq_true rfl)); rintro r S' ⟨rfl, rfl⟩) | with_reducible refine b_X11_letters_117 ?_) <;> (try simp only [o_al, o_c, o_get, o_i2l, o_iadd, o_iald, o_il, o_inc, o_is, o_isub, o_ladd, o_lc, o_ll, o_lmul, o_ls, o_lsub, t_1, t_2, t_ir, decide_true, decide_false, Bool.decide_eq_true, Bool.not_eq_false, Bool.not_eq_true, bft, btf, false_implies, true_implies, decide_eq_true_eq, decide_eq_false_iff_not, fv, st1, st2, kl, cat1, List.getElem?_cons_zero, List.getElem?_cons_succ, List.set_cons_zero, List.set_cons_succ, List.length_cons, List.length_nil, List.forall_mem_cons, List.not_mem_nil, Option.toList_some, Option.toList_none, List.cons_append, List.nil_append, and_true, true_and, and_self, reduceIte, Nat.reduceEqDiff, Nat.reduceLT, Nat.reduceAdd, Nat.lt_add_one, Nat.zero_lt_one, Nat.reduceLeDiff, false_and, and_false, forall_const, eq_self, not_true_eq_false, not_false_eq_true, implies_true, forall_eq, b2i_t, b2i_f, true_or, or_true, or_self, or_false, false_or, z01, z10, d10, d01, b2i_01, b2i_d, b2i_eq0, b2i_eq1, b2i_inj, Bool.true_eq_false, Bool.false_eq_true, gi_si, gi_sl, gi_sz, gi_sr, gi_sa, gi_sb, gi_sy, gl_si, gl_sl, gl_sz, gl_sr, gl_sa, gl_sb, gl_sy, gz_si, gz_sl, gz_sz, gz_sr, gz_sa, gz_sb, gz_sy, gr_si, gr_sl, gr_sz, gr_sr, gr_sa, gr_sb, gr_sy, ga_si, ga_sl, ga_sz, ga_sr, ga_sa, ga_sb, ga_sy, gb_si, gb_sl, gb_sz, gb_sr, gb_sa, gb_sb, gb_sy, gy_si, gy_sl, gy_sz, gy_sr, gy_sa, gy_sb, gy_sy, NI_11, NI_40, LY_11, LY_40, es, c6, c1, c2])) | ((with_reducible apply br_V) <;> intro hc) | ((with_reducible apply br_C) <;> try intro hc) | (with_reducible apply an_I) | (with_reducible apply an_V) | (with_reducible apply an_A))
      have hk : ∀ q, q < 22 → (200 + q, q) ∈ kps := by decide
      refine lxq hcm ⟨⟨(200 + q, q), hk q hq, rfl, rfl⟩, fun h => ?_, fun h => ?_⟩ rfl
      · simp only [n_eqE (show 200 + q < 2 ^ 31 by omega) (show 2 < 2 ^ 31 by decide)] at h
        omega
      · simp only [n_eqE (show 200 + q < 2 ^ 31 by omega) (show 3 < 2 ^ 31 by decide), n_eqE (show 200 + q < 2 ^ 31 by omega) (show 4 < 2 ^ 31 by decide)] at h
        omega
end
