-- deps: 373
-- class and model, call by call
def ResM0 (S : ST) (n c : Nat) (val : Nat → Nat → Int32) (mis : Nat → Nat → Bool) : Prop := gi S 11 30 0 = nI n ∧ gi S 11 31 0 = nI c ∧ ∀ i, i < n → ∀ b, b < c → ga S 60 0 (4 * i + b) = val i b ∧ gy S 61 0 (4 * i + b) = mis i b
/-- what holds of both between two calls -/
def LInv (S : ST) : Prop := ∃ (d : DB) (jr jf n : Nat) (tx : Nat → Nat) (rn rc : Nat) (val : Nat → Nat → Int32) (mis : Nat → Nat → Bool), InvC S d jr jf ∧ DbW d ∧ AbsM S d ∧ gi S 10 1 0 = nI n ∧ TxC S n tx ∧ TxM S n tx ∧ ResC S rn rc val mis ∧ ResM0 S rn rc val mis
/-- two calls answer the same -/
def Pair (Mc Mm : MD) (As : List AV) (S : ST) : Prop := ∃ Qc : Option AV → ST → Prop, Ct Mc 300 (vR 10 0 :: As) S Qc ∧ ∀ r S1, Qc r S1 → ∃ x : Int32, r = some (vI x) ∧ ∃ Qm : Option AV → ST → Prop, Ct Mm 300 (vR 11 0 :: As) S1 Qm ∧ ∀ r' S2, Qm r' S2 → r' = some (vI x) ∧ LInv S2
theorem pair_c {Mc Mm : MD} {As : List AV} {S : ST} (h : LInv S) (x : Int32) (hc : Ct Mc 300 (vR 10 0 :: As) S (fun r S' => r = some (vI x) ∧ S' = S)) (hm : Ct Mm 300 (vR 11 0 :: As) S (fun r S' => r = some (vI x) ∧ S' = S)) : Pair Mc Mm As S := by
  refine ⟨_, hc, ?_⟩
  rintro r S1 ⟨rfl, rfl⟩
  refine ⟨x, rfl, _, hm, ?_⟩
  rintro r S2 ⟨rfl, rfl⟩
  exact ⟨rfl, h⟩
theorem shN_hN (z : Bool) (x : Int32) : shN (hN z x) = nrm z x := by
  unfold shN
  cases z
  · rw [hN_f, if_neg (i64_ne x)]
    show x.toInt64.toInt32 = x
    exact Int32.toInt32_toInt64 x
  · rw [hN_t, if_pos rfl]
    rfl
theorem nrm_0 {z : Bool} {x : Int32} (h : z = true → x = nI 0) : nrm z x = x := by
  cases z
  · rfl
  · rw [h rfl]; rfl
section
variable {S : ST}
theorem p_bounded (h : LInv S) : Pair MX10_bounded MX11_bounded [] S := by
  obtain ⟨d, jr, jf, n, tx, rn, rc, val, mis, hI, h2⟩ := id h
  have hr := hI.2.2.1
  refine pair_c h (nI 1) ?_ (c_mbounded 300 S)
  have := c_bounded 299 S
  rw [decide_eq_true hr.2.1] at this
  exact this
theorem p_sound (h : LInv S) : Pair MX10_sound MX11_sound [] S := by
  obtain ⟨d, jr, jf, n, tx, rn, rc, val, mis, hI, h2⟩ := id h
  have hr := hI.2.2.1
  refine pair_c h (nI 1) ?_ (c_msound 300 S)
  have := c_sound 299 S
  rw [hr.1] at this
  exact this
theorem p_rows (h : LInv S) : Pair MX10_rows MX11_rows [] S := by
  obtain ⟨d, jr, jf, n, tx, rn, rc, val, mis, hI, h2, h3, h4, h5, h6, ⟨jr', jf', od, ⟨j1, j2, j3, j4, j5⟩, ⟨r1, r2, r3, r4⟩, r5, r6⟩, m1, m2, m3⟩ := id h
  refine pair_c h (nI rn) ?_ (by have := c_mrows 300 S; rw [m1] at this; exact this)
  have := c_rows 299 S (by rw [j4]; exact j1)
  rw [j4, r1] at this
  exact this
theorem p_items (h : LInv S) : Pair MX10_items MX11_items [] S := by
  obtain ⟨d, jr, jf, n, tx, rn, rc, val, mis, hI, h2, h3, h4, h5, h6, ⟨jr', jf', od, ⟨j1, j2, j3, j4, j5⟩, ⟨r1, r2, r3, r4⟩, r5, r6⟩, m1, m2, m3⟩ := id h
  refine pair_c h (nI rc) ?_ (by have := c_mitems 300 S; rw [m2] at this; exact this)
  have := c_items 299 S (by rw [j4]; exact j1)
  rw [j4, r2] at this
  exact this
theorem p_value (h : LInv S) (x y : Int32) : Pair MX10_value MX11_value [vI x, vI y] S := by
  obtain ⟨d, jr, jf, n, tx, rn, rc, val, mis, hI, h2, h3, h4, h5, h6, ⟨jr', jf', od, ⟨j1, j2, j3, j4, j5⟩, ⟨r1, r2, r3, r4⟩, r5, r6⟩, m1, m2, m3⟩ := id h
  by_cases hb : inB x y rn rc
  · obtain ⟨a, b, ha, hb', rfl, rfl⟩ := inB_n hb (by omega) (by omega)
    refine pair_c h (val a b) ?_ (by have := c_mvalueT 299 S rn rc a b m1 m2 r3 r4 ha hb'; rw [(m3 a ha b hb').1] at this; exact this)
    have := c_valueT 298 S rn rc a b (od a) (by rw [j4]; exact j1) (by rw [j4]; exact r1) (by rw [j4]; exact r2) r3 r4 ha hb' (by rw [j4]; exact (r5 a ha).1) (r5 a ha).2
    rw [j4, (r6 a ha b hb').1, shN_hN, nrm_0 (r6 a ha b hb').2] at this
    exact this
  · exact pair_c h (-1) (c_valueF 298 S x y rn rc (by rw [j4]; exact j1) (by rw [j4]; exact r1) (by rw [j4]; exact r2) hb) (c_mvalueF 299 S x y rn rc m1 m2 hb)
theorem p_isNull (h : LInv S) (x y : Int32) : Pair MX10_isNull MX11_isNull [vI x, vI y] S := by
  obtain ⟨d, jr, jf, n, tx, rn, rc, val, mis, hI, h2, h3, h4, h5, h6, ⟨jr', jf', od, ⟨j1, j2, j3, j4, j5⟩, ⟨r1, r2, r3, r4⟩, r5, r6⟩, m1, m2, m3⟩ := id h
  by_cases hb : inB x y rn rc
  · obtain ⟨a, b, ha, hb', rfl, rfl⟩ := inB_n hb (by omega) (by omega)
    refine pair_c h (b2i (mis a b)) ?_ (by have := c_misNullT 299 S rn rc a b m1 m2 r3 r4 ha hb'; rw [(m3 a ha b hb').2] at this; exact this)
    have := c_isNullT 298 S rn rc a b (od a) (by rw [j4]; exact j1) (by rw [j4]; exact r1) (by rw [j4]; exact r2) r3 r4 ha hb' (by rw [j4]; exact (r5 a ha).1) (r5 a ha).2
    rw [j4, (r6 a ha b hb').1] at this
    simp only [hN_eq, Bool.decide_eq_true] at this
    exact this
  · exact pair_c h (nI 0) (c_isNullF 298 S x y rn rc (by rw [j4]; exact j1) (by rw [j4]; exact r1) (by rw [j4]; exact r2) hb) (c_misNullF 299 S x y rn rc m1 m2 hb)
theorem lt_n {x : Int32} {n : Nat} (h : ¬ x < nI 0 ∧ ¬ nI n ≤ x) (hn : n ≤ 1000) : ∃ a, a < n ∧ x = nI a := by
  have := inB_n (x := x) (y := nI 0) (n := n) (c := 1) ⟨h, by decide, by decide⟩ hn (by decide)
  obtain ⟨a, b, ha, _, e, _⟩ := this
  exact ⟨a, ha, e⟩
theorem p_size (h : LInv S) (x : Int32) : Pair MX10_size MX11_size [vI x] S := by
  obtain ⟨d, jr, jf, n, tx, rn, rc, val, mis, hI, h2, h3, h4⟩ := id h
  have hd := hI.1
  by_cases hb : ¬ x < nI 0 ∧ ¬ nI (dC d) ≤ x
  · obtain ⟨a, ha, rfl⟩ := lt_n hb (by have := hd.1.2; omega)
    have ha4 : a < 4 := by have := hd.1.2; omega
    refine pair_c h (nI (dR d a)) ?_ (by have := c_msizeT 300 S (dC d) a h3.1 h3.2.1 ha; rw [(h3.2.2 a ha).2.1.2.1] at this; exact this)
    have := c_sizeT 299 S (dC d) a hd.1.1 hd.1.2 ha
    rw [(hd.2 a ha4).1.2.2] at this
    exact this
  · exact pair_c h (-1) (c_sizeF 299 S (dC d) x hd.1.1 hb) (c_msizeF 300 S x (dC d) h3.1 hb)
theorem p_cell (h : LInv S) (t x y : Int32) : Pair MX10_cell MX11_cell [vI t, vI x, vI y] S := by
  obtain ⟨d, jr, jf, n, tx, rn, rc, val, mis, hI, h2, h3, h4⟩ := id h
  have hd := hI.1
  by_cases hb : ¬ t < nI 0 ∧ ¬ nI (dC d) ≤ t
  · obtain ⟨a, ha, rfl⟩ := lt_n hb (by have := hd.1.2; omega)
    have ha4 : a < 4 := by have := hd.1.2; omega
    obtain ⟨⟨d1, d2, d3⟩, ⟨d4, d5⟩, d6, d7, d8, d9⟩ := hd.2 a ha4
    obtain ⟨b1, ⟨b2, b3, b4, b5⟩, b6⟩ := h3.2.2 a ha
    by_cases hq : inB x y (dR d a) (dK d a)
    · obtain ⟨r, c, hr, hc, rfl, rfl⟩ := inB_n hq (by omega) (by omega)
      refine pair_c h (dV d a (r * 4 + c)) ?_ (by have := c_mcellT 300 S (dC d) a (dR d a) (dK d a) r c h3.1 h3.2.1 ha b3 b2 d5 d4 hr hc; rw [((b6 c hc).2 r hr).1] at this; exact this)
      have := c_cellT 298 S (dC d) a (dR d a) (dK d a) r c hd.1.1 hd.1.2 ha d3 d2 d5 d4 hr hc
      rw [d8, eN_at, shN_hN, nrm_0 ((h2.2.2 a ha c hc).2 r hr)] at this
      exact this
    · exact pair_c h (-1) (c_cellF 298 S (dC d) a (dR d a) (dK d a) x y hd.1.1 hd.1.2 ha d3 d2 hq) (c_mcellF 300 S (dC d) a (dR d a) (dK d a) x y h3.1 h3.2.1 ha b3 b2 hq)
  · exact pair_c h (-1) (c_cellG 298 S (dC d) t x y hd.1.1 hb) (c_mcellG 300 S (dC d) t x y h3.1 h3.2.1 hb)
theorem p_unit (h : LInv S) (u : Int32) : Pair MX10_unit MX11_unit [vI u] S := by
  obtain ⟨d, jr, jf, n, tx, rn, rc, val, mis, hI, h2, h3, h4, h5, h6, h7, h8⟩ := id h
  have hn := h6.2.1
  refine ⟨_, c_unit 300 S u n h4 hn, ?_⟩
  rintro r S1 (⟨hu, hlt, rfl, rfl⟩ | ⟨hu, rfl, rfl⟩)
  · refine ⟨nI 1, rfl, _, c_munit 300 _ u n (by simp only [gi_si, gi_sl, gi_sz, gi_sr, gi_sa, gi_sb, gi_sy, gl_si, gl_sl, gl_sz, gl_sr, gl_sa, gl_sb, gl_sy, gz_si, gz_sl, gz_sz, gz_sr, gz_sa, gz_sb, gz_sy, gr_si, gr_sl, gr_sz, gr_sr, gr_sa, gr_sb, gr_sy, ga_si, ga_sl, ga_sz, ga_sr, ga_sa, ga_sb, ga_sy, gb_si, gb_sl, gb_sz, gb_sr, gb_sa, gb_sb, gb_sy, gy_si, gy_sl, gy_sz, gy_sr, gy_sa, gy_sb, gy_sy, reduceIte, Nat.reduceEqDiff, and_true, true_and, and_self, false_and, and_false]; exact h6.1) hn, ?_⟩
    rintro r S2 (⟨_, _, rfl, rfl⟩ | ⟨hu', _⟩)
    · obtain ⟨m, hm1, hm2, rfl⟩ := okU_n hu
      refine ⟨rfl, d, jr, jf, n + 1, up1 tx n m, rn, rc, val, mis, ?_, h2, ?_, by simp only [gi_si, gi_sl, gi_sz, gi_sr, gi_sa, gi_sb, gi_sy, gl_si, gl_sl, gl_sz, gl_sr, gl_sa, gl_sb, gl_sy, gz_si, gz_sl, gz_sz, gz_sr, gz_sa, gz_sb, gz_sy, gr_si, gr_sl, gr_sz, gr_sr, gr_sa, gr_sb, gr_sy, ga_si, ga_sl, ga_sz, ga_sr, ga_sa, ga_sb, ga_sy, gb_si, gb_sl, gb_sz, gb_sr, gb_sa, gb_sb, gb_sy, gy_si, gy_sl, gy_sz, gy_sr, gy_sa, gy_sb, gy_sy, reduceIte, Nat.reduceEqDiff, and_true, true_and, and_self, false_and, and_false], ⟨by omega, fun i hi => ?_⟩, ⟨by simp only [gi_si, gi_sl, gi_sz, gi_sr, gi_sa, gi_sb, gi_sy, gl_si, gl_sl, gl_sz, gl_sr, gl_sa, gl_sb, gl_sy, gz_si, gz_sl, gz_sz, gz_sr, gz_sa, gz_sb, gz_sy, gr_si, gr_sl, gr_sz, gr_sr, gr_sa, gr_sb, gr_sy, ga_si, ga_sl, ga_sz, ga_sr, ga_sa, ga_sb, ga_sy, gb_si, gb_sl, gb_sz, gb_sr, gb_sa, gb_sb, gb_sy, gy_si, gy_sl, gy_sz, gy_sr, gy_sa, gy_sb, gy_sy, reduceIte, Nat.reduceEqDiff, and_true, true_and, and_self, false_and, and_false], by omega, fun i hi => ?_⟩, ?_, ?_⟩
      · unfold InvC DbC RunK Pil at hI ⊢
        simp only [gi_si, gi_sl, gi_sz, gi_sr, gi_sa, gi_sb, gi_sy, gl_si, gl_sl, gl_sz, gl_sr, gl_sa, gl_sb, gl_sy, gz_si, gz_sl, gz_sz, gz_sr, gz_sa, gz_sb, gz_sy, gr_si, gr_sl, gr_sz, gr_sr, gr_sa, gr_sb, gr_sy, ga_si, ga_sl, ga_sz, ga_sr, ga_sa, ga_sb, ga_sy, gb_si, gb_sl, gb_sz, gb_sr, gb_sa, gb_sb, gb_sy, gy_si, gy_sl, gy_sz, gy_sr, gy_sa, gy_sb, gy_sy, reduceIte, Nat.reduceEqDiff, and_true, true_and, and_self, false_and, and_false]
        exact hI
      · unfold AbsM at h3 ⊢
        simp only [gi_si, gi_sl, gi_sz, gi_sr, gi_sa, gi_sb, gi_sy, gl_si, gl_sl, gl_sz, gl_sr, gl_sa, gl_sb, gl_sy, gz_si, gz_sl, gz_sz, gz_sr, gz_sa, gz_sb, gz_sy, gr_si, gr_sl, gr_sz, gr_sr, gr_sa, gr_sb, gr_sy, ga_si, ga_sl, ga_sz, ga_sr, ga_sa, ga_sb, ga_sy, gb_si, gb_sl, gb_sz, gb_sr, gb_sa, gb_sb, gb_sy, gy_si, gy_sl, gy_sz, gy_sr, gy_sa, gy_sb, gy_sy, reduceIte, Nat.reduceEqDiff, and_true, true_and, and_self, false_and, and_false]
        exact h3
      · simp only [gi_si, gi_sl, gi_sz, gi_sr, gi_sa, gi_sb, gi_sy, gl_si, gl_sl, gl_sz, gl_sr, gl_sa, gl_sb, gl_sy, gz_si, gz_sl, gz_sz, gz_sr, gz_sa, gz_sb, gz_sy, gr_si, gr_sl, gr_sz, gr_sr, gr_sa, gr_sb, gr_sy, ga_si, ga_sl, ga_sz, ga_sr, ga_sa, ga_sb, ga_sy, gb_si, gb_sl, gb_sz, gb_sr, gb_sa, gb_sb, gb_sy, gy_si, gy_sl, gy_sz, gy_sr, gy_sa, gy_sb, gy_sy, reduceIte, Nat.reduceEqDiff, and_true, true_and, and_self, false_and, and_false]
        by_cases e : i = n
        · subst e; simp only [up1, reduceIte]; exact ⟨trivial, hm1, by omega⟩
        · simp only [up1, e, reduceIte]; exact h5.2 i (by omega)
      · simp only [gi_si, gi_sl, gi_sz, gi_sr, gi_sa, gi_sb, gi_sy, gl_si, gl_sl, gl_sz, gl_sr, gl_sa, gl_sb, gl_sy, gz_si, gz_sl, gz_sz, gz_sr, gz_sa, gz_sb, gz_sy, gr_si, gr_sl, gr_sz, gr_sr, gr_sa, gr_sb, gr_sy, ga_si, ga_sl, ga_sz, ga_sr, ga_sa, ga_sb, ga_sy, gb_si, gb_sl, gb_sz, gb_sr, gb_sa, gb_sb, gb_sy, gy_si, gy_sl, gy_sz, gy_sr, gy_sa, gy_sb, gy_sy, reduceIte, Nat.reduceEqDiff, and_true, true_and, and_self, false_and, and_false]
        by_cases e : i = n
        · subst e; simp only [up1, reduceIte]; exact ⟨trivial, hm1, by omega⟩
        · simp only [up1, e, reduceIte]; exact h6.2.2 i (by omega)
      · unfold ResC at h7 ⊢
        simp only [gi_si, gi_sl, gi_sz, gi_sr, gi_sa, gi_sb, gi_sy, gl_si, gl_sl, gl_sz, gl_sr, gl_sa, gl_sb, gl_sy, gz_si, gz_sl, gz_sz, gz_sr, gz_sa, gz_sb, gz_sy, gr_si, gr_sl, gr_sz, gr_sr, gr_sa, gr_sb, gr_sy, ga_si, ga_sl, ga_sz, ga_sr, ga_sa, ga_sb, ga_sy, gb_si, gb_sl, gb_sz, gb_sr, gb_sa, gb_sb, gb_sy, gy_si, gy_sl, gy_sz, gy_sr, gy_sa, gy_sb, gy_sy, reduceIte, Nat.reduceEqDiff, and_true, true_and, and_self, false_and, and_false]
        exact h7
      · unfold ResM0 at h8 ⊢
        simp only [gi_si, gi_sl, gi_sz, gi_sr, gi_sa, gi_sb, gi_sy, gl_si, gl_sl, gl_sz, gl_sr, gl_sa, gl_sb, gl_sy, gz_si, gz_sl, gz_sz, gz_sr, gz_sa, gz_sb, gz_sy, gr_si, gr_sl, gr_sz, gr_sr, gr_sa, gr_sb, gr_sy, ga_si, ga_sl, ga_sz, ga_sr, ga_sa, ga_sb, ga_sy, gb_si, gb_sl, gb_sz, gb_sr, gb_sa, gb_sb, gb_sy, gy_si, gy_sl, gy_sz, gy_sr, gy_sa, gy_sb, gy_sy, reduceIte, Nat.reduceEqDiff, and_true, true_and, and_self, false_and, and_false]
        exact h8
    · exact absurd ⟨hu, hlt⟩ hu'
  · refine ⟨nI 0, rfl, _, c_munit 300 _ u n h6.1 hn, ?_⟩
    rintro r S2 (⟨hu1, hu2, _⟩ | ⟨_, rfl, rfl⟩)
    · exact absurd ⟨hu1, hu2⟩ hu
    · exact ⟨rfl, h⟩
theorem Ord_one {its : IL} {A : AR} {k : Nat} {on : Int32} {desc : Bool} {p q : Nat → Nat} (hl : its.length ≤ 4) (hp : Ord its A k on desc p) (hq : Ord its A k on desc q) : ∀ i, i < k → p i = q i := by
  intro i hi
  rcases hp with ⟨e1, h1⟩ | ⟨x, e1, x1, x2, h1⟩
  · rcases hq with ⟨e2, h2⟩ | ⟨y, e2, y1, y2, h2⟩
    · rw [h1, h2]
    · rw [e2] at e1
      have := n_m1 (n := y) (by omega)
      rw [eq_iff_iff, iff_false] at this
      exact absurd e1 this
  · rcases hq with ⟨e2, h2⟩ | ⟨y, e2, y1, y2, h2⟩
    · rw [e1] at e2
      have := n_m1 (n := x) (by omega)
      rw [eq_iff_iff, iff_false] at this
      exact absurd e2 this
    · rw [e1, n_eqE (by omega) (by omega)] at e2
      subst e2
      exact SO_one h1 h2 i hi
theorem ResC_AG {S1 S2 : ST} {n c : Nat} {val : Nat → Nat → Int32} {mis : Nat → Nat → Bool} (hA : AG pkM S1 S2) (h : ResC S1 n c val mis) : ResC S2 n c val mis := by
  obtain ⟨jr, jf, od, ⟨j1, j2, j3, j4, j5⟩, ⟨r1, r2, r3, r4⟩, r5, r6⟩ := h
  refine ⟨jr, jf, od, ⟨j1, j2, j3, by rw [((hA 2 rfl).1 3 0).2.2.2]; exact j4, by rw [((hA 2 rfl).1 4 0).2.2.2]; exact j5⟩, ⟨by rw [((hA 5 rfl).1 3 jr).1]; exact r1, by rw [((hA 5 rfl).1 4 jr).1]; exact r2, r3, r4⟩, fun i hi => ?_, fun i hi b hb => ?_⟩
  · rw [((hA 20 rfl).2 jr).1]; exact r5 i hi
  · rw [((hA 18 rfl).2 jr).2.1]; exact r6 i hi b hb
theorem p_act (h : LInv S) : Pair MX10_act MX11_act [] S := by
  obtain ⟨d, jr, jf, n, tx, rn, rc, val, mis, hI, hW, hAb, h4, h5, h6, h7, h8⟩ := id h
  have hd := hI.1
  have hL : LimD d := hI.2.1
  refine ⟨_, c_act (arS S) 220 S d jr jf n tx hI h4 h5, ?_⟩
  rintro r S1 ⟨hr, hAG, hD1, hRk, h42, h10, hRes⟩
  refine ⟨_, hr, ?_⟩
  have kA : ∀ c, pkA c = false → pkA c = false := fun c h => h
  have g11 : ∀ k j, gi S1 11 k j = gi S 11 k j := fun k j => ((hAG 11 rfl).1 k j).1
  have gga : ∀ c, pkA c = false → ∀ j, ga S1 c j = ga S c j ∧ gb S1 c j = gb S c j ∧ gy S1 c j = gy S c j := fun c hc j => (hAG c hc).2 j
  have hAb1 : AbsM S1 d := by
    unfold AbsM at hAb ⊢
    rw [g11, (gga 50 rfl 0).2.1, (gga 51 rfl 0).1, (gga 54 rfl 0).1, (gga 52 rfl 0).2.1, (gga 53 rfl 0).2.2, (gga 55 rfl 0).1, (gga 56 rfl 0).2.2]
    exact hAb
  have hT1 : TxM S1 n tx := by
    unfold TxM at h6 ⊢
    rw [g11, (gga 40 rfl 0).1]
    exact h6
  have hAr : arS S1 = arS S := arS_c (gga 62 rfl 0).1 (gga 63 rfl 0).2.2 (gga 64 rfl 0).2.1 (gga 65 rfl 0).1
  have hm := m_act 60 S1 d n tx hAb1 hW (hL (dC d) (Nat.le_refl _)).2 hT1
  rw [hAr] at hm
  refine ⟨_, hm, ?_⟩
  obtain ⟨hW', hL'⟩ := W_act (arS S) (toks tx n 200 0) hW hL (fun t ht => (hAb.2.2 t ht).2.1.2.2.1)
  generalize actF (arS S) (toks tx n 200 0) d = o at *
  rintro r' S2 ⟨hr', hAG2, hA2, hs0, hR2⟩
  refine ⟨hr', ?_⟩
  obtain ⟨o1, d', o3⟩ := o
  have hD2 : DbC S2 d' := DbC_same hD1 (((hAG2 8 rfl).1 1 0).1) (fun k t => ((hAG2 7 rfl).1 k t).1) (fun t => ⟨((hAG2 29 rfl).2 t).1, ((hAG2 30 rfl).2 t).1, ((hAG2 31 rfl).2 t).2.1, ((hAG2 31 rfl).2 t).2.1⟩)
  have hRk2 : RunK S2 := by
    unfold RunK Pil at hRk ⊢
    rw [((hAG2 2 rfl).1 14 0).2.2.1, ((hAG2 2 rfl).1 17 0).2.1, ((hAG2 2 rfl).1 15 0).2.1, ((hAG2 15 rfl).2 0).2.1]
    exact hRk
  have h42' : ∃ a, a ≤ 1000 ∧ gi S2 4 2 0 = nI a := by
    obtain ⟨a, ha, e⟩ := h42
    exact ⟨a, ha, by rw [((hAG2 4 rfl).1 2 0).1]; exact e⟩
  have h10' : gi S2 10 1 0 = nI 0 := by rw [((hAG2 10 rfl).1 1 0).1]; exact h10
  have tC : TxC S2 0 tx := ⟨by decide, fun i hi => absurd hi (by omega)⟩
  have tM : TxM S2 0 tx := ⟨hs0, by decide, fun i hi => absurd hi (by omega)⟩
  have hjj := hI.2.2.2.1
  cases o3 with
  | none =>
    have hRes : SameR S S1 jr := hRes
    have hR2 : gi S2 11 30 0 = gi S1 11 30 0 ∧ gi S2 11 31 0 = gi S1 11 31 0 ∧ ga S2 60 0 = ga S1 60 0 ∧ gy S2 61 0 = gy S1 61 0 := hR2
    obtain ⟨⟨s1, s2⟩, ⟨s3, s4⟩, s5, s6, s7⟩ := hRes
    have hC1 : ResC S1 rn rc val mis := by
      obtain ⟨jr0, jf0, od, ⟨j1, j2, j3, j4, j5⟩, ⟨r1, r2, r3, r4⟩, r5, r6⟩ := h7
      have ej : jr0 = jr := j4.symm.trans hjj.1
      subst ej
      exact ⟨jr0, jf0, od, ⟨j1, j2, j3, s1.trans j4, s2.trans j5⟩, ⟨s3.trans r1, s4.trans r2, r3, r4⟩, fun i hi => by rw [s7]; exact r5 i hi, fun i hi b hb => by rw [s5]; exact r6 i hi b hb⟩
    refine ⟨d', jr, jf, 0, tx, rn, rc, val, mis, ⟨hD2, hL', hRk2, ⟨?_, ?_, hjj.2.2⟩, h42'⟩, hW', hA2, h10', tC, tM, ResC_AG hAG2 hC1, ?_⟩
    · rw [((hAG2 2 rfl).1 3 0).2.2.2, s1]; exact hjj.1
    · rw [((hAG2 2 rfl).1 4 0).2.2.2, s2]; exact hjj.2.1
    · unfold ResM0 at h8 ⊢
      rw [hR2.1, hR2.2.1, hR2.2.2.1, hR2.2.2.2, g11, g11, (gga 60 rfl 0).1, (gga 61 rfl 0).2.2]
      exact h8
  | some s =>
    obtain ⟨p, hOp, hC1⟩ := hRes
    obtain ⟨q, hOq, q1, q2, q3, q4, q5⟩ := hR2
    obtain ⟨jr', jf', od, ⟨j1, j2, j3, j4, j5⟩, jrest⟩ := id hC1
    refine ⟨d', jr', jf', 0, tx, s.2.2.2.1, s.1.length, _, _, ⟨hD2, hL', hRk2, ⟨?_, ?_, j1, j2, j3⟩, h42'⟩, hW', hA2, h10', tC, tM, ResC_AG hAG2 hC1, q3, q4, fun i hi b hb => ?_⟩
    · rw [((hAG2 2 rfl).1 3 0).2.2.2]; exact j4
    · rw [((hAG2 2 rfl).1 4 0).2.2.2]; exact j5
    · have := q5 i hi b hb
      simp only [Ord_one q2 hOp hOq i hi]
      exact this
end
