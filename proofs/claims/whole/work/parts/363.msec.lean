-- deps: 362
-- the model: select, the check of all items, and behind a fault
theorem RY_k {K : KA} {O : OA} {tc f k : Nat} {x : WL} (h : RY K O tc f k x) : ∃ m, K.1 k = nI m ∧ m < 256 ∧ (m < 18 ∨ 21 < m) := by
  cases f with
  | zero => exact h.elim
  | succ f =>
    rcases h with ⟨y, _, h1, _⟩ | ⟨y, _, h1, _⟩ | ⟨_, h1⟩ | ⟨i, c, _, _, _, h1, _⟩ | ⟨y, l, _, _, _, h1⟩ | ⟨y, z, l, r, o, m, _, _, _, ho, _, h1⟩
    · exact ⟨51, h1.1, by decide, by decide⟩
    · exact ⟨52, h1.1, by decide, by decide⟩
    · exact ⟨13, h1.1, by decide, by decide⟩
    · exact ⟨61, h1.1, by decide, by decide⟩
    · exact ⟨60, h1.1, by decide, by decide⟩
    · have h9 : (o = 7 ∧ m = 36) ∨ (o = 8 ∧ m = 37) ∨ (o = 9 ∧ m = 38) ∨ (o = 10 ∧ m = 39) := by simpa [aops] using ho
      exact ⟨m, h1.1, by omega, by omega⟩
/-- the knot of a checked item -/
def ItC (K : KA) (O : OA) (d : DB) (tc : Nat) (tj : Nat → Nat) (k : Nat) (a : Int32) (x : WL) : Prop := ∃ m wk, K.1 k = nI m ∧ Knd a m ∧ ((18 ≤ m ∧ m ≤ 21) → K.2.1 k = nI wk) ∧ (¬ (18 ≤ m ∧ m ≤ 21) → wk = k) ∧ wk < 220 ∧ RY K O tc 220 wk x ∧ isY (kkF d tj tc) x
/-- what the check of an item answers -/
def itFl (P : Nat → Option (Nat × Nat)) (ty : Nat → Nat → Int32) (y : Int32 × WL) : Int32 := if txF P ty y.2 = nI 0 then (if y.1 = nI 218 ∧ txT P ty y.2 = nI 2 then -1002 else nI 0) else txF P ty y.2
theorem isF_c (P : Nat → Option (Nat × Nat)) (ty : Nat → Nat → Int32) (y : Int32 × WL) (l : IL) : isF P ty (y :: l) = if itFl P ty y = nI 0 then isF P ty l else itFl P ty y := by
  rw [isF]
  unfold itFl
  by_cases q1 : txF P ty y.2 = nI 0
  · rw [if_pos q1, if_pos q1]
    by_cases q2 : y.1 = nI 218 ∧ txT P ty y.2 = nI 2
    · rw [if_pos q2, if_pos q2, if_neg (by decide)]
    · rw [if_neg q2, if_neg q2, if_pos rfl]
  · rw [if_neg q1, if_neg q1, if_neg q1]
section
variable (S : ST) (d : DB) (T : WL) (nm : Nat → Int32) (no : Nat → Nat) (tc : Nat)
theorem m_ckI (hE : CE S d T nm no tc) (k : Nat) (y : Int32 × WL) (hk : k < 220) (hy : y.2.length ≤ 200) (hr : rI T (kOf S) k y) : (∀ h z O, Ct MX11_check (h + 222) [vR 11 0, vI (nI k)] (eS (pO S O) (nI 0) z) (CkV S z O (FO (kOf S) T (plc d T nm no tc)) (itFl (plc d T nm no tc) (tyF d no) y) (fun O'' => ItC (kOf S) O'' d tc no k y.1 (txW (plc d T nm no tc) (tyF d no) y.2)))) ∧ (txF (plc d T nm no tc) (tyF d no) y.2 = nI 0 → txH (plc d T nm no tc) (tyF d no) y.2 < 1000 ∧ ∀ h O f z, Ct MX11_wants (h + 221) [vR 11 0, vI (nI k)] (eS (pO S O) f z) (fun r S' => r = some (vI (nI (txH (plc d T nm no tc) (tyF d no) y.2))) ∧ S' = eS (pO S O) f z)) := by
  have g44 : ∀ O f' z, ga (eS (pO S O) f' z) 44 0 k = (kOf S).2.1 k := fun O f' z => by rw [eS_ga, pO_ga44]; rfl
  have g45 : ∀ O f' z, ga (eS (pO S O) f' z) 45 0 k = (kOf S).2.2.1 k := fun O f' z => by rw [eS_ga, pO_ga45]; rfl
  rcases hr with ⟨ha, hx⟩ | ⟨m, l, hm, ha, hU, hl, hx⟩
  · obtain ⟨fl, x', τ, hg, hTX, hck, hwt⟩ := m_check_x S d T nm no tc hE 220 k y.2 hk hy (rX_220 hk hx)
    obtain ⟨e1, e2⟩ := TX_tx hTX
    have efl : itFl (plc d T nm no tc) (tyF d no) y = fl := by
      unfold itFl
      rw [e1]
      by_cases q : fl = nI 0
      · rw [if_pos q, if_neg (fun z => by rw [ha] at z; exact absurd z.1 (by decide)), q]
      · rw [if_neg q]
    refine ⟨fun h z O => ?_, fun q => ?_⟩
    · rw [efl]
      refine Ct_mono (hck (h + 1) z O) (fun r S' hq => ?_)
      obtain ⟨v, O', h1, h2, h3⟩ := CkV_of hq
      refine ⟨v, O', h1, h2, fun q => ⟨(h3 q).1, fun O'' hO => ?_⟩⟩
      have hRY := (h3 q).2 O'' hO
      rw [(e2 q).1]
      obtain ⟨m, m1, m2, m3⟩ := RY_k hRY
      exact ⟨m, k, m1, ⟨m2, Or.inl ⟨ha, m3⟩⟩, fun y => absurd y (by omega), fun _ => rfl, hk, hRY, (hTX.2.2.2.1 q).2⟩
    · rw [e1] at q
      rw [(e2 q).2.2]
      exact ⟨by have := hTX.2.2.1; omega, fun h O f z => hwt (h + 1) O f z⟩
  · obtain ⟨fl, x', τ, hg, hTX, hck, hwt⟩ := m_check_x S d T nm no tc hE 220 l y.2 (by omega) hy (rX_220 (by omega) hx)
    obtain ⟨e1, e2⟩ := TX_tx hTX
    have hR : fl = nI 0 → ∀ O'', RY (kOf S) O'' tc 220 l x' → ItC (kOf S) O'' d tc no k y.1 (txW (plc d T nm no tc) (tyF d no) y.2) := by
      intro q O'' hRY
      rw [(e2 q).1]
      exact ⟨m, l, hU.1, ⟨by omega, Or.inr ⟨hm, ha⟩⟩, fun _ => hU.2.1, fun y => absurd hm y, by omega, hRY, (hTX.2.2.2.1 q).2⟩
    refine ⟨fun h z O => ?_, fun q => ?_⟩
    · have key : Ct MX11_check (h + 222) [vR 11 0, vI (nI k)] (eS (pO S O) (nI 0) z) (CkV S z O (FO (kOf S) T (plc d T nm no tc)) (itFl (plc d T nm no tc) (tyF d no) y) (fun O'' => RY (kOf S) O'' tc 220 l x')) := by
        have h9 : m = 18 ∨ m = 19 ∨ m = 20 ∨ m = 21 := by omega
        have c1 := fun z O => hck h z O
        unfold itFl
        rw [e1]
        rcases h9 with rfl | rfl | rfl | rfl
        · have := m_ckA_18 S _ (h + 220) k l fl (tyM τ) _ (fun O'' => RY (kOf S) O'' tc 220 l x') hk hl hU (fun _ a => a) c1 z O
          by_cases q : fl = nI 0
          · rw [if_pos q] at this ⊢
            rw [(e2 q).2.1, ha]
            by_cases q2 : τ = nI 2
            · rw [if_pos ⟨rfl, q2⟩]
              rw [if_pos (by rw [tyM_1]; exact q2)] at this
              exact this
            · rw [if_neg (fun z => q2 z.2)]
              rw [if_neg (by rw [tyM_1]; exact q2)] at this
              exact this
          · rw [if_neg q] at this ⊢
            exact this
        all_goals
          have hn : ¬ (y.1 = nI 218 ∧ txT (plc d T nm no tc) (tyF d no) y.2 = nI 2) := fun z => by rw [ha] at z; exact absurd z.1 (by decide)
          have ef : (if fl = nI 0 then (if y.1 = nI 218 ∧ txT (plc d T nm no tc) (tyF d no) y.2 = nI 2 then -1002 else nI 0) else fl) = fl := by
            by_cases q : fl = nI 0
            · rw [if_pos q, if_neg hn, q]
            · rw [if_neg q]
          rw [ef]
        · exact m_ckA_19 S _ (h + 220) k l fl (tyM τ) _ (fun O'' => RY (kOf S) O'' tc 220 l x') hk hl hU (fun _ a => a) c1 z O
        · exact m_ckA_20 S _ (h + 220) k l fl (tyM τ) _ (fun O'' => RY (kOf S) O'' tc 220 l x') hk hl hU (fun _ a => a) c1 z O
        · exact m_ckA_21 S _ (h + 220) k l fl (tyM τ) _ (fun O'' => RY (kOf S) O'' tc 220 l x') hk hl hU (fun _ a => a) c1 z O
      refine Ct_mono key (fun r S' hq => ?_)
      obtain ⟨v, O', h1, h2, h3⟩ := hq
      refine ⟨v, O', h1, h2, fun q => ⟨(h3 q).1, fun O'' hO => hR ?_ O'' ((h3 q).2 O'' hO)⟩⟩
      unfold itFl at q
      rw [e1] at q
      by_cases q2 : fl = nI 0
      · exact q2
      · rw [if_neg q2] at q; exact q
    · rw [e1] at q
      rw [(e2 q).2.2]
      refine ⟨by have := hTX.2.2.1; omega, fun h O f z => ?_⟩
      exact m_wants_u _ k l hg hk hl ((g44 O f z).trans hU.2.1) ((g45 O f z).trans hU.2.2) hTX.2.1 (by have := hTX.2.2.1; omega) _ (hwt h O f z)
end
/-- the items' knots stand in the model -/
def ItS (B : ST) (T : WL) (its : IL) (ik : Nat → Nat) : Prop := gi B 11 40 0 = nI its.length ∧ (1 ≤ its.length ∧ its.length ≤ 4) ∧ ∀ i, i < its.length → ga B 66 0 i = nI (ik i) ∧ ik i < 220 ∧ rI T (kOf B) (ik i) (its.getD i (-1, [])) ∧ (its.getD i (-1, [])).2.length ≤ 200
section
variable (h : Nat) (B : ST) (d : DB) (T : WL) (nm : Nat → Int32) (no : Nat → Nat) (tc : Nat) (its : IL) (ik : Nat → Nat) (mo : Int32) (w l6 : Int64) (k4 k5 x8 : Int32)
theorem pO_66 (O : OA) : ga (pO B O) 66 0 = ga B 66 0 := by simp only [pO, gi_si, gi_sl, gi_sz, gi_sr, gi_sa, gi_sb, gi_sy, gl_si, gl_sl, gl_sz, gl_sr, gl_sa, gl_sb, gl_sy, gz_si, gz_sl, gz_sz, gz_sr, gz_sa, gz_sb, gz_sy, gr_si, gr_sl, gr_sz, gr_sr, gr_sa, gr_sb, gr_sy, ga_si, ga_sl, ga_sz, ga_sr, ga_sa, ga_sb, ga_sy, gb_si, gb_sl, gb_sz, gb_sr, gb_sa, gb_sb, gb_sy, gy_si, gy_sl, gy_sz, gy_sr, gy_sa, gy_sb, gy_sy, reduceIte, Nat.reduceEqDiff, and_true, true_and, and_self, false_and, and_false]
theorem pO_40 (O : OA) : gi (pO B O) 11 40 0 = gi B 11 40 0 := by simp only [pO, gi_si, gi_sl, gi_sz, gi_sr, gi_sa, gi_sb, gi_sy, gl_si, gl_sl, gl_sz, gl_sr, gl_sa, gl_sb, gl_sy, gz_si, gz_sl, gz_sz, gz_sr, gz_sa, gz_sb, gz_sy, gr_si, gr_sl, gr_sz, gr_sr, gr_sa, gr_sb, gr_sy, ga_si, ga_sl, ga_sz, ga_sr, ga_sa, ga_sb, ga_sy, gb_si, gb_sl, gb_sz, gb_sr, gb_sa, gb_sb, gb_sy, gy_si, gy_sl, gy_sz, gy_sr, gy_sa, gy_sb, gy_sy, reduceIte, Nat.reduceEqDiff, and_true, true_and, and_self, false_and, and_false]
theorem m_seC (hE : CE B d T nm no tc) (hI : ItS B T its ik) (z : Bool) (Q : Option AV → ST → Prop) : ∀ (l : IL) (i : Nat) (O : OA) (o10 : Option AV), Sf its l i → (isF (plc d T nm no tc) (tyF d no) l = nI 0 → ∀ O' o10, FO (kOf B) T (plc d T nm no tc) O O' → (∀ j, i ≤ j → j < its.length → ∀ O'', FO (kOf B) T (plc d T nm no tc) O' O'' → ItC (kOf B) O'' d tc no (ik j) (its.getD j (-1, [])).1 (txW (plc d T nm no tc) (tyF d no) (its.getD j (-1, [])).2)) → V MX11_select (h + 230) 285 [some (vR 11 0), some (vI mo), some (vL w), none, some (vI k4), some (vI k5), some (vL l6), none, some (vI x8), some (vI (nI its.length)), o10] [] (eS (pO B O') (nI 0) z) Q) → (¬ isF (plc d T nm no tc) (tyF d no) l = nI 0 → ∀ i' O' o10, i' ≤ its.length → V MX11_select (h + 230) 257 [some (vR 11 0), some (vI mo), some (vL w), none, some (vI k4), some (vI k5), some (vL l6), none, some (vI x8), some (vI (nI i')), o10] [] (eS (pO B O') (isF (plc d T nm no tc) (tyF d no) l) z) Q) → V MX11_select (h + 230) 257 [some (vR 11 0), some (vI mo), some (vL w), none, some (vI k4), some (vI k5), some (vL l6), none, some (vI x8), some (vI (nI i)), o10] [] (eS (pO B O) (nI 0) z) Q := by
  obtain ⟨e40, ⟨hl1, hl4⟩, hIt⟩ := hI
  intro l
  induction l with
  | nil =>
    intro i O o10 hSf K1 K2
    have e : i = its.length := by have := hSf.1; simpa using this
    subst e
    have q1 : nI its.length ≤ nI its.length := Int32.le_refl _
    have := K1 rfl O o10 (FO_r _ _ _ _) (fun j h1 h2 => absurd h2 (by omega))
    (with_reducible refine b_X11_select_257 ?_); simp only [o_al, o_c, o_dup, o_get, o_i2l, o_iadd, o_iald, o_iast, o_il, o_imul, o_inc, o_is, o_isub, o_l2i, o_last, o_lc, o_lcmp, o_ll, o_ls, o_puti, o_zald, o_zast, t_1, t_2, t_ir, decide_true, decide_false, Bool.decide_eq_true, Bool.not_eq_false, Bool.not_eq_true, bft, btf, false_implies, true_implies, decide_eq_true_eq, decide_eq_false_iff_not, fv, st1, st2, kl, cat1, List.getElem?_cons_zero, List.getElem?_cons_succ, List.set_cons_zero, List.set_cons_succ, List.length_cons, List.length_nil, List.forall_mem_cons, List.not_mem_nil, Option.toList_some, Option.toList_none, List.cons_append, List.nil_append, and_true, true_and, and_self, reduceIte, Nat.reduceEqDiff, Nat.reduceLT, Nat.reduceAdd, Nat.lt_add_one, Nat.zero_lt_one, Nat.reduceLeDiff, false_and, and_false, forall_const, eq_self, not_true_eq_false, not_false_eq_true, implies_true, forall_eq, b2i_t, b2i_f, true_or, or_true, or_self, or_false, false_or, z01, z10, d10, d01, b2i_01, b2i_d, b2i_eq0, b2i_eq1, b2i_inj, Bool.true_eq_false, Bool.false_eq_true, gi_si, gi_sl, gi_sz, gi_sr, gi_sa, gi_sb, gi_sy, gl_si, gl_sl, gl_sz, gl_sr, gl_sa, gl_sb, gl_sy, gz_si, gz_sl, gz_sz, gz_sr, gz_sa, gz_sb, gz_sy, gr_si, gr_sl, gr_sz, gr_sr, gr_sa, gr_sb, gr_sy, ga_si, ga_sl, ga_sz, ga_sr, ga_sa, ga_sb, ga_sy, gb_si, gb_sl, gb_sz, gb_sr, gb_sa, gb_sb, gb_sy, gy_si, gy_sl, gy_sz, gy_sr, gy_sa, gy_sb, gy_sy, NI_11, NI_57, NI_60, NI_61, NI_62, NI_63, NI_66, LY_11, LY_57, LY_60, LY_61, LY_62, LY_63, LY_66, eS_40, pO_40, e40, q1]
    all_goals exact this
  | cons y l ih =>
    intro i O o10 hSf K1 K2
    have hlt : i < its.length := by have := hSf.1; rw [List.length_cons] at this; omega
    obtain ⟨hx, hS'⟩ := Sf_s hSf
    obtain ⟨e66, hik, hr, hyl⟩ := hIt i hlt
    rw [hx] at hr hyl
    obtain ⟨hck, _⟩ := m_ckI B d T nm no tc hE (ik i) y hik hyl hr
    have q1 : ¬ nI its.length ≤ nI i := nI_ge (by omega) (by omega)
    have i2 : vp_in (nI i) 4 := vp_in_nI (by omega) (by decide)
    have k2 : (nI i).toNatClampNeg = i := nI_clamp (by omega)
    rw [isF_c] at K1 K2
    by_cases q : itFl (plc d T nm no tc) (tyF d no) y = nI 0
    · rw [if_pos q] at K1 K2
      rw [q] at hck
      have nxt : ∀ O1 o10, FO (kOf B) T (plc d T nm no tc) O O1 → (∀ O'', FO (kOf B) T (plc d T nm no tc) O1 O'' → ItC (kOf B) O'' d tc no (ik i) y.1 (txW (plc d T nm no tc) (tyF d no) y.2)) → V MX11_select (h + 230) 257 [some (vR 11 0), some (vI mo), some (vL w), none, some (vI k4), some (vI k5), some (vL l6), none, some (vI x8), some (vI (nI (i + 1))), o10] [] (eS (pO B O1) (nI 0) z) Q := by
        intro O1 o10 hF1 hC1
        refine ih (i + 1) O1 o10 hS' (fun qf O' o10 hF2 hC2 => K1 qf O' o10 (FO_t hF1 hF2) (fun j h1 h2 O'' hO => ?_)) K2
        by_cases e : j = i
        · subst e
          rw [hx]
          exact hC1 O'' (FO_t hF2 hO)
        · exact hC2 j (by omega) h2 O'' hO
      (with_reducible refine b_X11_select_257 ?_); simp only [o_al, o_c, o_dup, o_get, o_i2l, o_iadd, o_iald, o_iast, o_il, o_imul, o_inc, o_is, o_isub, o_l2i, o_last, o_lc, o_lcmp, o_ll, o_ls, o_puti, o_zald, o_zast, t_1, t_2, t_ir, decide_true, decide_false, Bool.decide_eq_true, Bool.not_eq_false, Bool.not_eq_true, bft, btf, false_implies, true_implies, decide_eq_true_eq, decide_eq_false_iff_not, fv, st1, st2, kl, cat1, List.getElem?_cons_zero, List.getElem?_cons_succ, List.set_cons_zero, List.set_cons_succ, List.length_cons, List.length_nil, List.forall_mem_cons, List.not_mem_nil, Option.toList_some, Option.toList_none, List.cons_append, List.nil_append, and_true, true_and, and_self, reduceIte, Nat.reduceEqDiff, Nat.reduceLT, Nat.reduceAdd, Nat.lt_add_one, Nat.zero_lt_one, Nat.reduceLeDiff, false_and, and_false, forall_const, eq_self, not_true_eq_false, not_false_eq_true, implies_true, forall_eq, b2i_t, b2i_f, true_or, or_true, or_self, or_false, false_or, z01, z10, d10, d01, b2i_01, b2i_d, b2i_eq0, b2i_eq1, b2i_inj, Bool.true_eq_false, Bool.false_eq_true, gi_si, gi_sl, gi_sz, gi_sr, gi_sa, gi_sb, gi_sy, gl_si, gl_sl, gl_sz, gl_sr, gl_sa, gl_sb, gl_sy, gz_si, gz_sl, gz_sz, gz_sr, gz_sa, gz_sb, gz_sy, gr_si, gr_sl, gr_sz, gr_sr, gr_sa, gr_sb, gr_sy, ga_si, ga_sl, ga_sz, ga_sr, ga_sa, ga_sb, ga_sy, gb_si, gb_sl, gb_sz, gb_sr, gb_sa, gb_sb, gb_sy, gy_si, gy_sl, gy_sz, gy_sr, gy_sa, gy_sb, gy_sy, NI_11, NI_57, NI_60, NI_61, NI_62, NI_63, NI_66, LY_11, LY_57, LY_60, LY_61, LY_62, LY_63, LY_66, eS_40, pO_40, e40, q1]
      repeat' (first | ((first | with_reducible refine b_X11_select_0 ?_ | with_reducible refine b_X11_select_7 ?_ | with_reducible refine b_X11_select_11 ?_ | with_reducible refine b_X11_select_18 ?_ | with_reducible refine b_X11_select_30 ?_ | with_reducible refine b_X11_select_49 ?_ | with_reducible refine b_X11_select_55 ?_ | with_reducible refine b_X11_select_58 ?_ | with_reducible refine b_X11_select_62 ?_ | with_reducible refine b_X11_select_63 ?_ | with_reducible refine b_X11_select_73 ?_ | with_reducible refine b_X11_select_77 ?_ | with_reducible refine b_X11_select_78 ?_ | with_reducible refine b_X11_select_85 ?_ | with_reducible refine b_X11_select_91 ?_ | with_reducible refine b_X11_select_103 ?_ | with_reducible refine b_X11_select_115 ?_ | with_reducible refine b_X11_select_118 ?_ | with_reducible refine b_X11_select_139 ?_ | with_reducible refine b_X11_select_145 ?_ | with_reducible refine b_X11_select_149 ?_ | with_reducible refine b_X11_select_160 ?_ | with_reducible refine b_X11_select_163 ?_ | with_reducible refine b_X11_select_177 ?_ | with_reducible refine b_X11_select_179 ?_ | with_reducible refine b_X11_select_193 ?_ | with_reducible refine b_X11_select_196 ?_ | with_reducible refine b_X11_select_212 ?_ | with_reducible refine b_X11_select_220 ?_ | with_reducible refine b_X11_select_232 ?_ | with_reducible refine b_X11_select_236 ?_ | with_reducible refine b_X11_select_237 ?_ | with_reducible refine b_X11_select_241 ?_ | with_reducible refine b_X11_select_245 ?_ | with_reducible refine b_X11_select_248 ?_ | with_reducible refine b_X11_select_250 ?_ | with_reducible refine b_X11_select_254 ?_ | with_reducible refine b_X11_select_266 ?_ | ((with_reducible refine k_X11_select_274 (hck _ _ _) ?_ (by first | decide | assumption | (simp only [NI]; omega)) (Nat.le_of_ble_eq_true rfl)); rintro r S' ⟨v', O1, rfl, rfl, hC1⟩) | with_reducible refine b_X11_select_277 ?_ | with_reducible refine b_X11_select_290 ?_ | with_reducible refine b_X11_select_296 ?_ | with_reducible refine b_X11_select_298 ?_ | with_reducible refine b_X11_select_303 ?_ | with_reducible refine b_X11_select_309 ?_ | with_reducible refine b_X11_select_311 ?_ | with_reducible refine b_X11_select_318 ?_ | with_reducible refine b_X11_select_325 ?_ | with_reducible refine b_X11_select_336 ?_ | with_reducible refine b_X11_select_343 ?_ | with_reducible refine b_X11_select_350 ?_ | with_reducible refine b_X11_select_356 ?_ | with_reducible refine b_X11_select_359 ?_ | with_reducible refine b_X11_select_368 ?_ | with_reducible refine b_X11_select_379 ?_ | with_reducible refine b_X11_select_385 ?_ | with_reducible refine b_X11_select_391 ?_ | with_reducible refine b_X11_select_398 ?_ | with_reducible refine b_X11_select_400 ?_ | with_reducible refine b_X11_select_408 ?_ | with_reducible refine b_X11_select_412 ?_ | with_reducible refine b_X11_select_415 ?_ | with_reducible refine b_X11_select_422 ?_ | with_reducible refine b_X11_select_431 ?_ | with_reducible refine b_X11_select_438 ?_ | with_reducible refine b_X11_select_442 ?_ | with_reducible refine b_X11_select_447 ?_ | with_reducible refine b_X11_select_464 ?_ | with_reducible refine b_X11_select_467 ?_ | with_reducible refine b_X11_select_473 ?_ | with_reducible refine b_X11_select_479 ?_ | with_reducible refine b_X11_select_485 ?_ | with_reducible refine b_X11_select_492 ?_ | with_reducible refine b_X11_select_511 ?_ | with_reducible refine b_X11_select_522 ?_ | with_reducible refine b_X11_select_538 ?_ | with_reducible refine b_X11_select_542 ?_ | with_reducible refine b_X11_select_549 ?_ | with_reducible refine b_X11_select_570 ?_) <;> (try simp only [o_al, o_c, o_dup, o_get, o_i2l, o_iadd, o_iald, o_iast, o_il, o_imul, o_inc, o_is, o_isub, o_l2i, o_last, o_lc, o_lcmp, o_ll, o_ls, o_puti, o_zald, o_zast, t_1, t_2, t_ir, decide_true, decide_false, Bool.decide_eq_true, Bool.not_eq_false, Bool.not_eq_true, bft, btf, false_implies, true_implies, decide_eq_true_eq, decide_eq_false_iff_not, fv, st1, st2, kl, cat1, List.getElem?_cons_zero, List.getElem?_cons_succ, List.set_cons_zero, List.set_cons_succ, List.length_cons, List.length_nil, List.forall_mem_cons, List.not_mem_nil, Option.toList_some, Option.toList_none, List.cons_append, List.nil_append, and_true, true_and, and_self, reduceIte, Nat.reduceEqDiff, Nat.reduceLT, Nat.reduceAdd, Nat.lt_add_one, Nat.zero_lt_one, Nat.reduceLeDiff, false_and, and_false, forall_const, eq_self, not_true_eq_false, not_false_eq_true, implies_true, forall_eq, b2i_t, b2i_f, true_or, or_true, or_self, or_false, false_or, z01, z10, d10, d01, b2i_01, b2i_d, b2i_eq0, b2i_eq1, b2i_inj, Bool.true_eq_false, Bool.false_eq_true, gi_si, gi_sl, gi_sz, gi_sr, gi_sa, gi_sb, gi_sy, gl_si, gl_sl, gl_sz, gl_sr, gl_sa, gl_sb, gl_sy, gz_si, gz_sl, gz_sz, gz_sr, gz_sa, gz_sb, gz_sy, gr_si, gr_sl, gr_sz, gr_sr, gr_sa, gr_sb, gr_sy, ga_si, ga_sl, ga_sz, ga_sr, ga_sa, ga_sb, ga_sy, gb_si, gb_sl, gb_sz, gb_sr, gb_sa, gb_sb, gb_sy, gy_si, gy_sl, gy_sz, gy_sr, gy_sa, gy_sb, gy_sy, NI_11, NI_57, NI_60, NI_61, NI_62, NI_63, NI_66, LY_11, LY_57, LY_60, LY_61, LY_62, LY_63, LY_66, eS_ga, pO_66, e66, i2, k2, nI_add])) | ((with_reducible apply br_V) <;> intro hc) | ((with_reducible apply br_C) <;> try intro hc) | (with_reducible apply an_I) | (with_reducible apply an_V) | (with_reducible apply an_A))
      all_goals exact nxt _ _ (hC1 rfl).1 (hC1 rfl).2
    · rw [if_neg q] at K2
      have K2 := K2 q
      (with_reducible refine b_X11_select_257 ?_); simp only [o_al, o_c, o_dup, o_get, o_i2l, o_iadd, o_iald, o_iast, o_il, o_imul, o_inc, o_is, o_isub, o_l2i, o_last, o_lc, o_lcmp, o_ll, o_ls, o_puti, o_zald, o_zast, t_1, t_2, t_ir, decide_true, decide_false, Bool.decide_eq_true, Bool.not_eq_false, Bool.not_eq_true, bft, btf, false_implies, true_implies, decide_eq_true_eq, decide_eq_false_iff_not, fv, st1, st2, kl, cat1, List.getElem?_cons_zero, List.getElem?_cons_succ, List.set_cons_zero, List.set_cons_succ, List.length_cons, List.length_nil, List.forall_mem_cons, List.not_mem_nil, Option.toList_some, Option.toList_none, List.cons_append, List.nil_append, and_true, true_and, and_self, reduceIte, Nat.reduceEqDiff, Nat.reduceLT, Nat.reduceAdd, Nat.lt_add_one, Nat.zero_lt_one, Nat.reduceLeDiff, false_and, and_false, forall_const, eq_self, not_true_eq_false, not_false_eq_true, implies_true, forall_eq, b2i_t, b2i_f, true_or, or_true, or_self, or_false, false_or, z01, z10, d10, d01, b2i_01, b2i_d, b2i_eq0, b2i_eq1, b2i_inj, Bool.true_eq_false, Bool.false_eq_true, gi_si, gi_sl, gi_sz, gi_sr, gi_sa, gi_sb, gi_sy, gl_si, gl_sl, gl_sz, gl_sr, gl_sa, gl_sb, gl_sy, gz_si, gz_sl, gz_sz, gz_sr, gz_sa, gz_sb, gz_sy, gr_si, gr_sl, gr_sz, gr_sr, gr_sa, gr_sb, gr_sy, ga_si, ga_sl, ga_sz, ga_sr, ga_sa, ga_sb, ga_sy, gb_si, gb_sl, gb_sz, gb_sr, gb_sa, gb_sb, gb_sy, gy_si, gy_sl, gy_sz, gy_sr, gy_sa, gy_sb, gy_sy, NI_11, NI_57, NI_60, NI_61, NI_62, NI_63, NI_66, LY_11, LY_57, LY_60, LY_61, LY_62, LY_63, LY_66, eS_40, pO_40, e40, q1]
      repeat' (first | ((first | with_reducible refine b_X11_select_0 ?_ | with_reducible refine b_X11_select_7 ?_ | with_reducible refine b_X11_select_11 ?_ | with_reducible refine b_X11_select_18 ?_ | with_reducible refine b_X11_select_30 ?_ | with_reducible refine b_X11_select_49 ?_ | with_reducible refine b_X11_select_55 ?_ | with_reducible refine b_X11_select_58 ?_ | with_reducible refine b_X11_select_62 ?_ | with_reducible refine b_X11_select_63 ?_ | with_reducible refine b_X11_select_73 ?_ | with_reducible refine b_X11_select_77 ?_ | with_reducible refine b_X11_select_78 ?_ | with_reducible refine b_X11_select_85 ?_ | with_reducible refine b_X11_select_91 ?_ | with_reducible refine b_X11_select_103 ?_ | with_reducible refine b_X11_select_115 ?_ | with_reducible refine b_X11_select_118 ?_ | with_reducible refine b_X11_select_139 ?_ | with_reducible refine b_X11_select_145 ?_ | with_reducible refine b_X11_select_149 ?_ | with_reducible refine b_X11_select_160 ?_ | with_reducible refine b_X11_select_163 ?_ | with_reducible refine b_X11_select_177 ?_ | with_reducible refine b_X11_select_179 ?_ | with_reducible refine b_X11_select_193 ?_ | with_reducible refine b_X11_select_196 ?_ | with_reducible refine b_X11_select_212 ?_ | with_reducible refine b_X11_select_220 ?_ | with_reducible refine b_X11_select_232 ?_ | with_reducible refine b_X11_select_236 ?_ | with_reducible refine b_X11_select_237 ?_ | with_reducible refine b_X11_select_241 ?_ | with_reducible refine b_X11_select_245 ?_ | with_reducible refine b_X11_select_248 ?_ | with_reducible refine b_X11_select_250 ?_ | with_reducible refine b_X11_select_254 ?_ | with_reducible refine b_X11_select_266 ?_ | ((with_reducible refine k_X11_select_274 (hck _ _ _) ?_ (by first | decide | assumption | (simp only [NI]; omega)) (Nat.le_of_ble_eq_true rfl)); rintro r S' ⟨v', O1, rfl, rfl, hC1⟩) | with_reducible refine b_X11_select_277 ?_ | with_reducible refine b_X11_select_290 ?_ | with_reducible refine b_X11_select_296 ?_ | with_reducible refine b_X11_select_298 ?_ | with_reducible refine b_X11_select_303 ?_ | with_reducible refine b_X11_select_309 ?_ | with_reducible refine b_X11_select_311 ?_ | with_reducible refine b_X11_select_318 ?_ | with_reducible refine b_X11_select_325 ?_ | with_reducible refine b_X11_select_336 ?_ | with_reducible refine b_X11_select_343 ?_ | with_reducible refine b_X11_select_350 ?_ | with_reducible refine b_X11_select_356 ?_ | with_reducible refine b_X11_select_359 ?_ | with_reducible refine b_X11_select_368 ?_ | with_reducible refine b_X11_select_379 ?_ | with_reducible refine b_X11_select_385 ?_ | with_reducible refine b_X11_select_391 ?_ | with_reducible refine b_X11_select_398 ?_ | with_reducible refine b_X11_select_400 ?_ | with_reducible refine b_X11_select_408 ?_ | with_reducible refine b_X11_select_412 ?_ | with_reducible refine b_X11_select_415 ?_ | with_reducible refine b_X11_select_422 ?_ | with_reducible refine b_X11_select_431 ?_ | with_reducible refine b_X11_select_438 ?_ | with_reducible refine b_X11_select_442 ?_ | with_reducible refine b_X11_select_447 ?_ | with_reducible refine b_X11_select_464 ?_ | with_reducible refine b_X11_select_467 ?_ | with_reducible refine b_X11_select_473 ?_ | with_reducible refine b_X11_select_479 ?_ | with_reducible refine b_X11_select_485 ?_ | with_reducible refine b_X11_select_492 ?_ | with_reducible refine b_X11_select_511 ?_ | with_reducible refine b_X11_select_522 ?_ | with_reducible refine b_X11_select_538 ?_ | with_reducible refine b_X11_select_542 ?_ | with_reducible refine b_X11_select_549 ?_ | with_reducible refine b_X11_select_570 ?_) <;> (try simp only [o_al, o_c, o_dup, o_get, o_i2l, o_iadd, o_iald, o_iast, o_il, o_imul, o_inc, o_is, o_isub, o_l2i, o_last, o_lc, o_lcmp, o_ll, o_ls, o_puti, o_zald, o_zast, t_1, t_2, t_ir, decide_true, decide_false, Bool.decide_eq_true, Bool.not_eq_false, Bool.not_eq_true, bft, btf, false_implies, true_implies, decide_eq_true_eq, decide_eq_false_iff_not, fv, st1, st2, kl, cat1, List.getElem?_cons_zero, List.getElem?_cons_succ, List.set_cons_zero, List.set_cons_succ, List.length_cons, List.length_nil, List.forall_mem_cons, List.not_mem_nil, Option.toList_some, Option.toList_none, List.cons_append, List.nil_append, and_true, true_and, and_self, reduceIte, Nat.reduceEqDiff, Nat.reduceLT, Nat.reduceAdd, Nat.lt_add_one, Nat.zero_lt_one, Nat.reduceLeDiff, false_and, and_false, forall_const, eq_self, not_true_eq_false, not_false_eq_true, implies_true, forall_eq, b2i_t, b2i_f, true_or, or_true, or_self, or_false, false_or, z01, z10, d10, d01, b2i_01, b2i_d, b2i_eq0, b2i_eq1, b2i_inj, Bool.true_eq_false, Bool.false_eq_true, gi_si, gi_sl, gi_sz, gi_sr, gi_sa, gi_sb, gi_sy, gl_si, gl_sl, gl_sz, gl_sr, gl_sa, gl_sb, gl_sy, gz_si, gz_sl, gz_sz, gz_sr, gz_sa, gz_sb, gz_sy, gr_si, gr_sl, gr_sz, gr_sr, gr_sa, gr_sb, gr_sy, ga_si, ga_sl, ga_sz, ga_sr, ga_sa, ga_sb, ga_sy, gb_si, gb_sl, gb_sz, gb_sr, gb_sa, gb_sb, gb_sy, gy_si, gy_sl, gy_sz, gy_sr, gy_sa, gy_sb, gy_sy, NI_11, NI_57, NI_60, NI_61, NI_62, NI_63, NI_66, LY_11, LY_57, LY_60, LY_61, LY_62, LY_63, LY_66, eS_ga, pO_66, e66, i2, k2, nI_add])) | ((with_reducible apply br_V) <;> intro hc) | ((with_reducible apply br_C) <;> try intro hc) | (with_reducible apply an_I) | (with_reducible apply an_V) | (with_reducible apply an_A))
      all_goals exact K2 _ _ _ (by omega)
end
