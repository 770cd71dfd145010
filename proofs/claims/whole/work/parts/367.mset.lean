-- deps: 366
-- the model: select, all its checks
theorem RY_61 {K : KA} {O : OA} {tc f k : Nat} {x : WL} (h : RY K O tc f k x) (h61 : K.1 k = nI 61) : ∃ i c, x = [(nI (4 + i), nI c)] ∧ i < tc ∧ c < 4 ∧ O.1 k = nI i ∧ O.2 k = nI c := by
  cases f with
  | zero => exact h.elim
  | succ f =>
    rcases h with ⟨y, _, h1, _⟩ | ⟨y, _, h1, _⟩ | ⟨_, h1⟩ | ⟨i, c, e, h1, h2, h3, h4, h5⟩ | ⟨y, l, _, _, _, h1⟩ | ⟨y, z, l, r, o, m, _, _, _, ho, _, h1⟩
    · exact absurd (h1.1.symm.trans h61) (by decide)
    · exact absurd (h1.1.symm.trans h61) (by decide)
    · exact absurd (h1.1.symm.trans h61) (by decide)
    · exact ⟨i, c, e, h1, h2, h4, h5⟩
    · exact absurd (h1.1.symm.trans h61) (by decide)
    · have h9 : (o = 7 ∧ m = 36) ∨ (o = 8 ∧ m = 37) ∨ (o = 9 ∧ m = 38) ∨ (o = 10 ∧ m = 39) := by simpa [aops] using ho
      have e := h1.1.symm.trans h61
      rw [n_eqE (by omega) (by omega)] at e
      omega
theorem fst1_iff {a : Int32} {x : WL} {l : IL} {i c : Nat} : fst1 ((a, x) :: l) i c = true ↔ a = -1 ∧ x = [(nI (4 + i), nI c)] := by
  cases x with
  | nil => simp [fst1]
  | cons w r =>
    cases r with
    | nil => simp [fst1]
    | cons w2 r2 => simp [fst1]
theorem isW_getD {P : Nat → Option (Nat × Nat)} {ty : Nat → Nat → Int32} {its : IL} {j : Nat} (hj : j < its.length) : (isW P ty its).getD j (-1, []) = ((its.getD j (-1, [])).1, txW P ty (its.getD j (-1, [])).2) := by
  unfold isW
  rw [List.getD_eq_getElem?_getD, List.getD_eq_getElem?_getD, List.getElem?_map, List.getElem?_eq_getElem hj]
  rfl
section
variable {B : ST} {d : DB} {tc : Nat} {no : Nat → Nat} {P : Nat → Option (Nat × Nat)} {ty : Nat → Nat → Int32} {T : WL} {its : IL} {ik : Nat → Nat}
theorem ItC_fn (O : OA) (hI : ItS B T its ik) (h : ∀ j, j < its.length → ItC (kOf B) O d tc no (ik j) (its.getD j (-1, [])).1 (txW P ty (its.getD j (-1, [])).2)) : ∃ im wk, ItB (pO B O) (isW P ty its) ik im ∧ ItY (pO B O) d tc no (isW P ty its) ik im wk := by
  have h1 : ∀ j, ∃ p : Nat × Nat, j < its.length → (kOf B).1 (ik j) = nI p.1 ∧ Knd (its.getD j (-1, [])).1 p.1 ∧ ((18 ≤ p.1 ∧ p.1 ≤ 21) → (kOf B).2.1 (ik j) = nI p.2) ∧ (¬ (18 ≤ p.1 ∧ p.1 ≤ 21) → p.2 = ik j) ∧ p.2 < 220 ∧ RY (kOf B) O tc 220 p.2 (txW P ty (its.getD j (-1, [])).2) ∧ isY (kkF d no tc) (txW P ty (its.getD j (-1, [])).2) := by
    intro j
    by_cases q : j < its.length
    · obtain ⟨m, wk, y⟩ := h j q
      exact ⟨(m, wk), fun _ => y⟩
    · exact ⟨(0, 0), fun z => absurd z q⟩
  obtain ⟨F, hF⟩ := Classical.axiomOfChoice h1
  refine ⟨fun j => (F j).1, fun j => (F j).2, ⟨by rw [pO_40, isW_len]; exact hI.1, by rw [isW_len]; exact hI.2.1.1, by rw [isW_len]; exact hI.2.1.2, fun i hi => ?_⟩, fun i hi => ?_⟩
  · rw [isW_len] at hi
    have a := hI.2.2 i hi
    have b := hF i hi
    refine ⟨by rw [pO_66]; exact a.1, a.2.1, by rw [pO_ga43]; exact b.1, ?_⟩
    unfold agI
    rw [isW_getD hi]
    exact b.2.1
  · rw [isW_len] at hi
    have b := hF i hi
    unfold itX
    rw [isW_getD hi, pO_kOf, pO_oOf]
    exact ⟨fun y => by rw [pO_ga44]; exact b.2.2.1 y, b.2.2.2.1, b.2.2.2.2.1, b.2.2.2.2.2.1, b.2.2.2.2.2.2⟩
theorem fst1_eq (O : OA) {im wk : Nat → Nat} (htc : tc ≤ 2) (hB : ItB (pO B O) (isW P ty its) ik im) (hY : ItY (pO B O) d tc no (isW P ty its) ik im wk) {kg i c : Nat} (hi : i < 2) (hc : c < 4) (hg : RY (kOf B) O tc 220 kg [(nI (4 + i), nI c)]) : (im 0 = 61 ∧ ga (pO B O) 48 0 (ik 0) = ga (pO B O) 48 0 kg ∧ ga (pO B O) 49 0 (ik 0) = ga (pO B O) 49 0 kg) ↔ fst1 (isW P ty its) i c = true := by
  obtain ⟨e40, hl1, hl4, hIt⟩ := hB
  obtain ⟨e66, hik, e43, hk⟩ := hIt 0 (by omega)
  obtain ⟨y1, y2, y3, y4, y5⟩ := hY 0 (by omega)
  obtain ⟨_, g1, g2⟩ := RY_pl hg htc hi hc
  rw [pO_48, pO_49, g1, g2]
  rw [pO_kOf, pO_oOf] at y4
  obtain ⟨y, l, hcons⟩ : ∃ y l, isW P ty its = y :: l := by
    cases hh : isW P ty its with
    | nil => rw [hh] at hl1; simp at hl1
    | cons y l => exact ⟨y, l, rfl⟩
  have ea : agI (isW P ty its) 0 = y.1 := by unfold agI; rw [hcons]; rfl
  have ex : itX (isW P ty its) 0 = y.2 := by unfold itX; rw [hcons]; rfl
  rw [ea] at hk
  rw [ex] at y4
  rw [hcons]
  obtain ⟨ya, yx⟩ := y
  rw [fst1_iff]
  rw [pO_ga43] at e43
  have e43 : (kOf B).1 (ik 0) = nI (im 0) := e43
  constructor
  · rintro ⟨h61, h1, h2⟩
    have hna : ¬ (18 ≤ im 0 ∧ im 0 ≤ 21) := by omega
    have hwk := y2 hna
    rw [hwk] at y4
    obtain ⟨i', c', e, hi', hc', o1, o2⟩ := RY_61 y4 (by rw [e43, h61])
    rw [o1, n_eqE (by omega) (by omega)] at h1
    rw [o2, n_eqE (by omega) (by omega)] at h2
    subst h1 h2
    rcases hk with ⟨_, ⟨h, _⟩ | ⟨h, _⟩⟩
    · exact ⟨h, e⟩
    · exact absurd h hna
  · rintro ⟨h1, h2⟩
    have h1 : ya = -1 := h1
    have h2 : yx = [(nI (4 + i), nI c)] := h2
    have hna : ¬ (18 ≤ im 0 ∧ im 0 ≤ 21) := by
      rcases hk with ⟨_, ⟨_, h⟩ | ⟨h, h'⟩⟩
      · omega
      · have h' : ya = nI (200 + im 0) := h'
        rw [h1] at h'
        have : im 0 = 18 ∨ im 0 = 19 ∨ im 0 = 20 ∨ im 0 = 21 := by omega
        rcases this with e | e | e | e <;> rw [e] at h' <;> exact absurd h' (by decide)
    have hwk := y2 hna
    rw [hwk] at y4
    have y4 : RY (kOf B) O tc 220 (ik 0) yx := y4
    rw [h2] at y4
    obtain ⟨a1, a2, a3⟩ := RY_pl y4 htc hi hc
    have e61 := e43.symm.trans a1.1
    rw [n_eqE (by have := hk.1; omega) (by decide)] at e61
    exact ⟨e61, a2, a3⟩
end
section
variable (h : Nat) (B : ST) (d : DB) (T : WL) (nm : Nat → Int32) (no : Nat → Nat) (tc : Nat) (its : IL) (ik : Nat → Nat) (mo : Int32) (w l6 : Int64) (k4 k5 x8 : Int32)
theorem m_seK (hE : CE B d T nm no tc) (hI : ItS B T its ik) (cnd : Option WL) (hc : cnK T (kOf B) 0 220 k4 cnd) (hcl : ∀ y, cnd = some y → y.length ≤ 200) (grp : Option Nat) (hg : GpK T (kOf B) 0 220 k5 grp) (hgw : ∀ p, grp = some p → p < 1000) (on : Int32) (ho : odL on l6) (sk : Int32) (hsk : sk = if isF (plc d T nm no tc) (tyF d no) its = nI 0 then (if cdF (plc d T nm no tc) (tyF d no) cnd = nI 0 then fin5 (tlS (plc d T nm no tc) grp on (isW (plc d T nm no tc) (tyF d no) its)) (max (isH (plc d T nm no tc) (tyF d no) its) (cdH (plc d T nm no tc) (tyF d no) cnd)) else cdF (plc d T nm no tc) (tyF d no) cnd) else isF (plc d T nm no tc) (tyF d no) its) (O : OA) (z : Bool) (Q : Option AV → ST → Prop) (K1 : sk = nI 0 → ∀ O' o9 o10, (∀ j, j < its.length → ItC (kOf B) O' d tc no (ik j) (its.getD j (-1, [])).1 (txW (plc d T nm no tc) (tyF d no) (its.getD j (-1, [])).2)) → cnO (kOf B) O' d tc no (plc d T nm no tc) (tyF d no) k4 cnd → gpO (kOf B) O' d tc no (plc d T nm no tc) k5 grp → V MX11_select (h + 230) 400 [some (vR 11 0), some (vI mo), some (vL w), none, some (vI k4), some (vI k5), some (vL l6), none, some (vI x8), some (vI o9), o10] [] (eS (pO B O') (nI 0) z) Q) (K2 : ¬ sk = nI 0 → ∀ O', Q (some (vI (nI 0))) (eS (pO B O') sk z)) : V MX11_select (h + 230) 257 [some (vR 11 0), some (vI mo), some (vL w), none, some (vI k4), some (vI k5), some (vL l6), none, some (vI x8), some (vI (nI 0)), none] [] (eS (pO B O) (nI 0) z) Q := by
  have h4 := cn_KnO T k4 hc
  have h5 := gp_KnO T k5 hg
  have hN := fun O => ItS_N hI O
  have htc : tc ≤ 2 := by have := hE.2.2.1; omega
  refine m_seC h B d T nm no tc its ik mo w l6 k4 k5 x8 hE hI z Q its 0 O none (Sf_0 its) ?_ ?_
  · intro qI O1 o10 hF1 hIt1
    rw [if_pos qI] at hsk
    have hT0 : ∀ j, j < its.length → txF (plc d T nm no tc) (tyF d no) (its.getD j (-1, [])).2 = nI 0 := by
      intro j hj
      have hm : its.getD j (-1, []) ∈ its := by
        rw [List.getD_eq_getElem?_getD, List.getElem?_eq_getElem hj]
        exact List.getElem_mem hj
      exact (isF_all qI _ hm).1
    obtain ⟨hdp, hst⟩ := m_seCnd h B d T nm no tc mo w l6 k4 k5 x8 hE cnd hc hcl
    refine hst O1 z _ o10 Q ?_ ?_
    · intro qC O2 o9 hF2 hcn2
      rw [if_pos qC] at hsk
      refine m_seGrp h B d T nm no tc mo w l6 k4 k5 x8 hE grp hg hgw O2 z o9 o10 Q ?_ ?_
      · intro qG O3 o9 hF3 hgp3
        have fI : ∀ j, j < its.length → ItC (kOf B) O3 d tc no (ik j) (its.getD j (-1, [])).1 (txW (plc d T nm no tc) (tyF d no) (its.getD j (-1, [])).2) := fun j hj => hIt1 j (Nat.zero_le _) hj O3 (FO_t hF2 hF3)
        have fC := hcn2 O3 hF3
        refine m_seOrd h mo w l6 k4 k5 x8 (pO B O3) its.length hI.2.1.2 (by rw [pO_40]; exact hI.1) on ho z o9 o10 Q ?_ ?_
        · intro qO
          obtain ⟨im, wk, hB, hY⟩ := ItC_fn (P := plc d T nm no tc) (ty := tyF d no) O3 hI fI
          have hlen := isW_len (P := plc d T nm no tc) (ty := tyF d no) its
          obtain ⟨tl, htl⟩ : ∃ tl, tl = tlS (plc d T nm no tc) grp on (isW (plc d T nm no tc) (tyF d no) its) := ⟨_, rfl⟩
          rw [← htl] at hsk
          have hcg : ∀ h, Ct MX11_checkGroup (h + 2) [vR 11 0, vI k5] (eS (pO B O3) (nI 0) z) (fun r S' => r = none ∧ S' = eS (pO B O3) tl z) := by
            intro h
            unfold tlS tlF at htl
            rw [hlen] at htl
            cases grp with
            | none =>
              have hk : k5 = -1 := hgp3
              subst hk
              simp only [Option.map_none] at htl
              rw [if_neg qO] at htl
              have := m_cg_n h (pO B O3) z _ ik im hB
              rw [hlen] at this
              rw [htl]
              exact this
            | some p =>
              obtain ⟨kg, i, c, rfl, hkg, hP, hRY, hYg⟩ := hgp3
              rw [Option.map_some, hP] at htl
              simp only at htl
              rw [if_neg qO] at htl
              have hin := plc_in hP
              have hd4 : dK d (no i) ≤ 4 := (hE.1.2.2 (no i) (hE.2.2.2.2.1 i hin.1).2.1).2.1.2.2.1
              have := m_cg_g h (pO B O3) z _ ik im hB kg i c hkg (hI.2.2 0 (by have := hI.2.1.1; omega)).2.1 (fst1_eq O3 htc hB hY (by omega) (by omega) hRY)
              rw [hlen] at this
              rw [htl]
              exact this
          by_cases qT : tl = nI 0
          · subst qT
            have hs7 : isH (plc d T nm no tc) (tyF d no) its ≤ 10 → ∀ o9, V MX11_select (h + 230) 385 [some (vR 11 0), some (vI mo), some (vL w), none, some (vI k4), some (vI k5), some (vL l6), none, some (vI x8), some (vI o9), o10] [] (eS (pO B O3) (nI 0) z) Q := by
              intro qH o9
              have dp := fun h => hdp qC h O3 z
              by_cases q8 : 10 < cdH (plc d T nm no tc) (tyF d no) cnd
              · simp only [if_pos q8] at dp
                have hsk' : sk = -1008 := by
                  rw [hsk]
                  unfold fin5
                  rw [if_pos ⟨rfl, by omega⟩]
                have := K2 (by rw [hsk']; decide) O3
                rw [hsk'] at this
                have ne8 : ¬ (-1008 : Int32) = nI 0 := by decide
                repeat' (first | ((first | with_reducible refine b_X11_select_0 ?_ | with_reducible refine b_X11_select_7 ?_ | with_reducible refine b_X11_select_11 ?_ | with_reducible refine b_X11_select_18 ?_ | with_reducible refine b_X11_select_30 ?_ | with_reducible refine b_X11_select_49 ?_ | with_reducible refine b_X11_select_55 ?_ | with_reducible refine b_X11_select_58 ?_ | with_reducible refine b_X11_select_62 ?_ | with_reducible refine b_X11_select_63 ?_ | with_reducible refine b_X11_select_73 ?_ | with_reducible refine b_X11_select_77 ?_ | with_reducible refine b_X11_select_78 ?_ | with_reducible refine b_X11_select_85 ?_ | with_reducible refine b_X11_select_91 ?_ | with_reducible refine b_X11_select_103 ?_ | with_reducible refine b_X11_select_115 ?_ | with_reducible refine b_X11_select_118 ?_ | with_reducible refine b_X11_select_139 ?_ | with_reducible refine b_X11_select_145 ?_ | with_reducible refine b_X11_select_149 ?_ | with_reducible refine b_X11_select_160 ?_ | with_reducible refine b_X11_select_163 ?_ | with_reducible refine b_X11_select_177 ?_ | with_reducible refine b_X11_select_179 ?_ | with_reducible refine b_X11_select_193 ?_ | with_reducible refine b_X11_select_196 ?_ | with_reducible refine b_X11_select_212 ?_ | with_reducible refine b_X11_select_220 ?_ | with_reducible refine b_X11_select_232 ?_ | with_reducible refine b_X11_select_236 ?_ | with_reducible refine b_X11_select_237 ?_ | with_reducible refine b_X11_select_241 ?_ | with_reducible refine b_X11_select_245 ?_ | with_reducible refine b_X11_select_248 ?_ | with_reducible refine b_X11_select_250 ?_ | with_reducible refine b_X11_select_254 ?_ | with_reducible refine b_X11_select_257 ?_ | with_reducible refine b_X11_select_266 ?_ | with_reducible refine b_X11_select_277 ?_ | with_reducible refine b_X11_select_285 ?_ | with_reducible refine b_X11_select_290 ?_ | with_reducible refine b_X11_select_296 ?_ | with_reducible refine b_X11_select_298 ?_ | with_reducible refine b_X11_select_303 ?_ | with_reducible refine b_X11_select_309 ?_ | with_reducible refine b_X11_select_311 ?_ | with_reducible refine b_X11_select_318 ?_ | with_reducible refine b_X11_select_325 ?_ | with_reducible refine b_X11_select_336 ?_ | with_reducible refine b_X11_select_343 ?_ | with_reducible refine b_X11_select_350 ?_ | with_reducible refine b_X11_select_356 ?_ | with_reducible refine b_X11_select_359 ?_ | with_reducible refine b_X11_select_368 ?_ | with_reducible refine b_X11_select_379 ?_ | with_reducible refine b_X11_select_385 ?_ | ((with_reducible refine k_X11_select_388 (dp _) ?_ (by first | decide | assumption | (simp only [NI]; omega)) (Nat.le_of_ble_eq_true rfl)); rintro r S' ⟨rfl, rfl⟩) | with_reducible refine b_X11_select_391 ?_ | with_reducible refine b_X11_select_398 ?_ | with_reducible refine b_X11_select_400 ?_ | with_reducible refine b_X11_select_408 ?_ | with_reducible refine b_X11_select_412 ?_ | with_reducible refine b_X11_select_415 ?_ | with_reducible refine b_X11_select_422 ?_ | with_reducible refine b_X11_select_431 ?_ | with_reducible refine b_X11_select_438 ?_ | with_reducible refine b_X11_select_442 ?_ | with_reducible refine b_X11_select_447 ?_ | with_reducible refine b_X11_select_464 ?_ | with_reducible refine b_X11_select_467 ?_ | with_reducible refine b_X11_select_473 ?_ | with_reducible refine b_X11_select_479 ?_ | with_reducible refine b_X11_select_485 ?_ | with_reducible refine b_X11_select_492 ?_ | with_reducible refine b_X11_select_511 ?_ | with_reducible refine b_X11_select_522 ?_ | with_reducible refine b_X11_select_538 ?_ | with_reducible refine b_X11_select_542 ?_ | with_reducible refine b_X11_select_549 ?_ | with_reducible refine b_X11_select_570 ?_) <;> (try simp only [o_al, o_c, o_dup, o_get, o_i2l, o_iadd, o_iald, o_iast, o_il, o_imul, o_inc, o_is, o_isub, o_l2i, o_last, o_lc, o_lcmp, o_ll, o_ls, o_puti, o_zald, o_zast, t_1, t_2, t_ir, decide_true, decide_false, Bool.decide_eq_true, Bool.not_eq_false, Bool.not_eq_true, bft, btf, false_implies, true_implies, decide_eq_true_eq, decide_eq_false_iff_not, fv, st1, st2, kl, cat1, List.getElem?_cons_zero, List.getElem?_cons_succ, List.set_cons_zero, List.set_cons_succ, List.length_cons, List.length_nil, List.forall_mem_cons, List.not_mem_nil, Option.toList_some, Option.toList_none, List.cons_append, List.nil_append, and_true, true_and, and_self, reduceIte, Nat.reduceEqDiff, Nat.reduceLT, Nat.reduceAdd, Nat.lt_add_one, Nat.zero_lt_one, Nat.reduceLeDiff, false_and, and_false, forall_const, eq_self, not_true_eq_false, not_false_eq_true, implies_true, forall_eq, b2i_t, b2i_f, true_or, or_true, or_self, or_false, false_or, z01, z10, d10, d01, b2i_01, b2i_d, b2i_eq0, b2i_eq1, b2i_inj, Bool.true_eq_false, Bool.false_eq_true, gi_si, gi_sl, gi_sz, gi_sr, gi_sa, gi_sb, gi_sy, gl_si, gl_sl, gl_sz, gl_sr, gl_sa, gl_sb, gl_sy, gz_si, gz_sl, gz_sz, gz_sr, gz_sa, gz_sb, gz_sy, gr_si, gr_sl, gr_sz, gr_sr, gr_sa, gr_sb, gr_sy, ga_si, ga_sl, ga_sz, ga_sr, ga_sa, ga_sb, ga_sy, gb_si, gb_sl, gb_sz, gb_sr, gb_sa, gb_sb, gb_sy, gy_si, gy_sl, gy_sz, gy_sr, gy_sa, gy_sb, gy_sy, NI_11, NI_57, NI_60, NI_61, NI_62, NI_63, NI_66, LY_11, LY_57, LY_60, LY_61, LY_62, LY_63, LY_66, eS_f, ne8])) | ((with_reducible apply br_V) <;> intro hc) | ((with_reducible apply br_C) <;> try intro hc) | (with_reducible apply an_I) | (with_reducible apply an_V) | (with_reducible apply an_A))
                all_goals exact this
              · simp only [if_neg q8] at dp
                have hsk' : sk = nI 0 := by
                  rw [hsk]
                  unfold fin5
                  rw [if_neg (by omega)]
                have := fun o9 o10 => K1 hsk' O3 o9 o10 fI fC hgp3
                repeat' (first | ((first | with_reducible refine b_X11_select_0 ?_ | with_reducible refine b_X11_select_7 ?_ | with_reducible refine b_X11_select_11 ?_ | with_reducible refine b_X11_select_18 ?_ | with_reducible refine b_X11_select_30 ?_ | with_reducible refine b_X11_select_49 ?_ | with_reducible refine b_X11_select_55 ?_ | with_reducible refine b_X11_select_58 ?_ | with_reducible refine b_X11_select_62 ?_ | with_reducible refine b_X11_select_63 ?_ | with_reducible refine b_X11_select_73 ?_ | with_reducible refine b_X11_select_77 ?_ | with_reducible refine b_X11_select_78 ?_ | with_reducible refine b_X11_select_85 ?_ | with_reducible refine b_X11_select_91 ?_ | with_reducible refine b_X11_select_103 ?_ | with_reducible refine b_X11_select_115 ?_ | with_reducible refine b_X11_select_118 ?_ | with_reducible refine b_X11_select_139 ?_ | with_reducible refine b_X11_select_145 ?_ | with_reducible refine b_X11_select_149 ?_ | with_reducible refine b_X11_select_160 ?_ | with_reducible refine b_X11_select_163 ?_ | with_reducible refine b_X11_select_177 ?_ | with_reducible refine b_X11_select_179 ?_ | with_reducible refine b_X11_select_193 ?_ | with_reducible refine b_X11_select_196 ?_ | with_reducible refine b_X11_select_212 ?_ | with_reducible refine b_X11_select_220 ?_ | with_reducible refine b_X11_select_232 ?_ | with_reducible refine b_X11_select_236 ?_ | with_reducible refine b_X11_select_237 ?_ | with_reducible refine b_X11_select_241 ?_ | with_reducible refine b_X11_select_245 ?_ | with_reducible refine b_X11_select_248 ?_ | with_reducible refine b_X11_select_250 ?_ | with_reducible refine b_X11_select_254 ?_ | with_reducible refine b_X11_select_257 ?_ | with_reducible refine b_X11_select_266 ?_ | with_reducible refine b_X11_select_277 ?_ | with_reducible refine b_X11_select_285 ?_ | with_reducible refine b_X11_select_290 ?_ | with_reducible refine b_X11_select_296 ?_ | with_reducible refine b_X11_select_298 ?_ | with_reducible refine b_X11_select_303 ?_ | with_reducible refine b_X11_select_309 ?_ | with_reducible refine b_X11_select_311 ?_ | with_reducible refine b_X11_select_318 ?_ | with_reducible refine b_X11_select_325 ?_ | with_reducible refine b_X11_select_336 ?_ | with_reducible refine b_X11_select_343 ?_ | with_reducible refine b_X11_select_350 ?_ | with_reducible refine b_X11_select_356 ?_ | with_reducible refine b_X11_select_359 ?_ | with_reducible refine b_X11_select_368 ?_ | with_reducible refine b_X11_select_379 ?_ | with_reducible refine b_X11_select_385 ?_ | ((with_reducible refine k_X11_select_388 (dp _) ?_ (by first | decide | assumption | (simp only [NI]; omega)) (Nat.le_of_ble_eq_true rfl)); rintro r S' ⟨rfl, rfl⟩) | with_reducible refine b_X11_select_391 ?_ | with_reducible refine b_X11_select_398 ?_ | with_reducible refine b_X11_select_408 ?_ | with_reducible refine b_X11_select_412 ?_ | with_reducible refine b_X11_select_415 ?_ | with_reducible refine b_X11_select_422 ?_ | with_reducible refine b_X11_select_431 ?_ | with_reducible refine b_X11_select_438 ?_ | with_reducible refine b_X11_select_442 ?_ | with_reducible refine b_X11_select_447 ?_ | with_reducible refine b_X11_select_464 ?_ | with_reducible refine b_X11_select_467 ?_ | with_reducible refine b_X11_select_473 ?_ | with_reducible refine b_X11_select_479 ?_ | with_reducible refine b_X11_select_485 ?_ | with_reducible refine b_X11_select_492 ?_ | with_reducible refine b_X11_select_511 ?_ | with_reducible refine b_X11_select_522 ?_ | with_reducible refine b_X11_select_538 ?_ | with_reducible refine b_X11_select_542 ?_ | with_reducible refine b_X11_select_549 ?_ | with_reducible refine b_X11_select_570 ?_) <;> (try simp only [o_al, o_c, o_dup, o_get, o_i2l, o_iadd, o_iald, o_iast, o_il, o_imul, o_inc, o_is, o_isub, o_l2i, o_last, o_lc, o_lcmp, o_ll, o_ls, o_puti, o_zald, o_zast, t_1, t_2, t_ir, decide_true, decide_false, Bool.decide_eq_true, Bool.not_eq_false, Bool.not_eq_true, bft, btf, false_implies, true_implies, decide_eq_true_eq, decide_eq_false_iff_not, fv, st1, st2, kl, cat1, List.getElem?_cons_zero, List.getElem?_cons_succ, List.set_cons_zero, List.set_cons_succ, List.length_cons, List.length_nil, List.forall_mem_cons, List.not_mem_nil, Option.toList_some, Option.toList_none, List.cons_append, List.nil_append, and_true, true_and, and_self, reduceIte, Nat.reduceEqDiff, Nat.reduceLT, Nat.reduceAdd, Nat.lt_add_one, Nat.zero_lt_one, Nat.reduceLeDiff, false_and, and_false, forall_const, eq_self, not_true_eq_false, not_false_eq_true, implies_true, forall_eq, b2i_t, b2i_f, true_or, or_true, or_self, or_false, false_or, z01, z10, d10, d01, b2i_01, b2i_d, b2i_eq0, b2i_eq1, b2i_inj, Bool.true_eq_false, Bool.false_eq_true, gi_si, gi_sl, gi_sz, gi_sr, gi_sa, gi_sb, gi_sy, gl_si, gl_sl, gl_sz, gl_sr, gl_sa, gl_sb, gl_sy, gz_si, gz_sl, gz_sz, gz_sr, gz_sa, gz_sb, gz_sy, gr_si, gr_sl, gr_sz, gr_sr, gr_sa, gr_sb, gr_sy, ga_si, ga_sl, ga_sz, ga_sr, ga_sa, ga_sb, ga_sy, gb_si, gb_sl, gb_sz, gb_sr, gb_sa, gb_sb, gb_sy, gy_si, gy_sl, gy_sz, gy_sr, gy_sa, gy_sb, gy_sy, NI_11, NI_57, NI_60, NI_61, NI_62, NI_63, NI_66, LY_11, LY_57, LY_60, LY_61, LY_62, LY_63, LY_66, eS_f])) | ((with_reducible apply br_V) <;> intro hc) | ((with_reducible apply br_C) <;> try intro hc) | (with_reducible apply an_I) | (with_reducible apply an_V) | (with_reducible apply an_A))
                all_goals exact this _ _
            have hs6 := m_seP h B d T nm no tc its ik mo w l6 k4 k5 x8 hE hI h4 hT0 z O3 o10 Q its 0 (Sf_0 its) (fun q => hs7 q _) (fun q => by
              have hsk' : sk = -1008 := by
                rw [hsk]
                unfold fin5
                rw [if_pos ⟨rfl, by omega⟩]
              have := K2 (by rw [hsk']; decide) O3
              rw [hsk'] at this
              exact this)
            repeat' (first | ((first | with_reducible refine b_X11_select_0 ?_ | with_reducible refine b_X11_select_7 ?_ | with_reducible refine b_X11_select_11 ?_ | with_reducible refine b_X11_select_18 ?_ | with_reducible refine b_X11_select_30 ?_ | with_reducible refine b_X11_select_49 ?_ | with_reducible refine b_X11_select_55 ?_ | with_reducible refine b_X11_select_58 ?_ | with_reducible refine b_X11_select_62 ?_ | with_reducible refine b_X11_select_63 ?_ | with_reducible refine b_X11_select_73 ?_ | with_reducible refine b_X11_select_77 ?_ | with_reducible refine b_X11_select_78 ?_ | with_reducible refine b_X11_select_85 ?_ | with_reducible refine b_X11_select_91 ?_ | with_reducible refine b_X11_select_103 ?_ | with_reducible refine b_X11_select_115 ?_ | with_reducible refine b_X11_select_118 ?_ | with_reducible refine b_X11_select_139 ?_ | with_reducible refine b_X11_select_145 ?_ | with_reducible refine b_X11_select_149 ?_ | with_reducible refine b_X11_select_160 ?_ | with_reducible refine b_X11_select_163 ?_ | with_reducible refine b_X11_select_177 ?_ | with_reducible refine b_X11_select_179 ?_ | with_reducible refine b_X11_select_193 ?_ | with_reducible refine b_X11_select_196 ?_ | with_reducible refine b_X11_select_212 ?_ | with_reducible refine b_X11_select_220 ?_ | with_reducible refine b_X11_select_232 ?_ | with_reducible refine b_X11_select_236 ?_ | with_reducible refine b_X11_select_237 ?_ | with_reducible refine b_X11_select_241 ?_ | with_reducible refine b_X11_select_245 ?_ | with_reducible refine b_X11_select_248 ?_ | with_reducible refine b_X11_select_250 ?_ | with_reducible refine b_X11_select_254 ?_ | with_reducible refine b_X11_select_257 ?_ | with_reducible refine b_X11_select_266 ?_ | with_reducible refine b_X11_select_277 ?_ | with_reducible refine b_X11_select_285 ?_ | with_reducible refine b_X11_select_290 ?_ | with_reducible refine b_X11_select_296 ?_ | with_reducible refine b_X11_select_298 ?_ | with_reducible refine b_X11_select_303 ?_ | with_reducible refine b_X11_select_309 ?_ | with_reducible refine b_X11_select_311 ?_ | with_reducible refine b_X11_select_318 ?_ | with_reducible refine b_X11_select_325 ?_ | with_reducible refine b_X11_select_336 ?_ | with_reducible refine b_X11_select_343 ?_ | with_reducible refine b_X11_select_350 ?_ | ((with_reducible refine k_X11_select_353 (hcg _) ?_ (by first | decide | assumption | (simp only [NI]; omega)) (Nat.le_of_ble_eq_true rfl)); rintro r S' ⟨rfl, rfl⟩) | with_reducible refine b_X11_select_356 ?_ | with_reducible refine b_X11_select_368 ?_ | with_reducible refine b_X11_select_379 ?_ | with_reducible refine b_X11_select_385 ?_ | with_reducible refine b_X11_select_391 ?_ | with_reducible refine b_X11_select_398 ?_ | with_reducible refine b_X11_select_400 ?_ | with_reducible refine b_X11_select_408 ?_ | with_reducible refine b_X11_select_412 ?_ | with_reducible refine b_X11_select_415 ?_ | with_reducible refine b_X11_select_422 ?_ | with_reducible refine b_X11_select_431 ?_ | with_reducible refine b_X11_select_438 ?_ | with_reducible refine b_X11_select_442 ?_ | with_reducible refine b_X11_select_447 ?_ | with_reducible refine b_X11_select_464 ?_ | with_reducible refine b_X11_select_467 ?_ | with_reducible refine b_X11_select_473 ?_ | with_reducible refine b_X11_select_479 ?_ | with_reducible refine b_X11_select_485 ?_ | with_reducible refine b_X11_select_492 ?_ | with_reducible refine b_X11_select_511 ?_ | with_reducible refine b_X11_select_522 ?_ | with_reducible refine b_X11_select_538 ?_ | with_reducible refine b_X11_select_542 ?_ | with_reducible refine b_X11_select_549 ?_ | with_reducible refine b_X11_select_570 ?_) <;> (try simp only [o_al, o_c, o_dup, o_get, o_i2l, o_iadd, o_iald, o_iast, o_il, o_imul, o_inc, o_is, o_isub, o_l2i, o_last, o_lc, o_lcmp, o_ll, o_ls, o_puti, o_zald, o_zast, t_1, t_2, t_ir, decide_true, decide_false, Bool.decide_eq_true, Bool.not_eq_false, Bool.not_eq_true, bft, btf, false_implies, true_implies, decide_eq_true_eq, decide_eq_false_iff_not, fv, st1, st2, kl, cat1, List.getElem?_cons_zero, List.getElem?_cons_succ, List.set_cons_zero, List.set_cons_succ, List.length_cons, List.length_nil, List.forall_mem_cons, List.not_mem_nil, Option.toList_some, Option.toList_none, List.cons_append, List.nil_append, and_true, true_and, and_self, reduceIte, Nat.reduceEqDiff, Nat.reduceLT, Nat.reduceAdd, Nat.lt_add_one, Nat.zero_lt_one, Nat.reduceLeDiff, false_and, and_false, forall_const, eq_self, not_true_eq_false, not_false_eq_true, implies_true, forall_eq, b2i_t, b2i_f, true_or, or_true, or_self, or_false, false_or, z01, z10, d10, d01, b2i_01, b2i_d, b2i_eq0, b2i_eq1, b2i_inj, Bool.true_eq_false, Bool.false_eq_true, gi_si, gi_sl, gi_sz, gi_sr, gi_sa, gi_sb, gi_sy, gl_si, gl_sl, gl_sz, gl_sr, gl_sa, gl_sb, gl_sy, gz_si, gz_sl, gz_sz, gz_sr, gz_sa, gz_sb, gz_sy, gr_si, gr_sl, gr_sz, gr_sr, gr_sa, gr_sb, gr_sy, ga_si, ga_sl, ga_sz, ga_sr, ga_sa, ga_sb, ga_sy, gb_si, gb_sl, gb_sz, gb_sr, gb_sa, gb_sb, gb_sy, gy_si, gy_sl, gy_sz, gy_sr, gy_sa, gy_sb, gy_sy, NI_11, NI_57, NI_60, NI_61, NI_62, NI_63, NI_66, LY_11, LY_57, LY_60, LY_61, LY_62, LY_63, LY_66, eS_f])) | ((with_reducible apply br_V) <;> intro hc) | ((with_reducible apply br_C) <;> try intro hc) | (with_reducible apply an_I) | (with_reducible apply an_V) | (with_reducible apply an_A))
            all_goals exact hs6
          · have hsk' : sk = tl := by
              rw [hsk]
              unfold fin5
              rw [if_neg (fun y => qT y.1)]
            have := K2 (by rw [hsk']; exact qT) O3
            rw [hsk'] at this
            have hd := m_seD359 h (pO B O3) tl z its.length ik mo w l6 k4 k5 x8 Q qT (hN O3) h4 o10 this its.length 0 (by omega)
            repeat' (first | ((first | with_reducible refine b_X11_select_0 ?_ | with_reducible refine b_X11_select_7 ?_ | with_reducible refine b_X11_select_11 ?_ | with_reducible refine b_X11_select_18 ?_ | with_reducible refine b_X11_select_30 ?_ | with_reducible refine b_X11_select_49 ?_ | with_reducible refine b_X11_select_55 ?_ | with_reducible refine b_X11_select_58 ?_ | with_reducible refine b_X11_select_62 ?_ | with_reducible refine b_X11_select_63 ?_ | with_reducible refine b_X11_select_73 ?_ | with_reducible refine b_X11_select_77 ?_ | with_reducible refine b_X11_select_78 ?_ | with_reducible refine b_X11_select_85 ?_ | with_reducible refine b_X11_select_91 ?_ | with_reducible refine b_X11_select_103 ?_ | with_reducible refine b_X11_select_115 ?_ | with_reducible refine b_X11_select_118 ?_ | with_reducible refine b_X11_select_139 ?_ | with_reducible refine b_X11_select_145 ?_ | with_reducible refine b_X11_select_149 ?_ | with_reducible refine b_X11_select_160 ?_ | with_reducible refine b_X11_select_163 ?_ | with_reducible refine b_X11_select_177 ?_ | with_reducible refine b_X11_select_179 ?_ | with_reducible refine b_X11_select_193 ?_ | with_reducible refine b_X11_select_196 ?_ | with_reducible refine b_X11_select_212 ?_ | with_reducible refine b_X11_select_220 ?_ | with_reducible refine b_X11_select_232 ?_ | with_reducible refine b_X11_select_236 ?_ | with_reducible refine b_X11_select_237 ?_ | with_reducible refine b_X11_select_241 ?_ | with_reducible refine b_X11_select_245 ?_ | with_reducible refine b_X11_select_248 ?_ | with_reducible refine b_X11_select_250 ?_ | with_reducible refine b_X11_select_254 ?_ | with_reducible refine b_X11_select_257 ?_ | with_reducible refine b_X11_select_266 ?_ | with_reducible refine b_X11_select_277 ?_ | with_reducible refine b_X11_select_285 ?_ | with_reducible refine b_X11_select_290 ?_ | with_reducible refine b_X11_select_296 ?_ | with_reducible refine b_X11_select_298 ?_ | with_reducible refine b_X11_select_303 ?_ | with_reducible refine b_X11_select_309 ?_ | with_reducible refine b_X11_select_311 ?_ | with_reducible refine b_X11_select_318 ?_ | with_reducible refine b_X11_select_325 ?_ | with_reducible refine b_X11_select_336 ?_ | with_reducible refine b_X11_select_343 ?_ | with_reducible refine b_X11_select_350 ?_ | ((with_reducible refine k_X11_select_353 (hcg _) ?_ (by first | decide | assumption | (simp only [NI]; omega)) (Nat.le_of_ble_eq_true rfl)); rintro r S' ⟨rfl, rfl⟩) | with_reducible refine b_X11_select_356 ?_ | with_reducible refine b_X11_select_368 ?_ | with_reducible refine b_X11_select_379 ?_ | with_reducible refine b_X11_select_385 ?_ | with_reducible refine b_X11_select_391 ?_ | with_reducible refine b_X11_select_398 ?_ | with_reducible refine b_X11_select_400 ?_ | with_reducible refine b_X11_select_408 ?_ | with_reducible refine b_X11_select_412 ?_ | with_reducible refine b_X11_select_415 ?_ | with_reducible refine b_X11_select_422 ?_ | with_reducible refine b_X11_select_431 ?_ | with_reducible refine b_X11_select_438 ?_ | with_reducible refine b_X11_select_442 ?_ | with_reducible refine b_X11_select_447 ?_ | with_reducible refine b_X11_select_464 ?_ | with_reducible refine b_X11_select_467 ?_ | with_reducible refine b_X11_select_473 ?_ | with_reducible refine b_X11_select_479 ?_ | with_reducible refine b_X11_select_485 ?_ | with_reducible refine b_X11_select_492 ?_ | with_reducible refine b_X11_select_511 ?_ | with_reducible refine b_X11_select_522 ?_ | with_reducible refine b_X11_select_538 ?_ | with_reducible refine b_X11_select_542 ?_ | with_reducible refine b_X11_select_549 ?_ | with_reducible refine b_X11_select_570 ?_) <;> (try simp only [o_al, o_c, o_dup, o_get, o_i2l, o_iadd, o_iald, o_iast, o_il, o_imul, o_inc, o_is, o_isub, o_l2i, o_last, o_lc, o_lcmp, o_ll, o_ls, o_puti, o_zald, o_zast, t_1, t_2, t_ir, decide_true, decide_false, Bool.decide_eq_true, Bool.not_eq_false, Bool.not_eq_true, bft, btf, false_implies, true_implies, decide_eq_true_eq, decide_eq_false_iff_not, fv, st1, st2, kl, cat1, List.getElem?_cons_zero, List.getElem?_cons_succ, List.set_cons_zero, List.set_cons_succ, List.length_cons, List.length_nil, List.forall_mem_cons, List.not_mem_nil, Option.toList_some, Option.toList_none, List.cons_append, List.nil_append, and_true, true_and, and_self, reduceIte, Nat.reduceEqDiff, Nat.reduceLT, Nat.reduceAdd, Nat.lt_add_one, Nat.zero_lt_one, Nat.reduceLeDiff, false_and, and_false, forall_const, eq_self, not_true_eq_false, not_false_eq_true, implies_true, forall_eq, b2i_t, b2i_f, true_or, or_true, or_self, or_false, false_or, z01, z10, d10, d01, b2i_01, b2i_d, b2i_eq0, b2i_eq1, b2i_inj, Bool.true_eq_false, Bool.false_eq_true, gi_si, gi_sl, gi_sz, gi_sr, gi_sa, gi_sb, gi_sy, gl_si, gl_sl, gl_sz, gl_sr, gl_sa, gl_sb, gl_sy, gz_si, gz_sl, gz_sz, gz_sr, gz_sa, gz_sb, gz_sy, gr_si, gr_sl, gr_sz, gr_sr, gr_sa, gr_sb, gr_sy, ga_si, ga_sl, ga_sz, ga_sr, ga_sa, ga_sb, ga_sy, gb_si, gb_sl, gb_sz, gb_sr, gb_sa, gb_sb, gb_sy, gy_si, gy_sl, gy_sz, gy_sr, gy_sa, gy_sb, gy_sy, NI_11, NI_57, NI_60, NI_61, NI_62, NI_63, NI_66, LY_11, LY_57, LY_60, LY_61, LY_62, LY_63, LY_66, eS_f])) | ((with_reducible apply br_V) <;> intro hc) | ((with_reducible apply br_C) <;> try intro hc) | (with_reducible apply an_I) | (with_reducible apply an_V) | (with_reducible apply an_A))
            all_goals exact hd
        · intro qO
          have htl : tlS (plc d T nm no tc) grp on (isW (plc d T nm no tc) (tyF d no) its) = -1002 := by
            unfold tlS tlF
            rw [isW_len]
            cases grp with
            | none =>
              simp only [Option.map_none]
              rw [if_pos qO]
            | some p =>
              obtain ⟨kg, i, c, _, hkg, hP, hRY, hYg⟩ := hgp3
              rw [Option.map_some, hP]
              simp only
              rw [if_pos qO]
          have hsk' : sk = -1002 := by
            rw [hsk, htl]
            unfold fin5
            rw [if_neg (fun y => absurd y.1 (by decide))]
          have := K2 (by rw [hsk']; decide) O3
          rw [hsk'] at this
          exact m_seD343 h (pO B O3) (-1002) z its.length ik mo w l6 k4 k5 x8 Q (by decide) (hN O3) h4 o9 o10 this
      · intro qG O3 o9
        have htl : tlS (plc d T nm no tc) grp on (isW (plc d T nm no tc) (tyF d no) its) = gpF (plc d T nm no tc) grp := by
          unfold tlS tlF
          unfold gpF at qG ⊢
          cases hh : grp.map (plc d T nm no tc) with
          | none => rw [hh] at qG; exact absurd rfl qG
          | some v =>
            cases v with
            | none => rfl
            | some v => rw [hh] at qG; exact absurd rfl qG
        have hsk' : sk = gpF (plc d T nm no tc) grp := by
          rw [hsk, htl]
          unfold fin5
          rw [if_neg (fun y => qG y.1)]
        have := K2 (by rw [hsk']; exact qG) O3
        rw [hsk'] at this
        exact m_seD311 h (pO B O3) _ z its.length ik mo w l6 k4 k5 x8 Q qG (hN O3) h4 o9 o10 this
    · intro qC O2 o9
      rw [if_neg qC] at hsk
      have := K2 (by rw [hsk]; exact qC) O2
      rw [hsk] at this
      exact m_seD298 h (pO B O2) _ z its.length ik mo w l6 k4 k5 x8 Q qC (hN O2) h4 h5 o9 o10 this
  · intro qI i' O1 o10 hi'
    rw [if_neg qI] at hsk
    have := K2 (by rw [hsk]; exact qI) O1
    rw [hsk] at this
    exact m_seD257 h (pO B O1) _ z its.length ik mo w l6 k4 k5 x8 Q qI (hN O1) h4 h5 this (its.length - i') i' o10 (by omega)
end
