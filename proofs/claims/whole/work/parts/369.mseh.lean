-- deps: 368
-- the model: select from the look for its tables on
theorem arS_c {S S' : ST} (h2 : ga S' 62 0 = ga S 62 0) (h3 : gy S' 63 0 = gy S 63 0) (h4 : gb S' 64 0 = gb S 64 0) (h5 : ga S' 65 0 = ga S 65 0) : arS S' = arS S := by
  unfold arS
  rw [h2, h3, h4, h5]
def LkS (C B : ST) : Prop := FrM C B ∧ (∀ d, AbsM C d → AbsM B d) ∧ kOf B = kOf C ∧ gi B 11 24 0 = gi C 11 24 0 ∧ ga B 66 0 = ga C 66 0 ∧ gi B 11 40 0 = gi C 11 40 0 ∧ arS B = arS C
theorem LkS_58 (C : ST) (g : Nat → Int32) : LkS C (sa C 58 0 g) := ⟨FrM_sa FrM_r rfl (by decide), fun d hd => AbsM_58 g hd, by simp only [kOf, gi_si, gi_sl, gi_sz, gi_sr, gi_sa, gi_sb, gi_sy, gl_si, gl_sl, gl_sz, gl_sr, gl_sa, gl_sb, gl_sy, gz_si, gz_sl, gz_sz, gz_sr, gz_sa, gz_sb, gz_sy, gr_si, gr_sl, gr_sz, gr_sr, gr_sa, gr_sb, gr_sy, ga_si, ga_sl, ga_sz, ga_sr, ga_sa, ga_sb, ga_sy, gb_si, gb_sl, gb_sz, gb_sr, gb_sa, gb_sb, gb_sy, gy_si, gy_sl, gy_sz, gy_sr, gy_sa, gy_sb, gy_sy, reduceIte, Nat.reduceEqDiff, and_true, true_and, and_self, false_and, and_false], by simp only [gi_si, gi_sl, gi_sz, gi_sr, gi_sa, gi_sb, gi_sy, gl_si, gl_sl, gl_sz, gl_sr, gl_sa, gl_sb, gl_sy, gz_si, gz_sl, gz_sz, gz_sr, gz_sa, gz_sb, gz_sy, gr_si, gr_sl, gr_sz, gr_sr, gr_sa, gr_sb, gr_sy, ga_si, ga_sl, ga_sz, ga_sr, ga_sa, ga_sb, ga_sy, gb_si, gb_sl, gb_sz, gb_sr, gb_sa, gb_sb, gb_sy, gy_si, gy_sl, gy_sz, gy_sr, gy_sa, gy_sb, gy_sy, reduceIte, Nat.reduceEqDiff, and_true, true_and, and_self, false_and, and_false], by simp only [gi_si, gi_sl, gi_sz, gi_sr, gi_sa, gi_sb, gi_sy, gl_si, gl_sl, gl_sz, gl_sr, gl_sa, gl_sb, gl_sy, gz_si, gz_sl, gz_sz, gz_sr, gz_sa, gz_sb, gz_sy, gr_si, gr_sl, gr_sz, gr_sr, gr_sa, gr_sb, gr_sy, ga_si, ga_sl, ga_sz, ga_sr, ga_sa, ga_sb, ga_sy, gb_si, gb_sl, gb_sz, gb_sr, gb_sa, gb_sb, gb_sy, gy_si, gy_sl, gy_sz, gy_sr, gy_sa, gy_sb, gy_sy, reduceIte, Nat.reduceEqDiff, and_true, true_and, and_self, false_and, and_false], by simp only [gi_si, gi_sl, gi_sz, gi_sr, gi_sa, gi_sb, gi_sy, gl_si, gl_sl, gl_sz, gl_sr, gl_sa, gl_sb, gl_sy, gz_si, gz_sl, gz_sz, gz_sr, gz_sa, gz_sb, gz_sy, gr_si, gr_sl, gr_sz, gr_sr, gr_sa, gr_sb, gr_sy, ga_si, ga_sl, ga_sz, ga_sr, ga_sa, ga_sb, ga_sy, gb_si, gb_sl, gb_sz, gb_sr, gb_sa, gb_sb, gb_sy, gy_si, gy_sl, gy_sz, gy_sr, gy_sa, gy_sb, gy_sy, reduceIte, Nat.reduceEqDiff, and_true, true_and, and_self, false_and, and_false], arS_c (by simp only [gi_si, gi_sl, gi_sz, gi_sr, gi_sa, gi_sb, gi_sy, gl_si, gl_sl, gl_sz, gl_sr, gl_sa, gl_sb, gl_sy, gz_si, gz_sl, gz_sz, gz_sr, gz_sa, gz_sb, gz_sy, gr_si, gr_sl, gr_sz, gr_sr, gr_sa, gr_sb, gr_sy, ga_si, ga_sl, ga_sz, ga_sr, ga_sa, ga_sb, ga_sy, gb_si, gb_sl, gb_sz, gb_sr, gb_sa, gb_sb, gb_sy, gy_si, gy_sl, gy_sz, gy_sr, gy_sa, gy_sb, gy_sy, reduceIte, Nat.reduceEqDiff, and_true, true_and, and_self, false_and, and_false]) (by simp only [gi_si, gi_sl, gi_sz, gi_sr, gi_sa, gi_sb, gi_sy, gl_si, gl_sl, gl_sz, gl_sr, gl_sa, gl_sb, gl_sy, gz_si, gz_sl, gz_sz, gz_sr, gz_sa, gz_sb, gz_sy, gr_si, gr_sl, gr_sz, gr_sr, gr_sa, gr_sb, gr_sy, ga_si, ga_sl, ga_sz, ga_sr, ga_sa, ga_sb, ga_sy, gb_si, gb_sl, gb_sz, gb_sr, gb_sa, gb_sb, gb_sy, gy_si, gy_sl, gy_sz, gy_sr, gy_sa, gy_sb, gy_sy, reduceIte, Nat.reduceEqDiff, and_true, true_and, and_self, false_and, and_false]) (by simp only [gi_si, gi_sl, gi_sz, gi_sr, gi_sa, gi_sb, gi_sy, gl_si, gl_sl, gl_sz, gl_sr, gl_sa, gl_sb, gl_sy, gz_si, gz_sl, gz_sz, gz_sr, gz_sa, gz_sb, gz_sy, gr_si, gr_sl, gr_sz, gr_sr, gr_sa, gr_sb, gr_sy, ga_si, ga_sl, ga_sz, ga_sr, ga_sa, ga_sb, ga_sy, gb_si, gb_sl, gb_sz, gb_sr, gb_sa, gb_sb, gb_sy, gy_si, gy_sl, gy_sz, gy_sr, gy_sa, gy_sb, gy_sy, reduceIte, Nat.reduceEqDiff, and_true, true_and, and_self, false_and, and_false]) (by simp only [gi_si, gi_sl, gi_sz, gi_sr, gi_sa, gi_sb, gi_sy, gl_si, gl_sl, gl_sz, gl_sr, gl_sa, gl_sb, gl_sy, gz_si, gz_sl, gz_sz, gz_sr, gz_sa, gz_sb, gz_sy, gr_si, gr_sl, gr_sz, gr_sr, gr_sa, gr_sb, gr_sy, ga_si, ga_sl, ga_sz, ga_sr, ga_sa, ga_sb, ga_sy, gb_si, gb_sl, gb_sz, gb_sr, gb_sa, gb_sb, gb_sy, gy_si, gy_sl, gy_sz, gy_sr, gy_sa, gy_sb, gy_sy, reduceIte, Nat.reduceEqDiff, and_true, true_and, and_self, false_and, and_false])⟩
theorem m_lkS (C : ST) (d : DB) (y : SLT) (hA : AbsM C d) (hW : DbW d) (hn1 : nmV y.2.1 (gb C 57 0 0)) (h24 : gi C 11 24 0 = nI (tcS y)) (hn2 : ∀ x, y.2.2.1 = some x → nmV x (gb C 57 0 1)) : (allT d (nmS y) (tcS y) → ∃ g : Nat → Int32, (∀ i, i < tcS y → g i = nI (tno d (nmS y) i)) ∧ ∀ h z, Ct MX11_lookForTables (h + 1) [vR 11 0] (eS C (nI 0) z) (fun r S' => r = none ∧ S' = eS (sa C 58 0 g) (nI 0) z)) ∧ (¬ allT d (nmS y) (tcS y) → ∃ g : Nat → Int32, ∀ h z, Ct MX11_lookForTables (h + 1) [vR 11 0] (eS C (nI 0) z) (fun r S' => r = none ∧ S' = eS (sa C 58 0 g) (-1001) z)) := by
  obtain ⟨its, x, x2, cnd, grp, on, desc⟩ := y
  have hn1 : nmV x (gb C 57 0 0) := hn1
  cases x2 with
  | none =>
    have h24 : gi C 11 24 0 = nI 1 := h24
    have hL := fun h z => m_look1 h C d z x hA hW h24 hn1
    refine ⟨fun hall => ?_, fun hall => ?_⟩
    · have h0 : tfd d x ≠ none := hall 0 (by show 0 < 1; omega)
      refine ⟨up1 (ga C 58 0) 0 (oI (tfd d x)), fun i hi => ?_, fun h z => ?_⟩
      · have hi : i < 1 := hi
        have : i = 0 := by omega
        subst this
        obtain ⟨t, ht⟩ := Option.ne_none_iff_exists'.mp h0
        have : tno d (nmS (its, x, none, cnd, grp, on, desc)) 0 = t := by unfold tno; show (tfd d x).getD 0 = t; rw [ht]; rfl
        rw [this, ht]
        simp [up1, oI_s]
      · have := hL h z
        rw [if_neg h0] at this
        exact this
    · have h0 : tfd d x = none := by
        apply Classical.byContradiction
        intro h0
        apply hall
        intro i hi
        have hi : i < 1 := hi
        have : i = 0 := by omega
        subst this
        exact h0
      refine ⟨up1 (ga C 58 0) 0 (oI (tfd d x)), fun h z => ?_⟩
      have := hL h z
      rw [if_pos h0] at this
      exact this
  | some x2 =>
    have h24 : gi C 11 24 0 = nI 2 := h24
    have hn2 : nmV x2 (gb C 57 0 1) := hn2 x2 rfl
    have hL := fun h z => m_look2 h C d z x x2 hA hW h24 hn1 hn2
    refine ⟨fun hall => ?_, fun hall => ?_⟩
    · have h0 : tfd d x ≠ none := hall 0 (by show 0 < 2; omega)
      have h1 : tfd d x2 ≠ none := hall 1 (by show 1 < 2; omega)
      obtain ⟨t, ht⟩ := Option.ne_none_iff_exists'.mp h0
      obtain ⟨t2, ht2⟩ := Option.ne_none_iff_exists'.mp h1
      have e0 : tno d (nmS (its, x, some x2, cnd, grp, on, desc)) 0 = t := by unfold tno; show (tfd d x).getD 0 = t; rw [ht]; rfl
      have e1 : tno d (nmS (its, x, some x2, cnd, grp, on, desc)) 1 = t2 := by unfold tno; show (tfd d x2).getD 0 = t2; rw [ht2]; rfl
      refine ⟨up1 (up1 (ga C 58 0) 0 (oI (tfd d x))) 1 (oI (tfd d x2)), fun i hi => ?_, fun h z => ?_⟩
      · have hi : i < 2 := hi
        have : i = 0 ∨ i = 1 := by omega
        rcases this with rfl | rfl
        · rw [e0, ht]; simp [up1, oI_s]
        · rw [e1, ht2]; simp [up1, oI_s]
      · have := hL h z
        rw [if_neg h0, if_neg (fun y => y.elim h0 h1)] at this
        have e : lk2 (lk1 C d x) d x2 = sa C 58 0 (up1 (up1 (ga C 58 0) 0 (oI (tfd d x))) 1 (oI (tfd d x2))) := by (apply ST_ext <;> intros <;> (try simp only [lk2, lk1, gi_si, gi_sl, gi_sz, gi_sr, gi_sa, gi_sb, gi_sy, gl_si, gl_sl, gl_sz, gl_sr, gl_sa, gl_sb, gl_sy, gz_si, gz_sl, gz_sz, gz_sr, gz_sa, gz_sb, gz_sy, gr_si, gr_sl, gr_sz, gr_sr, gr_sa, gr_sb, gr_sy, ga_si, ga_sl, ga_sz, ga_sr, ga_sa, ga_sb, ga_sy, gb_si, gb_sl, gb_sz, gb_sr, gb_sa, gb_sb, gb_sy, gy_si, gy_sl, gy_sz, gy_sr, gy_sa, gy_sb, gy_sy, reduceIte, Nat.reduceEqDiff, and_true, true_and, and_self, false_and, and_false]) <;> (try ((repeat' split) <;> simp_all)))
        rw [e] at this
        exact this
    · by_cases h0 : tfd d x = none
      · refine ⟨up1 (ga C 58 0) 0 (oI (tfd d x)), fun h z => ?_⟩
        have := hL h z
        rw [if_pos h0, if_pos (Or.inl h0)] at this
        exact this
      · have h1 : tfd d x2 = none := by
          apply Classical.byContradiction
          intro h1
          apply hall
          intro i hi
          have hi : i < 2 := hi
          have : i = 0 ∨ i = 1 := by omega
          rcases this with rfl | rfl
          · exact h0
          · exact h1
        refine ⟨up1 (up1 (ga C 58 0) 0 (oI (tfd d x))) 1 (oI (tfd d x2)), fun h z => ?_⟩
        have := hL h z
        rw [if_neg h0, if_pos (Or.inr h1)] at this
        have e : lk2 (lk1 C d x) d x2 = sa C 58 0 (up1 (up1 (ga C 58 0) 0 (oI (tfd d x))) 1 (oI (tfd d x2))) := by (apply ST_ext <;> intros <;> (try simp only [lk2, lk1, gi_si, gi_sl, gi_sz, gi_sr, gi_sa, gi_sb, gi_sy, gl_si, gl_sl, gl_sz, gl_sr, gl_sa, gl_sb, gl_sy, gz_si, gz_sl, gz_sz, gz_sr, gz_sa, gz_sb, gz_sy, gr_si, gr_sl, gr_sz, gr_sr, gr_sa, gr_sb, gr_sy, ga_si, ga_sl, ga_sz, ga_sr, ga_sa, ga_sb, ga_sy, gb_si, gb_sl, gb_sz, gb_sr, gb_sa, gb_sb, gb_sy, gy_si, gy_sl, gy_sz, gy_sr, gy_sa, gy_sb, gy_sy, reduceIte, Nat.reduceEqDiff, and_true, true_and, and_self, false_and, and_false]) <;> (try ((repeat' split) <;> simp_all)))
        rw [e] at this
        exact this
theorem m_seE (h : Nat) (C : ST) (d : DB) (T : WL) (y : SLT) (ik : Nat → Nat) (k4 k5 : Int32) (l6 w : Int64) (hA : AbsM C d) (hW : DbW d) (hT : T.length ≤ 200) (h28 : gi C 11 28 0 = nI 0) (hIt : ItS C T y.1 ik) (hn1 : nmV y.2.1 (gb C 57 0 0)) (h24 : gi C 11 24 0 = nI (tcS y)) (hn2 : ∀ x, y.2.2.1 = some x → nmV x (gb C 57 0 1)) (hc : cnK T (kOf C) 0 220 k4 y.2.2.2.1) (hcl : ∀ x, y.2.2.2.1 = some x → x.length ≤ 200) (hg : GpK T (kOf C) 0 220 k5 y.2.2.2.2.1) (hgw : ∀ p, y.2.2.2.2.1 = some p → p < 1000) (ho : odL y.2.2.2.2.2.1 l6) (hkd : ∀ z, z ∈ y.1 → z.1 = -1 ∨ isAgg z.1) : V MX11_select (h + 230) 250 [some (vR 11 0), some (vI (nI 0)), some (vL w), none, some (vI k4), some (vI k5), some (vL l6), none, some (vI (b2i y.2.2.2.2.2.2)), none, none] [] C (StQ C (aSe (arS C) T d y)) := by
  have eC : C = eS C (nI 0) (gz C 11 29 0) := by rw [← h28]; exact (eS_id C).symm
  suffices goal : ∀ z, V MX11_select (h + 230) 250 [some (vR 11 0), some (vI (nI 0)), some (vL w), none, some (vI k4), some (vI k5), some (vL l6), none, some (vI (b2i y.2.2.2.2.2.2)), none, none] [] (eS C (nI 0) z) (StQ C (aSe (arS C) T d y)) by
    have := goal (gz C 11 29 0)
    rw [← eC] at this
    exact this
  intro z
  obtain ⟨hL1, hL2⟩ := m_lkS C d y hA hW hn1 h24 hn2
  by_cases hall : allT d (nmS y) (tcS y)
  · obtain ⟨g, hg58, hLk⟩ := hL1 hall
    obtain ⟨B, hB⟩ : ∃ B, B = sa C 58 0 g := ⟨_, rfl⟩
    have hLS : LkS C B := by rw [hB]; exact LkS_58 C g
    have b58 : ga B 58 0 = g := by rw [hB]; simp only [gi_si, gi_sl, gi_sz, gi_sr, gi_sa, gi_sb, gi_sy, gl_si, gl_sl, gl_sz, gl_sr, gl_sa, gl_sb, gl_sy, gz_si, gz_sl, gz_sz, gz_sr, gz_sa, gz_sb, gz_sy, gr_si, gr_sl, gr_sz, gr_sr, gr_sa, gr_sb, gr_sy, ga_si, ga_sl, ga_sz, ga_sr, ga_sa, ga_sb, ga_sy, gb_si, gb_sl, gb_sz, gb_sr, gb_sa, gb_sb, gb_sy, gy_si, gy_sl, gy_sz, gy_sr, gy_sa, gy_sb, gy_sy, reduceIte, Nat.reduceEqDiff, and_true, true_and, and_self, false_and, and_false]
    rw [← hB] at hLk
    obtain ⟨hF, hAt, hK, hb24, hb66, hb40, hbA⟩ := hLS
    have hBA := hAt d hA
    have htc : tcS y = 1 ∨ tcS y = 2 := by
      unfold tcS
      cases y.2.2.1 with
      | none => exact Or.inl rfl
      | some _ => exact Or.inr rfl
    have hno : ∀ i, i < tcS y → tno d (nmS y) i < dC d ∧ nmS y i = dN d (tno d (nmS y) i) := by
      intro i hi
      obtain ⟨t, ht⟩ := Option.ne_none_iff_exists'.mp (hall i hi)
      have e : tno d (nmS y) i = t := by unfold tno; rw [ht]; rfl
      rw [e]
      exact ⟨tfd_lt ht, (tfd_nm ht).symm⟩
    have hCE : CE B d T (nmS y) (tno d (nmS y)) (tcS y) := ⟨hBA, hW, htc, by rw [hb24]; exact h24, fun i hi => ⟨by rw [b58]; exact hg58 i hi, (hno i hi).1, (hno i hi).2⟩, hT⟩
    have hIB : ItS B T y.1 ik := by
      refine ⟨by rw [hb40]; exact hIt.1, hIt.2.1, fun i hi => ?_⟩
      rw [hb66, hK]
      exact hIt.2.2 i hi
    have hsk := m_seK h B d T (nmS y) (tno d (nmS y)) (tcS y) y.1 ik (nI 0) w l6 k4 k5 (b2i y.2.2.2.2.2.2) hCE hIB y.2.2.2.1 (by rw [hK]; exact hc) hcl y.2.2.2.2.1 (by rw [hK]; exact hg) hgw y.2.2.2.2.2.1 ho (skF d T y) rfl (oOf B) z (StQ C (aSe (arS C) T d y)) (by
      intro q O' o9 o10 fI fC fG
      obtain ⟨im, wk, hIB', hIY'⟩ := ItC_fn (P := plS d T y) (ty := tyS d y) O' hIB fI
      have hkd' : ∀ x, x ∈ isW (plS d T y) (tyS d y) y.1 → x.1 = -1 ∨ isAgg x.1 := by
        intro x hx
        unfold isW at hx
        obtain ⟨v, hv, e⟩ := List.mem_map.mp hx
        rw [← e]
        exact hkd v hv
      have hPin : ∀ p i c, plS d T y p = some (i, c) → i < 2 ∧ c < 4 := by
        intro p i c hP
        have hin := plc_in hP
        have := (hBA.2.2 _ (hno i hin.1).1).2.1.2.2.1
        omega
      have q' := q
      unfold skF at q'
      have qI : isF (plS d T y) (tyS d y) y.1 = nI 0 := by
        apply Classical.byContradiction
        intro z
        rw [if_neg z] at q'
        exact z q'
      rw [if_pos qI] at q'
      have qC : cdF (plS d T y) (tyS d y) y.2.2.2.1 = nI 0 := by
        apply Classical.byContradiction
        intro z
        rw [if_neg z] at q'
        exact z q'
      rw [if_pos qC] at q'
      obtain ⟨hm, hon, i0, c0, hMode, hgp⟩ := sel_mode (hIB'.2.1) (hIB'.2.2.1) hkd' hPin q'
      have hchk : chK (pO B O') d (tcS y) (tno d (nmS y)) k4 (cdW (plS d T y) (tyS d y) y.2.2.2.1) := by
        unfold cnO at fC
        unfold cdW
        cases hcd : y.2.2.2.1 with
        | none => rw [hcd] at fC; exact fC
        | some x =>
          rw [hcd] at fC
          obtain ⟨n, a1, a2, a3, a4⟩ := fC
          exact ⟨n, a1, a2, by rw [pO_kOf, pO_oOf]; exact a3, a4⟩
      have hGr : GrK (pO B O') d (tcS y) (tno d (nmS y)) (isW (plS d T y) (tyS d y) y.1) (grB y) k5 := by
        unfold gpO at fG
        unfold grB
        cases hgr : y.2.2.2.2.1 with
        | none =>
          rw [hgr] at fG
          exact ⟨fun _ => fG, fun z => absurd z (by simp)⟩
        | some p =>
          rw [hgr] at fG
          obtain ⟨kg, i, c, a1, a2, a3, a4, a5⟩ := fG
          refine ⟨fun z => absurd z (by simp), fun _ => ⟨kg, a1, a2, ?_⟩⟩
          have htl : tlS (plS d T y) (some p) y.2.2.2.2.2.1 (isW (plS d T y) (tyS d y) y.1) = nI 0 := by
            rw [hgr] at q'
            unfold fin5 at q'
            split at q'
            · exact absurd q' (by decide)
            · exact q'
          unfold tlS tlF at htl
          have a3 : plS d T y p = some (i, c) := a3
          rw [Option.map_some, a3] at htl
          simp only at htl
          split at htl
          · exact absurd htl (by decide)
          · split at htl
            · rename_i hfst
              have hf := hfst.1
              cases hh : isW (plS d T y) (tyS d y) y.1 with
              | nil => rw [hh] at hf; simp [fst1] at hf
              | cons v rest =>
                rw [hh] at hf
                obtain ⟨va, vx⟩ := v
                rw [fst1_iff] at hf
                have ehd : hdI ((va, vx) :: rest) = [(nI (4 + i), nI c)] := hf.2
                rw [ehd, pO_kOf, pO_oOf]
                exact ⟨a4, a5⟩
            · exact absurd htl (by decide)
      have hTb : TbS (pO B O') d (tcS y) (tno d (nmS y)) (if tcS y = 2 then dR d (tno d (nmS y) 1) else 1) := ⟨AbsM_pO O' hBA, hW, htc, by rw [show gi (pO B O') 11 24 0 = gi B 11 24 0 by simp only [pO, gi_si, gi_sl, gi_sz, gi_sr, gi_sa, gi_sb, gi_sy, gl_si, gl_sl, gl_sz, gl_sr, gl_sa, gl_sb, gl_sy, gz_si, gz_sl, gz_sz, gz_sr, gz_sa, gz_sb, gz_sy, gr_si, gr_sl, gr_sz, gr_sr, gr_sa, gr_sb, gr_sy, ga_si, ga_sl, ga_sz, ga_sr, ga_sa, ga_sb, ga_sy, gb_si, gb_sl, gb_sz, gb_sr, gb_sa, gb_sb, gb_sy, gy_si, gy_sl, gy_sz, gy_sr, gy_sa, gy_sb, gy_sy, reduceIte, Nat.reduceEqDiff, and_true, true_and, and_self, false_and, and_false], hb24]; exact h24, fun i hi => ⟨by rw [pO_ga58, b58]; exact hg58 i hi, (hno i hi).1⟩, fun e => by rw [if_pos e], fun e => by rw [if_neg (by omega)]⟩
      have hI24 : (if tcS y = 2 then dR d (tno d (nmS y) 1) else 1) ≤ 24 := by
        by_cases e : tcS y = 2
        · rw [if_pos e]
          exact (hBA.2.2 _ (hno 1 (by omega)).1).2.1.2.2.2
        · rw [if_neg e]; decide
      have hAr : arS (pO B O') = arS C := by
        rw [← hbA]
        exact arS_c (by simp only [pO, gi_si, gi_sl, gi_sz, gi_sr, gi_sa, gi_sb, gi_sy, gl_si, gl_sl, gl_sz, gl_sr, gl_sa, gl_sb, gl_sy, gz_si, gz_sl, gz_sz, gz_sr, gz_sa, gz_sb, gz_sy, gr_si, gr_sl, gr_sz, gr_sr, gr_sa, gr_sb, gr_sy, ga_si, ga_sl, ga_sz, ga_sr, ga_sa, ga_sb, ga_sy, gb_si, gb_sl, gb_sz, gb_sr, gb_sa, gb_sb, gb_sy, gy_si, gy_sl, gy_sz, gy_sr, gy_sa, gy_sb, gy_sy, reduceIte, Nat.reduceEqDiff, and_true, true_and, and_self, false_and, and_false]) (by simp only [pO, gi_si, gi_sl, gi_sz, gi_sr, gi_sa, gi_sb, gi_sy, gl_si, gl_sl, gl_sz, gl_sr, gl_sa, gl_sb, gl_sy, gz_si, gz_sl, gz_sz, gz_sr, gz_sa, gz_sb, gz_sy, gr_si, gr_sl, gr_sz, gr_sr, gr_sa, gr_sb, gr_sy, ga_si, ga_sl, ga_sz, ga_sr, ga_sa, ga_sb, ga_sy, gb_si, gb_sl, gb_sz, gb_sr, gb_sa, gb_sb, gb_sy, gy_si, gy_sl, gy_sz, gy_sr, gy_sa, gy_sb, gy_sy, reduceIte, Nat.reduceEqDiff, and_true, true_and, and_self, false_and, and_false]) (by simp only [pO, gi_si, gi_sl, gi_sz, gi_sr, gi_sa, gi_sb, gi_sy, gl_si, gl_sl, gl_sz, gl_sr, gl_sa, gl_sb, gl_sy, gz_si, gz_sl, gz_sz, gz_sr, gz_sa, gz_sb, gz_sy, gr_si, gr_sl, gr_sz, gr_sr, gr_sa, gr_sb, gr_sy, ga_si, ga_sl, ga_sz, ga_sr, ga_sa, ga_sb, ga_sy, gb_si, gb_sl, gb_sz, gb_sr, gb_sa, gb_sb, gb_sy, gy_si, gy_sl, gy_sz, gy_sr, gy_sa, gy_sb, gy_sy, reduceIte, Nat.reduceEqDiff, and_true, true_and, and_self, false_and, and_false]) (by simp only [pO, gi_si, gi_sl, gi_sz, gi_sr, gi_sa, gi_sb, gi_sy, gl_si, gl_sl, gl_sz, gl_sr, gl_sa, gl_sb, gl_sy, gz_si, gz_sl, gz_sz, gz_sr, gz_sa, gz_sb, gz_sy, gr_si, gr_sl, gr_sz, gr_sr, gr_sa, gr_sb, gr_sy, ga_si, ga_sl, ga_sz, ga_sr, ga_sa, ga_sb, ga_sy, gb_si, gb_sl, gb_sz, gb_sr, gb_sa, gb_sb, gb_sy, gy_si, gy_sl, gy_sz, gy_sr, gy_sa, gy_sb, gy_sy, reduceIte, Nat.reduceEqDiff, and_true, true_and, and_self, false_and, and_false])
      have hX := m_seX h (pO B O') C d (tcS y) (tno d (nmS y)) (isW (plS d T y) (tyS d y) y.1) ik im wk k4 k5 (cdW (plS d T y) (tyS d y) y.2.2.2.1) (smB d T y) (grB y) i0 c0 _ hIB' hIY' hchk hGr hMode hTb hI24 (FrM_pO O' hF) y.2.2.2.2.2.1 y.2.2.2.2.2.2 l6 ho hon (nI 0) w o9 o10 z (aSe (arS C) T d y)
      rw [hAr] at hX
      exact hX (fun e => aSe_r hall q e) (fun e1 e2 => aSe_o hall q e1 e2) (fun e1 e2 => aSe_s hall q e1 e2)) (by
      intro q O'
      exact StQ_f (nI 0) q (aSe_f hall q) (FrM_pO O' hF) (AbsM_pO O' hBA))
    rw [pO_id] at hsk
    repeat' (first | ((first | with_reducible refine b_X11_select_0 ?_ | with_reducible refine b_X11_select_7 ?_ | with_reducible refine b_X11_select_11 ?_ | with_reducible refine b_X11_select_18 ?_ | with_reducible refine b_X11_select_30 ?_ | with_reducible refine b_X11_select_49 ?_ | with_reducible refine b_X11_select_55 ?_ | with_reducible refine b_X11_select_58 ?_ | with_reducible refine b_X11_select_62 ?_ | with_reducible refine b_X11_select_63 ?_ | with_reducible refine b_X11_select_73 ?_ | with_reducible refine b_X11_select_77 ?_ | with_reducible refine b_X11_select_78 ?_ | with_reducible refine b_X11_select_85 ?_ | with_reducible refine b_X11_select_91 ?_ | with_reducible refine b_X11_select_103 ?_ | with_reducible refine b_X11_select_115 ?_ | with_reducible refine b_X11_select_118 ?_ | with_reducible refine b_X11_select_139 ?_ | with_reducible refine b_X11_select_145 ?_ | with_reducible refine b_X11_select_149 ?_ | with_reducible refine b_X11_select_160 ?_ | with_reducible refine b_X11_select_163 ?_ | with_reducible refine b_X11_select_177 ?_ | with_reducible refine b_X11_select_179 ?_ | with_reducible refine b_X11_select_193 ?_ | with_reducible refine b_X11_select_196 ?_ | with_reducible refine b_X11_select_212 ?_ | with_reducible refine b_X11_select_220 ?_ | with_reducible refine b_X11_select_232 ?_ | with_reducible refine b_X11_select_236 ?_ | with_reducible refine b_X11_select_237 ?_ | with_reducible refine b_X11_select_241 ?_ | with_reducible refine b_X11_select_245 ?_ | with_reducible refine b_X11_select_248 ?_ | with_reducible refine b_X11_select_250 ?_ | ((with_reducible refine k_X11_select_251 (hLk _ _) ?_ (by first | decide | assumption | (simp only [NI]; omega)) (Nat.le_of_ble_eq_true rfl)); rintro r S' ⟨rfl, rfl⟩) | with_reducible refine b_X11_select_254 ?_ | with_reducible refine b_X11_select_266 ?_ | with_reducible refine b_X11_select_277 ?_ | with_reducible refine b_X11_select_285 ?_ | with_reducible refine b_X11_select_290 ?_ | with_reducible refine b_X11_select_296 ?_ | with_reducible refine b_X11_select_298 ?_ | with_reducible refine b_X11_select_303 ?_ | with_reducible refine b_X11_select_309 ?_ | with_reducible refine b_X11_select_311 ?_ | with_reducible refine b_X11_select_318 ?_ | with_reducible refine b_X11_select_325 ?_ | with_reducible refine b_X11_select_336 ?_ | with_reducible refine b_X11_select_343 ?_ | with_reducible refine b_X11_select_350 ?_ | with_reducible refine b_X11_select_356 ?_ | with_reducible refine b_X11_select_359 ?_ | with_reducible refine b_X11_select_368 ?_ | with_reducible refine b_X11_select_379 ?_ | with_reducible refine b_X11_select_385 ?_ | with_reducible refine b_X11_select_391 ?_ | with_reducible refine b_X11_select_398 ?_ | with_reducible refine b_X11_select_400 ?_ | with_reducible refine b_X11_select_408 ?_ | with_reducible refine b_X11_select_412 ?_ | with_reducible refine b_X11_select_415 ?_ | with_reducible refine b_X11_select_422 ?_ | with_reducible refine b_X11_select_431 ?_ | with_reducible refine b_X11_select_438 ?_ | with_reducible refine b_X11_select_442 ?_ | with_reducible refine b_X11_select_447 ?_ | with_reducible refine b_X11_select_464 ?_ | with_reducible refine b_X11_select_467 ?_ | with_reducible refine b_X11_select_473 ?_ | with_reducible refine b_X11_select_479 ?_ | with_reducible refine b_X11_select_485 ?_ | with_reducible refine b_X11_select_492 ?_ | with_reducible refine b_X11_select_511 ?_ | with_reducible refine b_X11_select_522 ?_ | with_reducible refine b_X11_select_538 ?_ | with_reducible refine b_X11_select_542 ?_ | with_reducible refine b_X11_select_549 ?_ | with_reducible refine b_X11_select_570 ?_) <;> (try simp only [o_al, o_c, o_dup, o_get, o_i2l, o_iadd, o_iald, o_iast, o_il, o_imul, o_inc, o_is, o_isub, o_l2i, o_last, o_lc, o_lcmp, o_ll, o_ls, o_puti, o_zald, o_zast, t_1, t_2, t_ir, decide_true, decide_false, Bool.decide_eq_true, Bool.not_eq_false, Bool.not_eq_true, bft, btf, false_implies, true_implies, decide_eq_true_eq, decide_eq_false_iff_not, fv, st1, st2, kl, cat1, List.getElem?_cons_zero, List.getElem?_cons_succ, List.set_cons_zero, List.set_cons_succ, List.length_cons, List.length_nil, List.forall_mem_cons, List.not_mem_nil, Option.toList_some, Option.toList_none, List.cons_append, List.nil_append, and_true, true_and, and_self, reduceIte, Nat.reduceEqDiff, Nat.reduceLT, Nat.reduceAdd, Nat.lt_add_one, Nat.zero_lt_one, Nat.reduceLeDiff, false_and, and_false, forall_const, eq_self, not_true_eq_false, not_false_eq_true, implies_true, forall_eq, b2i_t, b2i_f, true_or, or_true, or_self, or_false, false_or, z01, z10, d10, d01, b2i_01, b2i_d, b2i_eq0, b2i_eq1, b2i_inj, Bool.true_eq_false, Bool.false_eq_true, gi_si, gi_sl, gi_sz, gi_sr, gi_sa, gi_sb, gi_sy, gl_si, gl_sl, gl_sz, gl_sr, gl_sa, gl_sb, gl_sy, gz_si, gz_sl, gz_sz, gz_sr, gz_sa, gz_sb, gz_sy, gr_si, gr_sl, gr_sz, gr_sr, gr_sa, gr_sb, gr_sy, ga_si, ga_sl, ga_sz, ga_sr, ga_sa, ga_sb, ga_sy, gb_si, gb_sl, gb_sz, gb_sr, gb_sa, gb_sb, gb_sy, gy_si, gy_sl, gy_sz, gy_sr, gy_sa, gy_sb, gy_sy, NI_11, NI_57, NI_60, NI_61, NI_62, NI_63, NI_66, LY_11, LY_57, LY_60, LY_61, LY_62, LY_63, LY_66])) | ((with_reducible apply br_V) <;> intro hc) | ((with_reducible apply br_C) <;> try intro hc) | (with_reducible apply an_I) | (with_reducible apply an_V) | (with_reducible apply an_A))
    all_goals exact hsk
  · obtain ⟨g, hLk⟩ := hL2 hall
    obtain ⟨hF, hAt, hK, hb24, hb66, hb40, hbA⟩ := LkS_58 C g
    have hN : ItN (sa C 58 0 g) y.1.length ik := ⟨by rw [hb40]; exact hIt.1, hIt.2.1.2, fun i hi => ⟨by rw [hb66]; exact (hIt.2.2 i hi).1, (hIt.2.2 i hi).2.1⟩⟩
    have := m_seD257 h (sa C 58 0 g) (-1001) z y.1.length ik (nI 0) w l6 k4 k5 (b2i y.2.2.2.2.2.2) (StQ C (aSe (arS C) T d y)) (by decide) hN (cn_KnO T k4 hc) (gp_KnO T k5 hg) (StQ_f (nI 0) (by decide) (aSe_n hall) hF (hAt d hA)) y.1.length 0 none (by omega)
    repeat' (first | ((first | with_reducible refine b_X11_select_0 ?_ | with_reducible refine b_X11_select_7 ?_ | with_reducible refine b_X11_select_11 ?_ | with_reducible refine b_X11_select_18 ?_ | with_reducible refine b_X11_select_30 ?_ | with_reducible refine b_X11_select_49 ?_ | with_reducible refine b_X11_select_55 ?_ | with_reducible refine b_X11_select_58 ?_ | with_reducible refine b_X11_select_62 ?_ | with_reducible refine b_X11_select_63 ?_ | with_reducible refine b_X11_select_73 ?_ | with_reducible refine b_X11_select_77 ?_ | with_reducible refine b_X11_select_78 ?_ | with_reducible refine b_X11_select_85 ?_ | with_reducible refine b_X11_select_91 ?_ | with_reducible refine b_X11_select_103 ?_ | with_reducible refine b_X11_select_115 ?_ | with_reducible refine b_X11_select_118 ?_ | with_reducible refine b_X11_select_139 ?_ | with_reducible refine b_X11_select_145 ?_ | with_reducible refine b_X11_select_149 ?_ | with_reducible refine b_X11_select_160 ?_ | with_reducible refine b_X11_select_163 ?_ | with_reducible refine b_X11_select_177 ?_ | with_reducible refine b_X11_select_179 ?_ | with_reducible refine b_X11_select_193 ?_ | with_reducible refine b_X11_select_196 ?_ | with_reducible refine b_X11_select_212 ?_ | with_reducible refine b_X11_select_220 ?_ | with_reducible refine b_X11_select_232 ?_ | with_reducible refine b_X11_select_236 ?_ | with_reducible refine b_X11_select_237 ?_ | with_reducible refine b_X11_select_241 ?_ | with_reducible refine b_X11_select_245 ?_ | with_reducible refine b_X11_select_248 ?_ | with_reducible refine b_X11_select_250 ?_ | ((with_reducible refine k_X11_select_251 (hLk _ _) ?_ (by first | decide | assumption | (simp only [NI]; omega)) (Nat.le_of_ble_eq_true rfl)); rintro r S' ⟨rfl, rfl⟩) | with_reducible refine b_X11_select_254 ?_ | with_reducible refine b_X11_select_266 ?_ | with_reducible refine b_X11_select_277 ?_ | with_reducible refine b_X11_select_285 ?_ | with_reducible refine b_X11_select_290 ?_ | with_reducible refine b_X11_select_296 ?_ | with_reducible refine b_X11_select_298 ?_ | with_reducible refine b_X11_select_303 ?_ | with_reducible refine b_X11_select_309 ?_ | with_reducible refine b_X11_select_311 ?_ | with_reducible refine b_X11_select_318 ?_ | with_reducible refine b_X11_select_325 ?_ | with_reducible refine b_X11_select_336 ?_ | with_reducible refine b_X11_select_343 ?_ | with_reducible refine b_X11_select_350 ?_ | with_reducible refine b_X11_select_356 ?_ | with_reducible refine b_X11_select_359 ?_ | with_reducible refine b_X11_select_368 ?_ | with_reducible refine b_X11_select_379 ?_ | with_reducible refine b_X11_select_385 ?_ | with_reducible refine b_X11_select_391 ?_ | with_reducible refine b_X11_select_398 ?_ | with_reducible refine b_X11_select_400 ?_ | with_reducible refine b_X11_select_408 ?_ | with_reducible refine b_X11_select_412 ?_ | with_reducible refine b_X11_select_415 ?_ | with_reducible refine b_X11_select_422 ?_ | with_reducible refine b_X11_select_431 ?_ | with_reducible refine b_X11_select_438 ?_ | with_reducible refine b_X11_select_442 ?_ | with_reducible refine b_X11_select_447 ?_ | with_reducible refine b_X11_select_464 ?_ | with_reducible refine b_X11_select_467 ?_ | with_reducible refine b_X11_select_473 ?_ | with_reducible refine b_X11_select_479 ?_ | with_reducible refine b_X11_select_485 ?_ | with_reducible refine b_X11_select_492 ?_ | with_reducible refine b_X11_select_511 ?_ | with_reducible refine b_X11_select_522 ?_ | with_reducible refine b_X11_select_538 ?_ | with_reducible refine b_X11_select_542 ?_ | with_reducible refine b_X11_select_549 ?_ | with_reducible refine b_X11_select_570 ?_) <;> (try simp only [o_al, o_c, o_dup, o_get, o_i2l, o_iadd, o_iald, o_iast, o_il, o_imul, o_inc, o_is, o_isub, o_l2i, o_last, o_lc, o_lcmp, o_ll, o_ls, o_puti, o_zald, o_zast, t_1, t_2, t_ir, decide_true, decide_false, Bool.decide_eq_true, Bool.not_eq_false, Bool.not_eq_true, bft, btf, false_implies, true_implies, decide_eq_true_eq, decide_eq_false_iff_not, fv, st1, st2, kl, cat1, List.getElem?_cons_zero, List.getElem?_cons_succ, List.set_cons_zero, List.set_cons_succ, List.length_cons, List.length_nil, List.forall_mem_cons, List.not_mem_nil, Option.toList_some, Option.toList_none, List.cons_append, List.nil_append, and_true, true_and, and_self, reduceIte, Nat.reduceEqDiff, Nat.reduceLT, Nat.reduceAdd, Nat.lt_add_one, Nat.zero_lt_one, Nat.reduceLeDiff, false_and, and_false, forall_const, eq_self, not_true_eq_false, not_false_eq_true, implies_true, forall_eq, b2i_t, b2i_f, true_or, or_true, or_self, or_false, false_or, z01, z10, d10, d01, b2i_01, b2i_d, b2i_eq0, b2i_eq1, b2i_inj, Bool.true_eq_false, Bool.false_eq_true, gi_si, gi_sl, gi_sz, gi_sr, gi_sa, gi_sb, gi_sy, gl_si, gl_sl, gl_sz, gl_sr, gl_sa, gl_sb, gl_sy, gz_si, gz_sl, gz_sz, gz_sr, gz_sa, gz_sb, gz_sy, gr_si, gr_sl, gr_sz, gr_sr, gr_sa, gr_sb, gr_sy, ga_si, ga_sl, ga_sz, ga_sr, ga_sa, ga_sb, ga_sy, gb_si, gb_sl, gb_sz, gb_sr, gb_sa, gb_sb, gb_sy, gy_si, gy_sl, gy_sz, gy_sr, gy_sa, gy_sb, gy_sy, NI_11, NI_57, NI_60, NI_61, NI_62, NI_63, NI_66, LY_11, LY_57, LY_60, LY_61, LY_62, LY_63, LY_66])) | ((with_reducible apply br_V) <;> intro hc) | ((with_reducible apply br_C) <;> try intro hc) | (with_reducible apply an_I) | (with_reducible apply an_V) | (with_reducible apply an_A))
    all_goals exact this
