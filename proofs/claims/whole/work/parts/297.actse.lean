-- deps: 296
-- act: select
theorem isW_len {P : Nat → Option (Nat × Nat)} {ty : Nat → Nat → Int32} (its : IL) : (isW P ty its).length = its.length := by simp [isW]
theorem isW_map {P : Nat → Option (Nat × Nat)} {ty : Nat → Nat → Int32} {its : IL} (h : ∀ y, y ∈ its → (txW P ty y.2).length = y.2.length) : (isW P ty its).map (fun x => (x.1, x.2.length)) = its.map (fun x => (x.1, x.2.length)) := by
  unfold isW
  rw [List.map_map]
  apply List.map_congr_left
  intro y hy
  simp [h y hy]
theorem flt_mlen {a b : IL} (h : a.map (fun x => (x.1, x.2.length)) = b.map (fun x => (x.1, x.2.length))) : (flt a).length = (flt b).length := by
  have e : ∀ l : IL, (flt l).length = ((l.map (fun x => (x.1, x.2.length))).map (fun z => z.2)).sum := by
    intro l
    induction l with
    | nil => rfl
    | cons y l ih =>
      have : flt (y :: l) = y.2 ++ flt l := rfl
      rw [this, List.length_append, ih]
      simp
  rw [e, e, h]
theorem act_sel {S S4 S5 : ST} {d : DB} {jr : Nat} {A : AR} {T : WL} {y : SLT} {r : Option AV} (h : PreA S S4) (hA : allT d (nmS y) (tcS y)) (hs : skF d T y = nI 0) (h5 : SelQ S4 d jr (isW (plS d T y) (tyS d y) y.1) y.2.2.2.2.2.1 y.2.2.2.2.2.2 (slR A T d y) r S5) : ∃ x : Int32, r = some (vI x) ∧ ActQ S jr (aSe A T d y) (some (vI x)) S5 := by
  rcases h5 with ⟨h0, rfl, hO⟩ | ⟨h0, hv, rfl, hO⟩ | ⟨h0, hv, rfl, hO, p, hp, hR⟩
  · refine ⟨_, rfl, ?_⟩
    rw [aSe_r hA hs h0]
    exact act_run _ h hO
  · refine ⟨_, rfl, ?_⟩
    rw [aSe_o hA hs h0 hv]
    exact act_run _ h hO
  · refine ⟨_, rfl, ?_⟩
    rw [aSe_s hA hs h0 hv]
    obtain ⟨a1, a2, a3⟩ := hO
    obtain ⟨⟨a, ha, e4⟩, e10⟩ := h.2
    refine ⟨rfl, AG_trans (AG_sub h.1 pkP_A) (AG_sub a1 pkR_A), a2, a3, ⟨a, ha, ?_⟩, ?_, p, hp, hR⟩
    · rw [((a1 4 rfl).1 2 0).1]; exact e4
    · rw [((a1 10 rfl).1 1 0).1]; exact e10
section
variable (h : Nat) (S : ST) (d : DB) (jr jf : Nat) (T : WL)
theorem act_se (A : AR) (S2 : ST) (y : SLT) (hd : DbC S d) (hk : RunK S) (hjr : gr S 2 3 0 = jr) (hjf : gr S 2 4 0 = jf) (hj1 : jf < 2) (hj2 : jr < 2) (hne : jr ≠ jf) (hT : T.length ≤ 200) (hP : PreA S S2) (h9 : gi S2 9 2 0 = nI T.length) (hTk : TokIs S2 T) (hits : ItR T y.1) (hy : ∀ c, y.2.2.2.1 = some c → isC T c) (hyl : (flt y.1).length + (y.2.2.2.1.getD []).length + 1 ≤ T.length) (hgw : ∀ w, y.2.2.2.2.1 = some w → w < 1000) (e8 : gi S2 6 8 0 = nI 205) (e9 : gi S2 6 9 0 = nI (tcS y)) (e22 : ∀ i, i < tcS y → ga S2 22 0 i = nmS y i) (eL : gi S2 1 2 0 = nI (flt y.1 ++ y.2.2.2.1.getD []).length) (ecl : CL (ga S2 13 0) (ga S2 14 0) (flt y.1 ++ y.2.2.2.1.getD [])) (e13 : gi S2 6 13 0 = cnI y.2.2.2.1 (flt y.1).length) (e14 : gi S2 6 14 0 = grI y.2.2.2.2.1) (e15 : gi S2 6 15 0 = y.2.2.2.2.2.1) (e16 : gz S2 6 16 0 = y.2.2.2.2.2.2) (e10 : gi S2 6 10 0 = nI y.1.length) (eIt : ItO S2 0 0 y.1) : ∃ Qc : Option AV → ST → Prop, Ct MX0_check (h + 79) [vR 0 0] S2 Qc ∧ ∀ r S3, Qc r S3 → ∃ f : Int32, r = some (vI f) ∧ ((¬ f = nI 0 ∧ ActQ S jr (aSe A T d y) (some (vI f)) S3) ∨ (f = nI 0 ∧ ∃ Qm : Option AV → ST → Prop, Ct MX3_make (h + 79) [vR 3 0] S3 Qm ∧ ∀ r S4, Qm r S4 → r = none ∧ gi S4 9 2 0 = nI T.length ∧ ∃ Qx : Option AV → ST → Prop, Ct MX2_run (h + 79) [vR 2 0, vI (nI T.length)] S4 Qx ∧ ∀ r S5, Qx r S5 → ∃ x : Int32, r = some (vI x) ∧ ActQ S jr (aSe A T d y) (some (vI x)) S5)) := by
  obtain ⟨n0, h04⟩ := nI_surj (gi S2 0 4 0)
  have htc : tcS y = 1 ∨ tcS y = 2 := by unfold tcS; cases y.2.2.1 <;> simp
  have htc2 : tcS y ≤ 2 := by omega
  have hwc : WH (y.2.2.2.1.getD []) 0 := by
    cases hc : y.2.2.2.1 with
    | none => trivial
    | some c => exact WH_c hT (hy c hc)
  have hfl : 1 ≤ (flt y.1).length := by
    obtain ⟨h1, _, h3⟩ := hits
    cases hl : y.1 with
    | nil => rw [hl] at h1; simp at h1
    | cons z l =>
      have hz := (h3 z (by rw [hl]; simp)).1
      obtain ⟨f, hx⟩ := hz
      have : ∀ f (x : WL), XW T f x → 1 ≤ x.length := by
        intro f x hx
        cases f with
        | zero => exact hx.elim
        | succ f =>
          rcases hx with ⟨_, rfl⟩ | ⟨_, rfl⟩ | rfl | ⟨_, rfl, _⟩ | ⟨_, _, rfl⟩ | ⟨_, _, _, _, _, _, rfl⟩ <;> simp <;> omega
      have := this f z.2 hx
      have e : flt (z :: l) = z.2 ++ flt l := rfl
      rw [e, List.length_append]
      omega
  have hne0 : y.1 ≠ [] := by intro e; have := hits.1; rw [e] at this; simp at this
  refine ⟨_, c_check_select (h + 73) S2 d T n0 (flt y.1 ++ y.2.2.2.1.getD []).length (tcS y) (nmS y) y.1 y.2.2.2.1 y.2.2.2.2.1 h04 (AGP_Db hP.1 hd) hTk ⟨e8, e9, htc2, e22⟩ eL rfl (by simp; omega) ecl hwc eIt hne0 (by simp; omega) e10 hits.2.1 e13 e14 hgw, ?_⟩
  rintro r S3 ⟨g23, g1, g2, m, g, n, rfl, hcase⟩
  have hP3 := PreA_kt hP g23 g1 g2 m g n
  rcases hcase with ⟨hA, rfl⟩ | ⟨hA, hg, rfl, hcl⟩
  · refine ⟨_, rfl, Or.inl ⟨by decide, ?_⟩⟩
    rw [aSe_n hA]
    exact act_fail _ hd hk hP3
  · have hdC := hd.1.2
    have hno4 : ∀ i, i < tcS y → tno d (nmS y) i < 4 := by
      intro i hi
      have := tfd_lt (tno_eq (hA i hi))
      omega
    have hEO : ∀ x : WL, (isX T x ∨ isC T x) → _ := fun x hx => tx_EO (d := d) (T := T) (nm := nmS y) (no := tno d (nmS y)) (tc := tcS y) (x := x) hT htc2 (fun i hi => (hd.2 _ (hno4 i hi)).2.1.1) hx
    have hit := it_tx (P := plS d T y) (ty := tyS d y) (K := fun i => if i < tcS y then some (dK d (tno d (nmS y) i)) else none) (its := y.1) (g := ga S2 12 0) (n := n0) (m := 0) (fun z hz => ⟨(hEO z.2 (Or.inl (hits.2.2 z hz).1)).2.1, (hEO z.2 (Or.inl (hits.2.2 z hz).1)).1⟩)
    have hcn := cn_tx (P := plS d T y) (ty := tyS d y) (K := fun i => if i < tcS y then some (dK d (tno d (nmS y) i)) else none) (c := y.2.2.2.1) (g := (ckIt (plS d T y) (tyS d y) y.1 (ga S2 12 0) n0 0).2.2.1) (n := (ckIt (plS d T y) (tyS d y) y.1 (ga S2 12 0) n0 0).2.2.2.1) (m := (ckIt (plS d T y) (tyS d y) y.1 (ga S2 12 0) n0 0).2.2.2.2) hwc (fun c hc => (hEO c (Or.inr (hy c hc))).1)
    have eSk : seF (plS d T y) (tyS d y) y.1 y.2.2.2.1 (ga S2 12 0) n0 (tlS (plS d T y) y.2.2.2.2.1 (gi S2 6 15 0)) = skF d T y := by
      unfold seF skF
      rw [hit.1, hcn.1, e15]
      by_cases q : isF (plS d T y) (tyS d y) y.1 = nI 0
      · rw [if_pos q, if_pos q]
        by_cases q2 : cdF (plS d T y) (tyS d y) y.2.2.2.1 = nI 0
        · rw [if_pos q2, if_pos q2, (hit.2 q).1, (hcn.2 q2).2, (hit.2 q).2]
          congr 1 <;> omega
        · rw [if_neg q2, if_neg q2]
      · rw [if_neg q, if_neg q]
    change seF (plS d T y) (tyS d y) y.1 y.2.2.2.1 (ga S2 12 0) n0 (tlS (plS d T y) y.2.2.2.2.1 (gi S2 6 15 0)) = nI 0 → CL g1 g2 (flt (ckIt (plS d T y) (tyS d y) y.1 (ga S2 12 0) n0 0).2.1 ++ (cnF (plS d T y) (tyS d y) y.2.2.2.1 (ckIt (plS d T y) (tyS d y) y.1 (ga S2 12 0) n0 0).2.2.1 (ckIt (plS d T y) (tyS d y) y.1 (ga S2 12 0) n0 0).2.2.2.1 (ckIt (plS d T y) (tyS d y) y.1 (ga S2 12 0) n0 0).2.2.2.2).2.1) at hcl
    refine ⟨seF (plS d T y) (tyS d y) y.1 y.2.2.2.1 (ga S2 12 0) n0 (tlS (plS d T y) y.2.2.2.2.1 (gi S2 6 15 0)), rfl, ?_⟩
    rw [eSk] at hcl ⊢
    by_cases q : skF d T y = nI 0
    · right
      refine ⟨q, ?_⟩
      have hcl2 := hcl q
      -- what the check found
      have hq1 : isF (plS d T y) (tyS d y) y.1 = nI 0 := by
        unfold skF at q
        by_cases z : isF (plS d T y) (tyS d y) y.1 = nI 0
        · exact z
        · rw [if_neg z] at q; exact q
      have hq2 : cdF (plS d T y) (tyS d y) y.2.2.2.1 = nI 0 := by
        unfold skF at q
        rw [if_pos hq1] at q
        by_cases z : cdF (plS d T y) (tyS d y) y.2.2.2.1 = nI 0
        · exact z
        · rw [if_neg z] at q; exact q
      have hq3 : fin5 (tlS (plS d T y) y.2.2.2.2.1 y.2.2.2.2.2.1 (isW (plS d T y) (tyS d y) y.1)) (max (isH (plS d T y) (tyS d y) y.1) (cdH (plS d T y) (tyS d y) y.2.2.2.1)) = nI 0 := by
        unfold skF at q
        rw [if_pos hq1, if_pos hq2] at q
        exact q
      rw [(hit.2 hq1).1, (hcn.2 hq2).1] at hcl2
      have hX : ∀ z, z ∈ y.1 → (txW (plS d T y) (tyS d y) z.2).length = z.2.length ∧ OV (txW (plS d T y) (tyS d y) z.2) ∧ 1 ≤ txH (plS d T y) (tyS d y) z.2 ∧ (txH (plS d T y) (tyS d y) z.2 ≤ 10 → EH d (tcS y) (tno d (nmS y)) (txW (plS d T y) (tyS d y) z.2) 0) := fun z hz => (hEO z.2 (Or.inl (hits.2.2 z hz).1)).2.2 (isF_all hq1 z hz).1
      have hmap := isW_map (P := plS d T y) (ty := tyS d y) (its := y.1) (fun z hz => (hX z hz).1)
      have hfw := flt_mlen hmap
      obtain ⟨hm10, hon, i0, c0, hMode, hgp⟩ := sel_mode (its := isW (plS d T y) (tyS d y) y.1) (P := plS d T y) (by rw [isW_len]; exact hits.1) (by rw [isW_len]; exact hits.2.1) (by
        intro z hz
        unfold isW at hz
        obtain ⟨z0, hz0, rfl⟩ := List.mem_map.mp hz
        exact (hits.2.2 z0 hz0).2) (fun p i c hp => by
        have h1 := plc_in hp
        have := (hd.2 _ (hno4 i h1.1)).2.1.1
        exact ⟨by omega, by omega⟩) hq3
      have hcw : ∀ c, cdW (plS d T y) (tyS d y) y.2.2.2.1 = some c → EH d (tcS y) (tno d (nmS y)) c 0 ∧ OVC c := by
        intro c hc
        cases hy2 : y.2.2.2.1 with
        | none => rw [hy2] at hc; exact absurd hc (by simp [cdW])
        | some x =>
          have := hEO x (Or.inr (hy x hy2))
          rw [hy2] at hc hq2 hm10
          simp only [cdW, Option.some.injEq] at hc
          subst hc
          have h2 := this.2.2 hq2
          refine ⟨h2.2.2.2 ?_, h2.2.1, tx_C (fun p i c h => by have := (plc_in h).1; omega) (hy x hy2)⟩
          simp only [cdH] at hm10
          have : txH (plS d T y) (tyS d y) x ≤ 10 := by omega
          exact this
      have hiw : ∀ z, z ∈ isW (plS d T y) (tyS d y) y.1 → EH d (tcS y) (tno d (nmS y)) z.2 0 ∧ OV z.2 := by
        intro z hz
        unfold isW at hz
        obtain ⟨z0, hz0, rfl⟩ := List.mem_map.mp hz
        have h1 := hX z0 hz0
        have h2 := (isF_all hq1 z0 hz0).2
        exact ⟨h1.2.2.2 (by omega), h1.2.1⟩
      have hlen : ((cdW (plS d T y) (tyS d y) y.2.2.2.1).getD []).length = (y.2.2.2.1.getD []).length := by
        cases hy2 : y.2.2.2.1 with
        | none => rfl
        | some x =>
          rw [hy2] at hq2
          exact ((hEO x (Or.inr (hy x hy2))).2.2 hq2).1
      obtain ⟨n1, h12⟩ := nI_surj (gi (kt S2 g23 g1 g2 m g n) 1 2 1)
      have hIt3 : ItO (kt S2 g23 g1 g2 m g n) 0 0 y.1 := by
        have e27 : ga (kt S2 g23 g1 g2 m g n) 27 0 = ga S2 27 0 := by simp only [kt, ck, cd, gi_si, gi_sl, gi_sz, gi_sr, gi_sa, gi_sb, gi_sy, gl_si, gl_sl, gl_sz, gl_sr, gl_sa, gl_sb, gl_sy, gz_si, gz_sl, gz_sz, gz_sr, gz_sa, gz_sb, gz_sy, gr_si, gr_sl, gr_sz, gr_sr, gr_sa, gr_sb, gr_sy, ga_si, ga_sl, ga_sz, ga_sr, ga_sa, ga_sb, ga_sy, gb_si, gb_sl, gb_sz, gb_sr, gb_sa, gb_sb, gb_sy, gy_si, gy_sl, gy_sz, gy_sr, gy_sa, gy_sb, gy_sy, reduceIte, Nat.reduceEqDiff, and_true, true_and, and_self, false_and, and_false]
        have e28 : ga (kt S2 g23 g1 g2 m g n) 28 0 = ga S2 28 0 := by simp only [kt, ck, cd, gi_si, gi_sl, gi_sz, gi_sr, gi_sa, gi_sb, gi_sy, gl_si, gl_sl, gl_sz, gl_sr, gl_sa, gl_sb, gl_sy, gz_si, gz_sl, gz_sz, gz_sr, gz_sa, gz_sb, gz_sy, gr_si, gr_sl, gr_sz, gr_sr, gr_sa, gr_sb, gr_sy, ga_si, ga_sl, ga_sz, ga_sr, ga_sa, ga_sb, ga_sy, gb_si, gb_sl, gb_sz, gb_sr, gb_sa, gb_sb, gb_sy, gy_si, gy_sl, gy_sz, gy_sr, gy_sa, gy_sb, gy_sy, reduceIte, Nat.reduceEqDiff, and_true, true_and, and_self, false_and, and_false]
        have : ∀ (l : IL) (i p : Nat), ItO S2 i p l → ItO (kt S2 g23 g1 g2 m g n) i p l := by
          intro l
          induction l with
          | nil => intro i p _; trivial
          | cons z l ih => intro i p hh; exact ⟨by rw [e27]; exact hh.1, by rw [e28]; exact hh.2.1, hh.2.2.1, ih _ _ hh.2.2.2⟩
        exact this _ _ _ eIt
      have hag : cntB (fun i => decide (¬ ga (kt S2 g23 g1 g2 m g n) 27 0 i = -1)) (isW (plS d T y) (tyS d y) y.1).length = agN (isW (plS d T y) (tyS d y) y.1) := by
        have := ag_cnt (kt S2 g23 g1 g2 m g n) y.1 0 0 hIt3
        rw [isW_len, agN_map hmap]
        simpa [cntB] using this
      have hgB : grB y = decide (¬ gi (kt S2 g23 g1 g2 m g n) 6 14 0 = -1) := by
        have : gi (kt S2 g23 g1 g2 m g n) 6 14 0 = grI y.2.2.2.2.1 := by simp only [kt, ck, cd, gi_si, gi_sl, gi_sz, gi_sr, gi_sa, gi_sb, gi_sy, gl_si, gl_sl, gl_sz, gl_sr, gl_sa, gl_sb, gl_sy, gz_si, gz_sl, gz_sz, gz_sr, gz_sa, gz_sb, gz_sy, gr_si, gr_sl, gr_sz, gr_sr, gr_sa, gr_sb, gr_sy, ga_si, ga_sl, ga_sz, ga_sr, ga_sa, ga_sb, ga_sy, gb_si, gb_sl, gb_sz, gb_sr, gb_sa, gb_sb, gb_sy, gy_si, gy_sl, gy_sz, gy_sr, gy_sa, gy_sb, gy_sy, reduceIte, Nat.reduceEqDiff, and_true, true_and, and_self, false_and, and_false]; exact e14
        rw [this]
        unfold grB
        cases hgr : y.2.2.2.2.1 with
        | none => simp [grI]
        | some w => simp [grI, nIm1 (show w < 2 ^ 31 by have := hgw w hgr; omega)]
      have hMk := c_make_select (h + 74) (kt S2 g23 g1 g2 m g n) n1 (isW (plS d T y) (tyS d y) y.1) (cdW (plS d T y) (tyS d y) y.2.2.2.1) (flt y.1 ++ y.2.2.2.1.getD []).length (tcS y) (tno d (nmS y)) (grB y) (smB d T y) htc h12 (by simp only [kt, ck, cd, gi_si, gi_sl, gi_sz, gi_sr, gi_sa, gi_sb, gi_sy, gl_si, gl_sl, gl_sz, gl_sr, gl_sa, gl_sb, gl_sy, gz_si, gz_sl, gz_sz, gz_sr, gz_sa, gz_sb, gz_sy, gr_si, gr_sl, gr_sz, gr_sr, gr_sa, gr_sb, gr_sy, ga_si, ga_sl, ga_sz, ga_sr, ga_sa, ga_sb, ga_sy, gb_si, gb_sl, gb_sz, gb_sr, gb_sa, gb_sb, gb_sy, gy_si, gy_sl, gy_sz, gy_sr, gy_sa, gy_sb, gy_sy, reduceIte, Nat.reduceEqDiff, and_true, true_and, and_self, false_and, and_false]; exact e8) hgB rfl (by simp only [kt, ck, cd, gi_si, gi_sl, gi_sz, gi_sr, gi_sa, gi_sb, gi_sy, gl_si, gl_sl, gl_sz, gl_sr, gl_sa, gl_sb, gl_sy, gz_si, gz_sl, gz_sz, gz_sr, gz_sa, gz_sb, gz_sy, gr_si, gr_sl, gr_sz, gr_sr, gr_sa, gr_sb, gr_sy, ga_si, ga_sl, ga_sz, ga_sr, ga_sa, ga_sb, ga_sy, gb_si, gb_sl, gb_sz, gb_sr, gb_sa, gb_sb, gb_sy, gy_si, gy_sl, gy_sz, gy_sr, gy_sa, gy_sb, gy_sy, reduceIte, Nat.reduceEqDiff, and_true, true_and, and_self, false_and, and_false]; exact eL) (by simp [hlen, hfw]) (by simp; omega) (by simp only [kt, ck, cd, gi_si, gi_sl, gi_sz, gi_sr, gi_sa, gi_sb, gi_sy, gl_si, gl_sl, gl_sz, gl_sr, gl_sa, gl_sb, gl_sy, gz_si, gz_sl, gz_sz, gz_sr, gz_sa, gz_sb, gz_sy, gr_si, gr_sl, gr_sz, gr_sr, gr_sa, gr_sb, gr_sy, ga_si, ga_sl, ga_sz, ga_sr, ga_sa, ga_sb, ga_sy, gb_si, gb_sl, gb_sz, gb_sr, gb_sa, gb_sb, gb_sy, gy_si, gy_sl, gy_sz, gy_sr, gy_sa, gy_sb, gy_sy, reduceIte, Nat.reduceEqDiff, and_true, true_and, and_self, false_and, and_false]; exact hcl2) (by rw [isW_len]; simp only [kt, ck, cd, gi_si, gi_sl, gi_sz, gi_sr, gi_sa, gi_sb, gi_sy, gl_si, gl_sl, gl_sz, gl_sr, gl_sa, gl_sb, gl_sy, gz_si, gz_sl, gz_sz, gz_sr, gz_sa, gz_sb, gz_sy, gr_si, gr_sl, gr_sz, gr_sr, gr_sa, gr_sb, gr_sy, ga_si, ga_sl, ga_sz, ga_sr, ga_sa, ga_sb, ga_sy, gb_si, gb_sl, gb_sz, gb_sr, gb_sa, gb_sb, gb_sy, gy_si, gy_sl, gy_sz, gy_sr, gy_sa, gy_sb, gy_sy, reduceIte, Nat.reduceEqDiff, and_true, true_and, and_self, false_and, and_false]; exact e10) (by rw [isW_len]; exact hits.2.1) (ItP_of hIt3 hmap) hag (by rw [cdW_cnI, hfw]; simp only [kt, ck, cd, gi_si, gi_sl, gi_sz, gi_sr, gi_sa, gi_sb, gi_sy, gl_si, gl_sl, gl_sz, gl_sr, gl_sa, gl_sb, gl_sy, gz_si, gz_sl, gz_sz, gz_sr, gz_sa, gz_sb, gz_sy, gr_si, gr_sl, gr_sz, gr_sr, gr_sa, gr_sb, gr_sy, ga_si, ga_sl, ga_sz, ga_sr, ga_sa, ga_sb, ga_sy, gb_si, gb_sl, gb_sz, gb_sr, gb_sa, gb_sb, gb_sy, gy_si, gy_sl, gy_sz, gy_sr, gy_sa, gy_sb, gy_sy, reduceIte, Nat.reduceEqDiff, and_true, true_and, and_self, false_and, and_false]; exact e13) (by simp only [kt, ck, cd, gi_si, gi_sl, gi_sz, gi_sr, gi_sa, gi_sb, gi_sy, gl_si, gl_sl, gl_sz, gl_sr, gl_sa, gl_sb, gl_sy, gz_si, gz_sl, gz_sz, gz_sr, gz_sa, gz_sb, gz_sy, gr_si, gr_sl, gr_sz, gr_sr, gr_sa, gr_sb, gr_sy, ga_si, ga_sl, ga_sz, ga_sr, ga_sa, ga_sb, ga_sy, gb_si, gb_sl, gb_sz, gb_sr, gb_sa, gb_sb, gb_sy, gy_si, gy_sl, gy_sz, gy_sr, gy_sa, gy_sb, gy_sy, reduceIte, Nat.reduceEqDiff, and_true, true_and, and_self, false_and, and_false]; exact e9) (by intro i hi; simp only [kt, ck, cd, gi_si, gi_sl, gi_sz, gi_sr, gi_sa, gi_sb, gi_sy, gl_si, gl_sl, gl_sz, gl_sr, gl_sa, gl_sb, gl_sy, gz_si, gz_sl, gz_sz, gz_sr, gz_sa, gz_sb, gz_sy, gr_si, gr_sl, gr_sz, gr_sr, gr_sa, gr_sb, gr_sy, ga_si, ga_sl, ga_sz, ga_sr, ga_sa, ga_sb, ga_sy, gb_si, gb_sl, gb_sz, gb_sr, gb_sa, gb_sb, gb_sy, gy_si, gy_sl, gy_sz, gy_sr, gy_sa, gy_sb, gy_sy, reduceIte, Nat.reduceEqDiff, and_true, true_and, and_self, false_and, and_false]; exact hg i hi)
      have f15 : gi (kt S2 g23 g1 g2 m g n) 6 15 0 = y.2.2.2.2.2.1 := by simp only [kt, ck, cd, gi_si, gi_sl, gi_sz, gi_sr, gi_sa, gi_sb, gi_sy, gl_si, gl_sl, gl_sz, gl_sr, gl_sa, gl_sb, gl_sy, gz_si, gz_sl, gz_sz, gz_sr, gz_sa, gz_sb, gz_sy, gr_si, gr_sl, gr_sz, gr_sr, gr_sa, gr_sb, gr_sy, ga_si, ga_sl, ga_sz, ga_sr, ga_sa, ga_sb, ga_sy, gb_si, gb_sl, gb_sz, gb_sr, gb_sa, gb_sb, gb_sy, gy_si, gy_sl, gy_sz, gy_sr, gy_sa, gy_sb, gy_sy, reduceIte, Nat.reduceEqDiff, and_true, true_and, and_self, false_and, and_false]; exact e15
      have f16 : gz (kt S2 g23 g1 g2 m g n) 6 16 0 = y.2.2.2.2.2.2 := by simp only [kt, ck, cd, gi_si, gi_sl, gi_sz, gi_sr, gi_sa, gi_sb, gi_sy, gl_si, gl_sl, gl_sz, gl_sr, gl_sa, gl_sb, gl_sy, gz_si, gz_sl, gz_sz, gz_sr, gz_sa, gz_sb, gz_sy, gr_si, gr_sl, gr_sz, gr_sr, gr_sa, gr_sb, gr_sy, ga_si, ga_sl, ga_sz, ga_sr, ga_sa, ga_sb, ga_sy, gb_si, gb_sl, gb_sz, gb_sr, gb_sa, gb_sb, gb_sy, gy_si, gy_sl, gy_sz, gy_sr, gy_sa, gy_sb, gy_sy, reduceIte, Nat.reduceEqDiff, and_true, true_and, and_self, false_and, and_false]; exact e16
      rw [f15, f16] at hMk
      refine ⟨_, hMk, ?_⟩
      rintro r S4 ⟨g1', g2', rfl, rfl, hcl'⟩
      refine ⟨rfl, by simp only [pg, kt, ck, cd, gi_si, gi_sl, gi_sz, gi_sr, gi_sa, gi_sb, gi_sy, gl_si, gl_sl, gl_sz, gl_sr, gl_sa, gl_sb, gl_sy, gz_si, gz_sl, gz_sz, gz_sr, gz_sa, gz_sb, gz_sy, gr_si, gr_sl, gr_sz, gr_sr, gr_sa, gr_sb, gr_sy, ga_si, ga_sl, ga_sz, ga_sr, ga_sa, ga_sb, ga_sy, gb_si, gb_sl, gb_sz, gb_sr, gb_sa, gb_sb, gb_sy, gy_si, gy_sl, gy_sz, gy_sr, gy_sa, gy_sb, gy_sy, reduceIte, Nat.reduceEqDiff, and_true, true_and, and_self, false_and, and_false]; exact h9, ?_⟩
      obtain ⟨PW, hPW⟩ : ∃ PW, PW = seW (smB d T y) (grB y) (tcS y) (tno d (nmS y)) (isW (plS d T y) (tyS d y) y.1) (cdW (plS d T y) (tyS d y) y.2.2.2.1) y.2.2.2.2.2.1 y.2.2.2.2.2.2 ++ [(nI 27, nI 0)] := ⟨_, rfl⟩
      rw [← hPW] at hcl' ⊢
      have hP4 := PreA_pg hP3 g1' g2' PW.length
      have hPl : PW.length ≤ 256 := by
        rw [hPW]
        have h1 := srN_len (tc := tcS y) (b := (w0 (smB d T y) (grB y)).length) (no := tno d (nmS y)) (cnd := cdW (plS d T y) (tyS d y) y.2.2.2.1)
        have h2 : (w0 (smB d T y) (grB y)).length ≤ 1 := by unfold w0; split <;> simp
        have h3 := toW_le (isW (plS d T y) (tyS d y) y.1) 0
        have h4 : (orW y.2.2.2.2.2.1 y.2.2.2.2.2.2).length ≤ 1 := by unfold orW; split <;> simp
        have h5 := itW_len (grB y) (isW (plS d T y) (tyS d y) y.1) 0
        have h6 : (if smB d T y = true then ([] : WL) else [(nI 29, nI 0)]).length ≤ 1 := by split <;> simp
        have h7 := hits.2.1
        rw [isW_len] at h3 h5
        rw [hfw] at h5
        rw [hlen] at h1
        simp only [seW, enR, seB, List.length_append, List.length_set, List.length_cons, List.length_nil]
        omega
      have hPr : PrC (pg (kt S2 g23 g1 g2 m g n) g1' g2' PW.length) PW := ⟨by simp only [pg, gi_si, gi_sl, gi_sz, gi_sr, gi_sa, gi_sb, gi_sy, gl_si, gl_sl, gl_sz, gl_sr, gl_sa, gl_sb, gl_sy, gz_si, gz_sl, gz_sz, gz_sr, gz_sa, gz_sb, gz_sy, gr_si, gr_sl, gr_sz, gr_sr, gr_sa, gr_sb, gr_sy, ga_si, ga_sl, ga_sz, ga_sr, ga_sa, ga_sb, ga_sy, gb_si, gb_sl, gb_sz, gb_sr, gb_sa, gb_sb, gb_sy, gy_si, gy_sl, gy_sz, gy_sr, gy_sa, gy_sb, gy_sy, reduceIte, Nat.reduceEqDiff, and_true, true_and, and_self, false_and, and_false], hPl, by simp only [pg, gi_si, gi_sl, gi_sz, gi_sr, gi_sa, gi_sb, gi_sy, gl_si, gl_sl, gl_sz, gl_sr, gl_sa, gl_sb, gl_sy, gz_si, gz_sl, gz_sz, gz_sr, gz_sa, gz_sb, gz_sy, gr_si, gr_sl, gr_sz, gr_sr, gr_sa, gr_sb, gr_sy, ga_si, ga_sl, ga_sz, ga_sr, ga_sa, ga_sb, ga_sy, gb_si, gb_sl, gb_sz, gb_sr, gb_sa, gb_sb, gb_sy, gy_si, gy_sl, gy_sz, gy_sr, gy_sa, gy_sb, gy_sy, reduceIte, Nat.reduceEqDiff, and_true, true_and, and_self, false_and, and_false]; exact hcl'⟩
      have hj5 : gr (pg (kt S2 g23 g1 g2 m g n) g1' g2' PW.length) 2 3 0 = jr := by rw [((hP4.1 2 rfl).1 3 0).2.2.2]; exact hjr
      have hj6 : gr (pg (kt S2 g23 g1 g2 m g n) g1' g2' PW.length) 2 4 0 = jf := by rw [((hP4.1 2 rfl).1 4 0).2.2.2]; exact hjf
      have hWb : (flt (isW (plS d T y) (tyS d y) y.1)).length + ((cdW (plS d T y) (tyS d y) y.2.2.2.1).getD []).length + 1 ≤ T.length := by rw [hfw, hlen]; exact hyl
      have hM2 : Mode (isW (plS d T y) (tyS d y) y.1) (smB d T y) (grB y) i0 c0 := hMode
      generalize pg (kt S2 g23 g1 g2 m g n) g1' g2' PW.length = S4 at hP4 hPr hj5 hj6 ⊢
      rcases htc with h1 | h2
      · rw [hPW, h1] at hPr
        rw [h1] at hcw hiw hno4
        have e0 : slR A T d y = selO (smB d T y) (grB y) (isW (plS d T y) (tyS d y) y.1) (cdW (plS d T y) (tyS d y) y.2.2.2.1) d (tno d (nmS y)) 1 (dR d (tno d (nmS y) 0)) 0 (sel0 (smB d T y) (grB y) A) := by
          unfold slR
          rw [h1, if_neg (by decide)]
        refine ⟨_, run_select1 (h + 73) _ d T.length jr jf (isW (plS d T y) (tyS d y) y.1) (smB d T y) (grB y) (cdW (plS d T y) (tyS d y) y.2.2.2.1) y.2.2.2.2.2.1 y.2.2.2.2.2.2 (tno d (nmS y)) A i0 c0 (AGP_Db hP4.1 hd) (hno4 0 (by decide)) hM2 ?_ hcw hiw hon hWb hT hj5 hj6 hj1 hj2 hne (AGP_K hP4.1 hk).2.2 hPr, ?_⟩
        · intro e
          obtain ⟨p, hp⟩ := hgp e
          have := (plc_in hp).1
          omega
        · intro r S5 hS5
          rw [← e0] at hS5
          exact act_sel hP4 hA q hS5
      · rw [hPW, h2] at hPr
        rw [h2] at hcw hiw hno4
        have e0 : slR A T d y = selO (smB d T y) (grB y) (isW (plS d T y) (tyS d y) y.1) (cdW (plS d T y) (tyS d y) y.2.2.2.1) d (tno d (nmS y)) (dR d (tno d (nmS y) 1)) (dR d (tno d (nmS y) 0)) 0 (sel0 (smB d T y) (grB y) A) := by
          unfold slR
          rw [if_pos h2]
        refine ⟨_, run_select2 (h + 73) _ d T.length jr jf (isW (plS d T y) (tyS d y) y.1) (smB d T y) (grB y) (cdW (plS d T y) (tyS d y) y.2.2.2.1) y.2.2.2.2.2.1 y.2.2.2.2.2.2 (tno d (nmS y)) A i0 c0 (AGP_Db hP4.1 hd) (hno4 0 (by decide)) (hno4 1 (by decide)) hM2 ?_ hcw hiw hon hWb hT hj5 hj6 hj1 hj2 hne (AGP_K hP4.1 hk).2.2 hPr, ?_⟩
        · intro e
          obtain ⟨p, hp⟩ := hgp e
          have := (plc_in hp).1
          omega
        · intro r S5 hS5
          rw [← e0] at hS5
          exact act_sel hP4 hA q hS5
    · left
      refine ⟨q, ?_⟩
      rw [aSe_f hA q]
      exact act_fail _ hd hk hP3
end
