-- deps: 294
-- act: update
section
variable (h : Nat) (S : ST) (d : DB) (jr jf : Nat) (T : WL)
theorem act_up (S2 : ST) (y : Int32 × (Int32 × WL) × Option WL) (hd : DbC S d) (hk : RunK S) (hjr : gr S 2 3 0 = jr) (hjf : gr S 2 4 0 = jf) (hj1 : jf < 2) (hne : jr ≠ jf) (hT : T.length ≤ 200) (hP : PreA S S2) (h9 : gi S2 9 2 0 = nI T.length) (hTk : TokIs S2 T) (hx : isX T y.2.1.2) (hy : ∀ c, y.2.2 = some c → isC T c) (hyl : y.2.1.2.length + (y.2.2.getD []).length + 1 ≤ T.length) (e8 : gi S2 6 8 0 = nI 203) (e9 : gi S2 6 9 0 = nI 1) (e22 : ga S2 22 0 0 = y.1) (eL : gi S2 1 2 0 = nI (y.2.1.2 ++ y.2.2.getD []).length) (ecl : CL (ga S2 13 0) (ga S2 14 0) (y.2.1.2 ++ y.2.2.getD [])) (e13 : gi S2 6 13 0 = cnI y.2.2 y.2.1.2.length) (e28 : ga S2 28 0 0 = nI y.2.1.2.length) (e11 : gi S2 6 11 0 = y.2.1.1) : ∃ Qc : Option AV → ST → Prop, Ct MX0_check (h + 79) [vR 0 0] S2 Qc ∧ ∀ r S3, Qc r S3 → ∃ f : Int32, r = some (vI f) ∧ ((¬ f = nI 0 ∧ ActQ S jr (aUp T d y) (some (vI f)) S3) ∨ (f = nI 0 ∧ ∃ Qm : Option AV → ST → Prop, Ct MX3_make (h + 79) [vR 3 0] S3 Qm ∧ ∀ r S4, Qm r S4 → r = none ∧ gi S4 9 2 0 = nI T.length ∧ ∃ Qx : Option AV → ST → Prop, Ct MX2_run (h + 79) [vR 2 0, vI (nI T.length)] S4 Qx ∧ ∀ r S5, Qx r S5 → ∃ x : Int32, r = some (vI x) ∧ ActQ S jr (aUp T d y) (some (vI x)) S5)) := by
  obtain ⟨n0, h04⟩ := nI_surj (gi S2 0 4 0)
  have e22' : ∀ i, i < 1 → ga S2 22 0 i = (fun _ => y.1) i := by
    intro i hi
    have : i = 0 := by omega
    subst this
    exact e22
  have hwc : WH (y.2.2.getD []) 0 := by
    cases hc : y.2.2 with
    | none => trivial
    | some c => exact WH_c hT (hy c hc)
  refine ⟨_, c_check_update (h + 73) S2 d T n0 (y.2.1.2 ++ y.2.2.getD []).length (fun _ => y.1) y.2.1.2 y.2.2 h04 (AGP_Db hP.1 hd) hTk ⟨e8, e9, by decide, e22'⟩ eL rfl (by simp; omega) ecl hwc (WH_x hT hx) e28 e13, ?_⟩
  rintro r S3 ⟨x, g23, g1, g2, m, g, n, rfl, hcase⟩
  have hP3 := PreA_kt (PreA_si6 hP 12 x) g23 g1 g2 m g n
  rw [e11] at hcase
  rcases hcase with ⟨hA, rfl⟩ | ⟨hA, hn, rfl⟩ | ⟨c, hA, hg, hfc, rfl, rfl, hcl⟩
  · refine ⟨_, rfl, Or.inl ⟨by decide, ?_⟩⟩
    have hn : tfd d y.1 = none := by
      cases hq : tfd d y.1 with
      | none => rfl
      | some t => exact absurd (fun i _ => by show tfd d y.1 ≠ none; rw [hq]; simp) hA
    have : aUp T d y = (-1001, d, none) := by unfold aUp; rw [hn]
    rw [this]
    exact act_fail _ hd hk hP3
  · refine ⟨_, rfl, Or.inl ⟨by decide, ?_⟩⟩
    have ht : tfd d y.1 = some (tno d (fun _ => y.1) 0) := tno_eq (d := d) (nm := fun _ => y.1) (i := 0) (hA 0 (by decide))
    have : aUp T d y = (-1001, d, none) := by unfold aUp; rw [ht]; simp only; rw [hn]
    rw [this]
    exact act_fail _ hd hk hP3
  · have ht : tfd d y.1 = some (tno d (fun _ => y.1) 0) := tno_eq (d := d) (nm := fun _ => y.1) (i := 0) (hA 0 (by decide))
    have htl := tfd_lt ht
    have hdC := hd.1.2
    obtain ⟨t, hte⟩ : ∃ t, t = tno d (fun _ => y.1) 0 := ⟨_, rfl⟩
    have hno : tno d (fun _ => y.1) = fun _ => t := by rw [hte]; rfl
    rw [← hte] at htl hg ht hfc
    rw [hno] at hcl ⊢
    have ht4 : t < 4 := by omega
    have h24 := (hd.2 t ht4).2.1
    have hcK := (fcN_lt hfc)
    have hEX := tx_EO (d := d) (T := T) (nm := fun _ => y.1) (no := fun _ => t) (tc := 1) hT (by decide) (fun _ _ => h24.1) (Or.inl hx)
    have hEO : ∀ c, y.2.2 = some c → _ := fun c hc => tx_EO (d := d) (T := T) (nm := fun _ => y.1) (no := fun _ => t) (tc := 1) hT (by decide) (fun _ _ => h24.1) (Or.inr (hy c hc))
    have hck := ck_tx (P := plc d T (fun _ => y.1) (fun _ => t) 1) (ty := fun i c => dCT d t c) (x := y.2.1.2) (g := ga S2 12 0) (m := 0) hEX.2.1 hEX.1
    change (ckWs (pl1 d T y.1 t) (ty1 d t) y.2.1.2 (ga S2 12 0) 0 0).1 = txF (pl1 d T y.1 t) (ty1 d t) y.2.1.2 ∧ (txF (pl1 d T y.1 t) (ty1 d t) y.2.1.2 = nI 0 → (ckWs (pl1 d T y.1 t) (ty1 d t) y.2.1.2 (ga S2 12 0) 0 0).2.1 = txW (pl1 d T y.1 t) (ty1 d t) y.2.1.2 ∧ (ckWs (pl1 d T y.1 t) (ty1 d t) y.2.1.2 (ga S2 12 0) 0 0).2.2.1 0 = txT (pl1 d T y.1 t) (ty1 d t) y.2.1.2 ∧ (ckWs (pl1 d T y.1 t) (ty1 d t) y.2.1.2 (ga S2 12 0) 0 0).2.2.2.2 = max 0 (txH (pl1 d T y.1 t) (ty1 d t) y.2.1.2)) at hck
    have hcn := cn_tx (P := plc d T (fun _ => y.1) (fun _ => t) 1) (ty := fun i c => dCT d t c) (K := fun i => if i < 1 then some (dK d t) else none) (c := y.2.2) (g := (ckWs (pl1 d T y.1 t) (ty1 d t) y.2.1.2 (ga S2 12 0) 0 0).2.2.1) (n := (ckWs (pl1 d T y.1 t) (ty1 d t) y.2.1.2 (ga S2 12 0) 0 0).2.2.2.1) (m := (ckWs (pl1 d T y.1 t) (ty1 d t) y.2.1.2 (ga S2 12 0) 0 0).2.2.2.2) hwc (fun c hc => (hEO c hc).1)
    obtain ⟨CK, hCK⟩ : ∃ q, q = ckWs (pl1 d T y.1 t) (ty1 d t) y.2.1.2 (ga S2 12 0) 0 0 := ⟨_, rfl⟩
    rw [← hCK] at hck hcn
    change (cnF (pl1 d T y.1 t) (ty1 d t) y.2.2 CK.2.2.1 CK.2.2.2.1 CK.2.2.2.2).1 = cdF (pl1 d T y.1 t) (ty1 d t) y.2.2 ∧ (cdF (pl1 d T y.1 t) (ty1 d t) y.2.2 = nI 0 → (cnF (pl1 d T y.1 t) (ty1 d t) y.2.2 CK.2.2.1 CK.2.2.2.1 CK.2.2.2.2).2.1 = (cdW (pl1 d T y.1 t) (ty1 d t) y.2.2).getD [] ∧ (cnF (pl1 d T y.1 t) (ty1 d t) y.2.2 CK.2.2.1 CK.2.2.2.1 CK.2.2.2.2).2.2.2.2 = max CK.2.2.2.2 (cdH (pl1 d T y.1 t) (ty1 d t) y.2.2)) at hcn
    have eU : upF (pl1 d T y.1 t) (ty1 d t) (dCT d t c) y.2.1.2 y.2.2 (ga S2 12 0) = if CK.1 = nI 0 then (if clashB (CK.2.2.1 0) (dCT d t c) = true then -1002 else fin5 (cnF (pl1 d T y.1 t) (ty1 d t) y.2.2 CK.2.2.1 CK.2.2.2.1 CK.2.2.2.2).1 (cnF (pl1 d T y.1 t) (ty1 d t) y.2.2 CK.2.2.1 CK.2.2.2.1 CK.2.2.2.2).2.2.2.2) else CK.1 := by rw [upF, ← hCK]
    change upF (pl1 d T y.1 t) (ty1 d t) (dCT d t c) y.2.1.2 y.2.2 (ga S2 12 0) = nI 0 → CL g1 g2 ((ckWs (pl1 d T y.1 t) (ty1 d t) y.2.1.2 (ga S2 12 0) 0 0).2.1 ++ (cnF (pl1 d T y.1 t) (ty1 d t) y.2.2 (ckWs (pl1 d T y.1 t) (ty1 d t) y.2.1.2 (ga S2 12 0) 0 0).2.2.1 (ckWs (pl1 d T y.1 t) (ty1 d t) y.2.1.2 (ga S2 12 0) 0 0).2.2.2.1 (ckWs (pl1 d T y.1 t) (ty1 d t) y.2.1.2 (ga S2 12 0) 0 0).2.2.2.2).2.1) at hcl
    rw [← hCK] at hcl
    refine ⟨upF (pl1 d T y.1 t) (ty1 d t) (dCT d t c) y.2.1.2 y.2.2 (ga S2 12 0), rfl, ?_⟩
    rw [eU] at hcl ⊢
    have eA : aUp T d y = if txF (pl1 d T y.1 t) (ty1 d t) y.2.1.2 = nI 0 then (if clashB (txT (pl1 d T y.1 t) (ty1 d t) y.2.1.2) (dCT d t c) = true then (-1002, d, none) else if cdF (pl1 d T y.1 t) (ty1 d t) y.2.2 = nI 0 then (if 10 < max (txH (pl1 d T y.1 t) (ty1 d t) y.2.1.2) (cdH (pl1 d T y.1 t) (ty1 d t) y.2.2) then (-1008, d, none) else if fstF (rowF d t (cdW (pl1 d T y.1 t) (ty1 d t) y.2.2) (some (txW (pl1 d T y.1 t) (ty1 d t) y.2.1.2))) (dR d t) 0 = nI 0 then (nI (updR d t c (cdW (pl1 d T y.1 t) (ty1 d t) y.2.2) (txW (pl1 d T y.1 t) (ty1 d t) y.2.1.2)).2.2, dset d t (dR d t) (updR d t c (cdW (pl1 d T y.1 t) (ty1 d t) y.2.2) (txW (pl1 d T y.1 t) (ty1 d t) y.2.1.2)).1 (updR d t c (cdW (pl1 d T y.1 t) (ty1 d t) y.2.2) (txW (pl1 d T y.1 t) (ty1 d t) y.2.1.2)).2.1, none) else (fstF (rowF d t (cdW (pl1 d T y.1 t) (ty1 d t) y.2.2) (some (txW (pl1 d T y.1 t) (ty1 d t) y.2.1.2))) (dR d t) 0, d, none)) else (cdF (pl1 d T y.1 t) (ty1 d t) y.2.2, d, none)) else (txF (pl1 d T y.1 t) (ty1 d t) y.2.1.2, d, none) := by unfold aUp; rw [ht]; simp only; rw [hfc]
    by_cases q : txF (pl1 d T y.1 t) (ty1 d t) y.2.1.2 = nI 0
    · obtain ⟨w1, w2, w3⟩ := hck.2 q
      rw [hck.1, if_pos q, w2] at hcl ⊢
      rw [if_pos q] at eA
      by_cases qc : clashB (txT (pl1 d T y.1 t) (ty1 d t) y.2.1.2) (dCT d t c) = true
      · left
        rw [if_pos qc, eA, if_pos qc]
        exact ⟨by decide, act_fail _ hd hk hP3⟩
      rw [if_neg qc] at hcl ⊢
      rw [if_neg qc] at eA
      by_cases q2 : cdF (pl1 d T y.1 t) (ty1 d t) y.2.2 = nI 0
      · obtain ⟨v1, v2⟩ := hcn.2 q2
        rw [hcn.1, v2, v1, q2, w3, w1] at hcl
        rw [hcn.1, v2, q2, w3]
        rw [if_pos q2] at eA
        have emx : max (max 0 (txH (pl1 d T y.1 t) (ty1 d t) y.2.1.2)) (cdH (pl1 d T y.1 t) (ty1 d t) y.2.2) = max (txH (pl1 d T y.1 t) (ty1 d t) y.2.1.2) (cdH (pl1 d T y.1 t) (ty1 d t) y.2.2) := by omega
        rw [emx] at hcl ⊢
        by_cases q10 : 10 < max (txH (pl1 d T y.1 t) (ty1 d t) y.2.1.2) (cdH (pl1 d T y.1 t) (ty1 d t) y.2.2)
        · left
          have e5 : fin5 (nI 0) (max (txH (pl1 d T y.1 t) (ty1 d t) y.2.1.2) (cdH (pl1 d T y.1 t) (ty1 d t) y.2.2)) = -1008 := by rw [fin5, if_pos ⟨rfl, q10⟩]
          rw [e5, eA, if_pos q10]
          exact ⟨by decide, act_fail _ hd hk hP3⟩
        · right
          have e5 : fin5 (nI 0) (max (txH (pl1 d T y.1 t) (ty1 d t) y.2.1.2) (cdH (pl1 d T y.1 t) (ty1 d t) y.2.2)) = nI 0 := by rw [fin5, if_neg (fun z => q10 z.2)]
          refine ⟨e5, ?_⟩
          have hcl2 := hcl e5
          rw [if_neg q10] at eA
          have hX2 := hEX.2.2 q
          change (txW (pl1 d T y.1 t) (ty1 d t) y.2.1.2).length = y.2.1.2.length ∧ OV (txW (pl1 d T y.1 t) (ty1 d t) y.2.1.2) ∧ 1 ≤ txH (pl1 d T y.1 t) (ty1 d t) y.2.1.2 ∧ (txH (pl1 d T y.1 t) (ty1 d t) y.2.1.2 ≤ 10 → EH d 1 (fun _ => t) (txW (pl1 d T y.1 t) (ty1 d t) y.2.1.2) 0) at hX2
          have hcw : ∀ c, cdW (pl1 d T y.1 t) (ty1 d t) y.2.2 = some c → EH d 1 (fun _ => t) c 0 ∧ OVC c := by
            intro c hc
            cases hy2 : y.2.2 with
            | none => rw [hy2] at hc; exact absurd hc (by simp [cdW])
            | some x =>
              have := hEO x hy2
              rw [hy2] at hc q2 q10
              simp only [cdW, Option.some.injEq] at hc
              subst hc
              have h2 := this.2.2 q2
              refine ⟨h2.2.2.2 ?_, h2.2.1, tx_C (fun p i c h => by have := (plc_in h).1; omega) (hy x hy2)⟩
              simp only [cdH] at q10
              have : txH (pl1 d T y.1 t) (ty1 d t) x ≤ 10 := by omega
              exact this
          have hlen : ((cdW (pl1 d T y.1 t) (ty1 d t) y.2.2).getD []).length = (y.2.2.getD []).length := by
            cases hy2 : y.2.2 with
            | none => rfl
            | some x =>
              rw [hy2] at q2
              exact ((hEO x hy2).2.2 q2).1
          obtain ⟨n1, h12⟩ := nI_surj (gi (kt (si S2 6 12 0 (nI c)) g23 g1 g2 m g n) 1 2 1)
          have hMk := c_make_update (h + 74) (kt (si S2 6 12 0 (nI c)) g23 g1 g2 m g n) n1 (y.2.1.2 ++ y.2.2.getD []).length (fun _ => t) (txW (pl1 d T y.1 t) (ty1 d t) y.2.1.2) (cdW (pl1 d T y.1 t) (ty1 d t) y.2.2) h12 (by simp only [kt, ck, cd, gi_si, gi_sl, gi_sz, gi_sr, gi_sa, gi_sb, gi_sy, gl_si, gl_sl, gl_sz, gl_sr, gl_sa, gl_sb, gl_sy, gz_si, gz_sl, gz_sz, gz_sr, gz_sa, gz_sb, gz_sy, gr_si, gr_sl, gr_sz, gr_sr, gr_sa, gr_sb, gr_sy, ga_si, ga_sl, ga_sz, ga_sr, ga_sa, ga_sb, ga_sy, gb_si, gb_sl, gb_sz, gb_sr, gb_sa, gb_sb, gb_sy, gy_si, gy_sl, gy_sz, gy_sr, gy_sa, gy_sb, gy_sy, reduceIte, Nat.reduceEqDiff, and_true, true_and, and_self, false_and, and_false]; exact e8) (by simp only [kt, ck, cd, gi_si, gi_sl, gi_sz, gi_sr, gi_sa, gi_sb, gi_sy, gl_si, gl_sl, gl_sz, gl_sr, gl_sa, gl_sb, gl_sy, gz_si, gz_sl, gz_sz, gz_sr, gz_sa, gz_sb, gz_sy, gr_si, gr_sl, gr_sz, gr_sr, gr_sa, gr_sb, gr_sy, ga_si, ga_sl, ga_sz, ga_sr, ga_sa, ga_sb, ga_sy, gb_si, gb_sl, gb_sz, gb_sr, gb_sa, gb_sb, gb_sy, gy_si, gy_sl, gy_sz, gy_sr, gy_sa, gy_sb, gy_sy, reduceIte, Nat.reduceEqDiff, and_true, true_and, and_self, false_and, and_false]; exact eL) (by simp [hlen, hX2.1]) (by simp; omega) (by simp only [kt, ck, cd, gi_si, gi_sl, gi_sz, gi_sr, gi_sa, gi_sb, gi_sy, gl_si, gl_sl, gl_sz, gl_sr, gl_sa, gl_sb, gl_sy, gz_si, gz_sl, gz_sz, gz_sr, gz_sa, gz_sb, gz_sy, gr_si, gr_sl, gr_sz, gr_sr, gr_sa, gr_sb, gr_sy, ga_si, ga_sl, ga_sz, ga_sr, ga_sa, ga_sb, ga_sy, gb_si, gb_sl, gb_sz, gb_sr, gb_sa, gb_sb, gb_sy, gy_si, gy_sl, gy_sz, gy_sr, gy_sa, gy_sb, gy_sy, reduceIte, Nat.reduceEqDiff, and_true, true_and, and_self, false_and, and_false]; exact hcl2) (by rw [cdW_cnI, hX2.1]; simp only [kt, ck, cd, gi_si, gi_sl, gi_sz, gi_sr, gi_sa, gi_sb, gi_sy, gl_si, gl_sl, gl_sz, gl_sr, gl_sa, gl_sb, gl_sy, gz_si, gz_sl, gz_sz, gz_sr, gz_sa, gz_sb, gz_sy, gr_si, gr_sl, gr_sz, gr_sr, gr_sa, gr_sb, gr_sy, ga_si, ga_sl, ga_sz, ga_sr, ga_sa, ga_sb, ga_sy, gb_si, gb_sl, gb_sz, gb_sr, gb_sa, gb_sb, gb_sy, gy_si, gy_sl, gy_sz, gy_sr, gy_sa, gy_sb, gy_sy, reduceIte, Nat.reduceEqDiff, and_true, true_and, and_self, false_and, and_false]; exact e13) (by simp only [kt, ck, cd, gi_si, gi_sl, gi_sz, gi_sr, gi_sa, gi_sb, gi_sy, gl_si, gl_sl, gl_sz, gl_sr, gl_sa, gl_sb, gl_sy, gz_si, gz_sl, gz_sz, gz_sr, gz_sa, gz_sb, gz_sy, gr_si, gr_sl, gr_sz, gr_sr, gr_sa, gr_sb, gr_sy, ga_si, ga_sl, ga_sz, ga_sr, ga_sa, ga_sb, ga_sy, gb_si, gb_sl, gb_sz, gb_sr, gb_sa, gb_sb, gb_sy, gy_si, gy_sl, gy_sz, gy_sr, gy_sa, gy_sb, gy_sy, reduceIte, Nat.reduceEqDiff, and_true, true_and, and_self, false_and, and_false]; exact e9) (by simp only [kt, ck, cd, gi_si, gi_sl, gi_sz, gi_sr, gi_sa, gi_sb, gi_sy, gl_si, gl_sl, gl_sz, gl_sr, gl_sa, gl_sb, gl_sy, gz_si, gz_sl, gz_sz, gz_sr, gz_sa, gz_sb, gz_sy, gr_si, gr_sl, gr_sz, gr_sr, gr_sa, gr_sb, gr_sy, ga_si, ga_sl, ga_sz, ga_sr, ga_sa, ga_sb, ga_sy, gb_si, gb_sl, gb_sz, gb_sr, gb_sa, gb_sb, gb_sy, gy_si, gy_sl, gy_sz, gy_sr, gy_sa, gy_sb, gy_sy, reduceIte, Nat.reduceEqDiff, and_true, true_and, and_self, false_and, and_false]; exact hg) (by rw [hX2.1]; simp only [kt, ck, cd, gi_si, gi_sl, gi_sz, gi_sr, gi_sa, gi_sb, gi_sy, gl_si, gl_sl, gl_sz, gl_sr, gl_sa, gl_sb, gl_sy, gz_si, gz_sl, gz_sz, gz_sr, gz_sa, gz_sb, gz_sy, gr_si, gr_sl, gr_sz, gr_sr, gr_sa, gr_sb, gr_sy, ga_si, ga_sl, ga_sz, ga_sr, ga_sa, ga_sb, ga_sy, gb_si, gb_sl, gb_sz, gb_sr, gb_sa, gb_sb, gb_sy, gy_si, gy_sl, gy_sz, gy_sr, gy_sa, gy_sb, gy_sy, reduceIte, Nat.reduceEqDiff, and_true, true_and, and_self, false_and, and_false]; exact e28)
          have e12 : gi (kt (si S2 6 12 0 (nI c)) g23 g1 g2 m g n) 6 12 0 = nI c := by simp only [kt, ck, cd, gi_si, gi_sl, gi_sz, gi_sr, gi_sa, gi_sb, gi_sy, gl_si, gl_sl, gl_sz, gl_sr, gl_sa, gl_sb, gl_sy, gz_si, gz_sl, gz_sz, gz_sr, gz_sa, gz_sb, gz_sy, gr_si, gr_sl, gr_sz, gr_sr, gr_sa, gr_sb, gr_sy, ga_si, ga_sl, ga_sz, ga_sr, ga_sa, ga_sb, ga_sy, gb_si, gb_sl, gb_sz, gb_sr, gb_sa, gb_sb, gb_sy, gy_si, gy_sl, gy_sz, gy_sr, gy_sa, gy_sb, gy_sy, reduceIte, Nat.reduceEqDiff, and_true, true_and, and_self, false_and, and_false]
          rw [e12] at hMk
          refine ⟨_, hMk, ?_⟩
          rintro r S4 ⟨g1', g2', rfl, rfl, hcl'⟩
          refine ⟨rfl, by simp only [pg, kt, ck, cd, gi_si, gi_sl, gi_sz, gi_sr, gi_sa, gi_sb, gi_sy, gl_si, gl_sl, gl_sz, gl_sr, gl_sa, gl_sb, gl_sy, gz_si, gz_sl, gz_sz, gz_sr, gz_sa, gz_sb, gz_sy, gr_si, gr_sl, gr_sz, gr_sr, gr_sa, gr_sb, gr_sy, ga_si, ga_sl, ga_sz, ga_sr, ga_sa, ga_sb, ga_sy, gb_si, gb_sl, gb_sz, gb_sr, gb_sa, gb_sb, gb_sy, gy_si, gy_sl, gy_sz, gy_sr, gy_sa, gy_sb, gy_sy, reduceIte, Nat.reduceEqDiff, and_true, true_and, and_self, false_and, and_false]; exact h9, ?_⟩
          have hP4 := PreA_pg hP3 g1' g2' (enR (sr1 0 (fun _ => t) (cdW (pl1 d T y.1 t) (ty1 d t) y.2.2) ++ txW (pl1 d T y.1 t) (ty1 d t) y.2.1.2 ++ [(nI 42, nI 0)]) 1 1 ++ [(nI 44, nI c)] ++ [(nI 27, nI 0)]).length
          have hul : (unl (cdW (pl1 d T y.1 t) (ty1 d t) y.2.2) 1).length ≤ (y.2.2.getD []).length + 1 := by
            rw [← hlen]
            cases cdW (pl1 d T y.1 t) (ty1 d t) y.2.2 <;> simp [unl]
          refine ⟨_, run_update (h + 73) _ d T.length t jr jf (cdW (pl1 d T y.1 t) (ty1 d t) y.2.2) c (txW (pl1 d T y.1 t) (ty1 d t) y.2.1.2) (AGP_Db hP4.1 hd) ht4 (by omega) (by rw [hlen, hX2.1]; exact hyl) hT ?_ ?_ hj1 hne (AGP_K hP4.1 hk).2.2 (fun _ => t) rfl hcw ⟨hX2.2.2.2 (by omega), hX2.2.1⟩ ⟨by simp only [pg, gi_si, gi_sl, gi_sz, gi_sr, gi_sa, gi_sb, gi_sy, gl_si, gl_sl, gl_sz, gl_sr, gl_sa, gl_sb, gl_sy, gz_si, gz_sl, gz_sz, gz_sr, gz_sa, gz_sb, gz_sy, gr_si, gr_sl, gr_sz, gr_sr, gr_sa, gr_sb, gr_sy, ga_si, ga_sl, ga_sz, ga_sr, ga_sa, ga_sb, ga_sy, gb_si, gb_sl, gb_sz, gb_sr, gb_sa, gb_sb, gb_sy, gy_si, gy_sl, gy_sz, gy_sr, gy_sa, gy_sb, gy_sy, reduceIte, Nat.reduceEqDiff, and_true, true_and, and_self, false_and, and_false], by simp [enR, sr1, hX2.1]; omega, ?_⟩, ?_⟩
          · rw [((hP4.1 2 rfl).1 3 0).2.2.2]; exact hjr
          · rw [((hP4.1 2 rfl).1 4 0).2.2.2]; exact hjf
          · simp only [pg, gi_si, gi_sl, gi_sz, gi_sr, gi_sa, gi_sb, gi_sy, gl_si, gl_sl, gl_sz, gl_sr, gl_sa, gl_sb, gl_sy, gz_si, gz_sl, gz_sz, gz_sr, gz_sa, gz_sb, gz_sy, gr_si, gr_sl, gr_sz, gr_sr, gr_sa, gr_sb, gr_sy, ga_si, ga_sl, ga_sz, ga_sr, ga_sa, ga_sb, ga_sy, gb_si, gb_sl, gb_sz, gb_sr, gb_sa, gb_sb, gb_sy, gy_si, gy_sl, gy_sz, gy_sr, gy_sa, gy_sb, gy_sy, reduceIte, Nat.reduceEqDiff, and_true, true_and, and_self, false_and, and_false]; exact hcl'
          · rintro r S5 hq
            rcases hq with ⟨z, rfl, hO⟩ | ⟨z, rfl, hO⟩
            · refine ⟨_, rfl, ?_⟩
              rw [eA, if_neg z]
              exact act_run _ hP4 hO
            · refine ⟨_, rfl, ?_⟩
              rw [eA, if_pos z]
              exact act_run _ hP4 hO
      · left
        rw [fin5_f (by rw [hcn.1]; exact q2), hcn.1, eA, if_neg q2]
        exact ⟨q2, act_fail _ hd hk hP3⟩
    · left
      rw [hck.1, if_neg q, eA, if_neg q]
      exact ⟨q, act_fail _ hd hk hP3⟩
end
