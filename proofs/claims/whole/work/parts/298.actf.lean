-- deps: 297
-- act of the class, whole
noncomputable def actF (A : AR) (T : WL) (d : DB) : OUT :=
  if kd T 0 = nI 200 then (match (okE T (sCr T)).2 with | none => ((-1) - nI (okE T (sCr T)).1, d, none) | some y => aCr d y)
  else if kd T 0 = nI 201 then (match (okE T (sIn T)).2 with | none => ((-1) - nI (okE T (sIn T)).1, d, none) | some y => aIn d y)
  else if kd T 0 = nI 202 then (match (okE T (sDe T)).2 with | none => ((-1) - nI (okE T (sDe T)).1, d, none) | some y => aDe T d y)
  else if kd T 0 = nI 203 then (match (okE T (sUp T)).2 with | none => ((-1) - nI (okE T (sUp T)).1, d, none) | some y => aUp T d y)
  else if kd T 0 = nI 205 then (match (okE T (sSe T)).2 with | none => ((-1) - nI (okE T (sSe T)).1, d, none) | some y => aSe A T d y)
  else ((-1) - nI 0, d, none)
theorem m1_sub {a : Nat} (h : a < 1000) : ¬ ((-1 : Int32) - nI a = nI 0) := by
  intro e
  have e1 : (-1 : Int32) = nI a := by
    have : (-1 : Int32) - nI a + nI a = nI 0 + nI a := by rw [e]
    rw [Int32.sub_add_cancel, nI_add, Nat.zero_add] at this
    exact this
  have := n_m1 (n := a) (by omega)
  rw [eq_iff_iff, iff_false] at this
  exact this e1.symm
theorem okE_some {α : Type} {T : WL} {x : Nat × Option α} {y : α} (h : (okE T x).2 = some y) : x.2 = some y ∧ (okE T x).1 = x.1 := by
  unfold okE at *
  obtain ⟨z, h1, e, h2⟩ := pb_some h
  rw [e]
  by_cases q : kd T x.1 = nI 0
  · rw [if_pos q] at h2 ⊢
    simp only [Option.some.injEq] at h2
    subst h2
    exact ⟨h1, rfl⟩
  · rw [if_neg q] at h2
    exact absurd h2 (by simp)
section
variable {T : WL}
theorem pWh_le {a : Nat} {c : Option WL} (ha : a ≤ T.length) (hT : T.length ≤ 200) (h : (pWh T a).2 = some c) : a ≤ (pWh T a).1 ∧ (pWh T a).1 ≤ T.length ∧ (c.getD []).length ≤ (pWh T a).1 - a ∧ ∀ x, c = some x → isC T x := by
  unfold pWh at *
  by_cases q : kd T a = nI 207
  · have hlt := kd_in q (by decide)
    rw [if_pos q] at h ⊢
    obtain ⟨x, h1, e, h2⟩ := pb_some h
    rw [e]
    have k := pCn_le (by omega) hT h1
    simp only [Option.some.injEq] at h2
    subst h2
    refine ⟨by simp only; omega, by simp only; omega, by simp only [Option.getD_some]; omega, fun x' hx => ?_⟩
    simp only [Option.some.injEq] at hx
    subst hx
    exact k.2.2.2
  · rw [if_neg q] at h ⊢
    simp only [Option.some.injEq] at h
    subst h
    exact ⟨Nat.le_refl _, ha, by simp, fun x hx => absurd hx (by simp)⟩
theorem sCr_le {y : Int32 × List (Int32 × Int32)} (hT : T.length ≤ 200) (h1 : 1 ≤ T.length) (h : (sCr T).2 = some y) : 1 ≤ y.2.length ∧ y.2.length ≤ 4 := by
  unfold sCr at h
  obtain ⟨x, a1, _, h⟩ := pb_some h
  have k1 := pn_some a1
  obtain ⟨u, a2, _, h⟩ := pb_some h
  have k2 := pk_some (by decide) a2
  obtain ⟨l, a3, _, h⟩ := pb_some h
  have k3 := pPs_le (T := T) (pCol T) (fun _ => []) (fun a y ha hy => pCol_le a y ha hy) 4 _ l (by omega) a3
  obtain ⟨u2, a4, _, h⟩ := pb_some h
  simp only [Option.some.injEq] at h
  subst h
  exact ⟨k3.2.2.2.2 (by decide), k3.2.2.2.1⟩
theorem sIn_le {y : Int32 × List (Int32 × Int32)} (hT : T.length ≤ 200) (h1 : 1 ≤ T.length) (h : (sIn T).2 = some y) : 1 ≤ y.2.length ∧ y.2.length ≤ 4 := by
  unfold sIn at h
  obtain ⟨x, a1, _, h⟩ := pb_some h
  have k1 := pn_some a1
  obtain ⟨u, a2, _, h⟩ := pb_some h
  have k2 := pk_some (by decide) a2
  obtain ⟨l, a3, _, h⟩ := pb_some h
  have k3 := pPs_le (T := T) (pVal T) (fun _ => []) (fun a y ha hy => pVal_le a y ha hy) 4 _ l (by omega) a3
  obtain ⟨u2, a4, _, h⟩ := pb_some h
  simp only [Option.some.injEq] at h
  subst h
  exact ⟨k3.2.2.2.2 (by decide), k3.2.2.2.1⟩
theorem sDe_le {y : Int32 × Option WL} (hT : T.length ≤ 200) (h1 : 1 ≤ T.length) (h : (sDe T).2 = some y) : (y.2.getD []).length + 1 ≤ T.length ∧ ∀ x, y.2 = some x → isC T x := by
  unfold sDe at h
  obtain ⟨x, a1, _, h⟩ := pb_some h
  have k1 := pn_some a1
  obtain ⟨c, a2, _, h⟩ := pb_some h
  have k2 := pWh_le (T := T) (by omega) hT a2
  simp only [Option.some.injEq] at h
  subst h
  exact ⟨by simp only; omega, k2.2.2.2⟩
theorem sUp_le {y : Int32 × (Int32 × WL) × Option WL} (hT : T.length ≤ 200) (h1 : 1 ≤ T.length) (h : (sUp T).2 = some y) : y.2.1.2.length + (y.2.2.getD []).length + 1 ≤ T.length ∧ isX T y.2.1.2 ∧ ∀ x, y.2.2 = some x → isC T x := by
  unfold sUp at h
  obtain ⟨x, a1, _, h⟩ := pb_some h
  have k1 := pn_some a1
  obtain ⟨u, a2, _, h⟩ := pb_some h
  have k2 := pk_some (by decide) a2
  obtain ⟨z, a3, _, h⟩ := pb_some h
  have k3 : (pk T (nI 204) (pn T 1).1).1 ≤ (pAs T (pk T (nI 204) (pn T 1).1).1).1 ∧ (pAs T (pk T (nI 204) (pn T 1).1).1).1 ≤ T.length ∧ z.2.length ≤ (pAs T (pk T (nI 204) (pn T 1).1).1).1 - (pk T (nI 204) (pn T 1).1).1 ∧ isX T z.2 := by
    generalize (pk T (nI 204) (pn T 1).1).1 = a at a3 k2 ⊢
    unfold pAs at a3 ⊢
    obtain ⟨x1, g1, e1, g2⟩ := pb_some a3
    rw [e1]
    have j1 := pn_some g1
    rw [j1.1] at g2 ⊢
    obtain ⟨u1, g3, e2, g4⟩ := pb_some g2
    rw [e2]
    have j2 := pk_some (by decide) g3
    rw [j2.1] at g4 ⊢
    obtain ⟨x2, g5, e3, g6⟩ := pb_some g4
    rw [e3]
    have j3 := pX_le (by omega) hT g5
    simp only [Option.some.injEq] at g6
    subst g6
    exact ⟨by simp only; omega, j3.2.1, by simp only; omega, j3.2.2.2⟩
  obtain ⟨c, a4, _, h⟩ := pb_some h
  have k4 := pWh_le (T := T) k3.2.1 hT a4
  simp only [Option.some.injEq] at h
  subst h
  exact ⟨by simp only; omega, k3.2.2.2, k4.2.2.2⟩
theorem sSe_le {y : SLT} (hT : T.length ≤ 200) (h1 : 1 ≤ T.length) (h : (sSe T).2 = some y) : (flt y.1).length + (y.2.2.2.1.getD []).length + 1 ≤ T.length ∧ ItR T y.1 ∧ (∀ x, y.2.2.2.1 = some x → isC T x) ∧ ∀ w, y.2.2.2.2.1 = some w → w < 1000 := by
  unfold sSe at h
  obtain ⟨its, a0, _, h⟩ := pb_some h
  have k0 := pPs_le (T := T) (pIt T) (fun y => y.2) (fun a y ha hy => (pIt_le hT a y ha hy).1) 4 1 its h1 a0
  obtain ⟨u, a1, _, h⟩ := pb_some h
  have k1 := pk_some (by decide) a1
  obtain ⟨x, a2, _, h⟩ := pb_some h
  have k2 := pn_some a2
  obtain ⟨z, a3, _, h⟩ := pb_some h
  have k3 : (pn T (pk T (nI 206) (pPs T (pIt T) 4 1).1).1).1 ≤ (pCm T (pn T (pk T (nI 206) (pPs T (pIt T) 4 1).1).1).1).1 ∧ (pCm T (pn T (pk T (nI 206) (pPs T (pIt T) 4 1).1).1).1).1 ≤ T.length := by
    generalize (pn T (pk T (nI 206) (pPs T (pIt T) 4 1).1).1).1 = a at a3 k2 ⊢
    unfold pCm at a3 ⊢
    by_cases q : kd T a = nI 44
    · have hlt := kd_in q (by decide)
      rw [if_pos q] at a3 ⊢
      obtain ⟨x1, g1, e1, g2⟩ := pb_some a3
      rw [e1]
      have j1 := pn_some g1
      simp only
      omega
    · rw [if_neg q]
      simp only
      omega
  obtain ⟨c, a4, _, h⟩ := pb_some h
  have k4 := pWh_le (T := T) k3.2 hT a4
  obtain ⟨g, a5, _, h⟩ := pb_some h
  have k5 : ∀ w, g = some w → w < 1000 := by
    intro w hw
    subst hw
    generalize (pWh T (pCm T (pn T (pk T (nI 206) (pPs T (pIt T) 4 1).1).1).1).1).1 = a at a5 k4
    unfold pGr at a5
    by_cases q : kd T a = nI 208
    · have hlt := kd_in q (by decide)
      rw [if_pos q] at a5
      simp only at a5
      split at a5
      · simp only [Option.some.injEq] at a5; omega
      · exact absurd a5 (by simp)
    · rw [if_neg q] at a5
      exact absurd a5 (by simp)
  obtain ⟨o, a6, _, h⟩ := pb_some h
  simp only [Option.some.injEq] at h
  subst h
  have hall : ∀ (m a : Nat) (l : IL), a ≤ T.length → (pPs T (pIt T) m a).2 = some l → ∀ y, y ∈ l → isX T y.2 ∧ (y.1 = -1 ∨ isAgg y.1) := by
    intro m
    induction m with
    | zero =>
      intro a l ha hl y hy
      simp only [pPs, Option.some.injEq] at hl
      subst hl
      exact absurd hy (by simp)
    | succ m ih =>
      intro a l ha hl y hy
      rw [pPs] at hl
      obtain ⟨z, b1, _, hl⟩ := pb_some hl
      have j := pIt_le hT a z ha b1
      split at hl
      · rename_i q
        have hlt := kd_in q.2 (by decide)
        obtain ⟨l', b2, _, hl⟩ := pb_some hl
        simp only [Option.some.injEq] at hl
        subst hl
        rcases List.mem_cons.mp hy with rfl | hy
        · exact ⟨j.2.1, j.2.2.1⟩
        · exact ih _ l' (by omega) b2 y hy
      · simp only [Option.some.injEq] at hl
        subst hl
        simp only [List.mem_singleton] at hy
        subst hy
        exact ⟨j.2.1, j.2.2.1⟩
  have ef : (its.map (fun y => y.2)).flatten = flt its := rfl
  rw [ef] at k0
  refine ⟨by simp only; omega, ⟨k0.2.2.2.2 (by decide), k0.2.2.2.1, hall 4 1 its h1 a0⟩, k4.2.2.2, k5⟩
end
/-- what holds of the class between two calls -/
def InvC (S : ST) (d : DB) (jr jf : Nat) : Prop := DbC S d ∧ (∀ t, dC d ≤ t → dK d t = 0 ∧ dR d t = 0) ∧ RunK S ∧ (gr S 2 3 0 = jr ∧ gr S 2 4 0 = jf ∧ jr < 2 ∧ jf < 2 ∧ jr ≠ jf) ∧ ∃ a, a ≤ 1000 ∧ gi S 4 2 0 = nI a
theorem c_act (A : AR) (h : Nat) (S : ST) (d : DB) (jr jf n : Nat) (tx : Nat → Nat) (hI : InvC S d jr jf) (h1 : gi S 10 1 0 = nI n) (hX : TxC S n tx) : Ct MX10_act (h + 80) [vR 10 0] S (ActQ S jr (actF A (toks tx n 200 0) d)) := by
  obtain ⟨hd, h0, hk, ⟨hjr, hjf, hj2, hj1, hne⟩, a0, ha0, e4⟩ := hI
  refine act_flow h S n tx _ h1 hX ?_
  intro g1 g2 hcl hln
  have hn := hX.1
  obtain ⟨T, hTe⟩ : ∃ T, T = toks tx n 200 0 := ⟨_, rfl⟩
  rw [← hTe] at hcl hln ⊢
  have hT : T.length ≤ 200 := by omega
  have hTk : TokIs (si (wS S T.length g1 g2) 10 1 0 (nI 0)) T := ⟨by simp only [wS, gi_si, gi_sl, gi_sz, gi_sr, gi_sa, gi_sb, gi_sy, gl_si, gl_sl, gl_sz, gl_sr, gl_sa, gl_sb, gl_sy, gz_si, gz_sl, gz_sz, gz_sr, gz_sa, gz_sb, gz_sy, gr_si, gr_sl, gr_sz, gr_sr, gr_sa, gr_sb, gr_sy, ga_si, ga_sl, ga_sz, ga_sr, ga_sa, ga_sb, ga_sy, gb_si, gb_sl, gb_sz, gb_sr, gb_sa, gb_sb, gb_sy, gy_si, gy_sl, gy_sz, gy_sr, gy_sa, gy_sb, gy_sy, reduceIte, Nat.reduceEqDiff, and_true, true_and, and_self, false_and, and_false], hT, fun i hi => by
    have := hcl i hi
    simp only [wS, gi_si, gi_sl, gi_sz, gi_sr, gi_sa, gi_sb, gi_sy, gl_si, gl_sl, gl_sz, gl_sr, gl_sa, gl_sb, gl_sy, gz_si, gz_sl, gz_sz, gz_sr, gz_sa, gz_sb, gz_sy, gr_si, gr_sl, gr_sz, gr_sr, gr_sa, gr_sb, gr_sy, ga_si, ga_sl, ga_sz, ga_sr, ga_sa, ga_sb, ga_sy, gb_si, gb_sl, gb_sz, gb_sr, gb_sa, gb_sb, gb_sy, gy_si, gy_sl, gy_sz, gy_sr, gy_sa, gy_sb, gy_sy, reduceIte, Nat.reduceEqDiff, and_true, true_and, and_self, false_and, and_false]
    exact this⟩
  obtain ⟨n2, h2⟩ := nI_surj (gi (si (wS S T.length g1 g2) 10 1 0 (nI 0)) 1 2 0)
  refine ⟨_, c_read T (h + 9) _ hTk a0 n2 (by simp only [wS, gi_si, gi_sl, gi_sz, gi_sr, gi_sa, gi_sb, gi_sy, gl_si, gl_sl, gl_sz, gl_sr, gl_sa, gl_sb, gl_sy, gz_si, gz_sl, gz_sz, gz_sr, gz_sa, gz_sb, gz_sy, gr_si, gr_sl, gr_sz, gr_sr, gr_sa, gr_sb, gr_sy, ga_si, ga_sl, ga_sz, ga_sr, ga_sa, ga_sb, ga_sy, gb_si, gb_sl, gb_sz, gb_sr, gb_sa, gb_sb, gb_sy, gy_si, gy_sl, gy_sz, gy_sr, gy_sa, gy_sb, gy_sy, reduceIte, Nat.reduceEqDiff, and_true, true_and, and_self, false_and, and_false]; exact e4) h2 ha0, ?_⟩
  intro r S2 hq
  have hq' := hq
  obtain ⟨g3, g4, hr, hS2, hcl2, hl2, hpos, hTk2⟩ := hq'
  have hAG := AG_read T (si (wS S T.length g1 g2) 10 1 0 (nI 0))
  have hPA : PreA S S2 := by rw [hS2]; exact PreA_read hAG (by omega)
  have h9 : gi S2 9 2 0 = nI T.length := by
    rw [hS2]
    simp only [dr, gi_si, gi_sl, gi_sz, gi_sr, gi_sa, gi_sb, gi_sy, gl_si, gl_sl, gl_sz, gl_sr, gl_sa, gl_sb, gl_sy, gz_si, gz_sl, gz_sz, gz_sr, gz_sa, gz_sb, gz_sy, gr_si, gr_sl, gr_sz, gr_sr, gr_sa, gr_sb, gr_sy, ga_si, ga_sl, ga_sz, ga_sr, ga_sa, ga_sb, ga_sy, gb_si, gb_sl, gb_sz, gb_sr, gb_sa, gb_sb, gb_sy, gy_si, gy_sl, gy_sz, gy_sr, gy_sa, gy_sb, gy_sy, reduceIte, Nat.reduceEqDiff, and_true, true_and, and_self, false_and, and_false]
    exact hTk2.1
  have hTk3 : TokIs S2 T := by
    rw [hS2]
    exact TokIs_dr hTk2 ..
  have fail : ∀ a : Nat, a < 1000 → ∀ o : OUT, o = ((-1) - nI a, d, none) → r = some (vI ((-1) - nI a)) → ∃ f : Int32, r = some (vI f) ∧ ((¬ f = nI 0 ∧ ActQ S jr o (some (vI f)) S2) ∨ (f = nI 0 ∧ ∃ Qc : Option AV → ST → Prop, Ct MX0_check (h + 79) [vR 0 0] S2 Qc ∧ ∀ r S3, Qc r S3 → ∃ f : Int32, r = some (vI f) ∧ ((¬ f = nI 0 ∧ ActQ S jr o (some (vI f)) S3) ∨ (f = nI 0 ∧ ∃ Qm : Option AV → ST → Prop, Ct MX3_make (h + 79) [vR 3 0] S3 Qm ∧ ∀ r S4, Qm r S4 → r = none ∧ gi S4 9 2 0 = nI T.length ∧ ∃ Qx : Option AV → ST → Prop, Ct MX2_run (h + 79) [vR 2 0, vI (nI T.length)] S4 Qx ∧ ∀ r S5, Qx r S5 → ∃ x : Int32, r = some (vI x) ∧ ActQ S jr o (some (vI x)) S5)))) := by
    intro a ha o ho hr
    subst ho
    exact ⟨_, hr, Or.inl ⟨m1_sub ha, act_fail _ hd hk hPA⟩⟩
  have h1T : ∀ k, ¬ nI k = nI 0 → kd T 0 = nI k → 1 ≤ T.length := fun k hk hkd => kd_in hkd hk
  have eR : rRead T (si (wS S T.length g1 g2) 10 1 0 (nI 0)) = rRead T (si (wS S T.length g1 g2) 10 1 0 (nI 0)) := rfl
  obtain ⟨S1, hS1⟩ : ∃ S1, S1 = si (wS S T.length g1 g2) 10 1 0 (nI 0) := ⟨_, rfl⟩
  rw [← hS1] at hq hS2 hcl2 hl2 hpos hTk2 hr
  unfold actF
  by_cases c0 : kd T 0 = nI 200
  · have hT1 := h1T 200 (by decide) c0
    have er : rRead T S1 = rCreate T (1, []) (sclr S1 (nI 200)) := by unfold rRead; rw [if_pos c0, c0]
    rw [if_pos c0]
    rcases rd_of er (RM_cr hT hT1) hq with ⟨hn, hr2, hp2⟩ | ⟨y, hy, hr2, hqe⟩
    · rw [hn]
      exact fail _ (by rw [hp2]; omega) _ rfl hr2
    · rw [hy]
      refine ⟨_, hr2, Or.inr ⟨rfl, ?_⟩⟩
      have hle := sCr_le hT hT1 (okE_some hy).1
      have hok := ups2_ok (k1 := 24) (k2 := 25) (by decide) (by decide) (by decide) y.2 (adT (sclr S1 (nI 200)) 0 y.1) 0
      rw [hqe] at hS2
      simp only at hS2
      have e22 : ga (ups2 24 25 y.2 (adT (sclr S1 (nI 200)) 0 y.1) 0) 22 0 0 = y.1 := by
        rw [((hok.1 22 rfl).2 0).1]
        simp only [adT, gi_si, gi_sl, gi_sz, gi_sr, gi_sa, gi_sb, gi_sy, gl_si, gl_sl, gl_sz, gl_sr, gl_sa, gl_sb, gl_sy, gz_si, gz_sl, gz_sz, gz_sr, gz_sa, gz_sb, gz_sy, gr_si, gr_sl, gr_sz, gr_sr, gr_sa, gr_sb, gr_sy, ga_si, ga_sl, ga_sz, ga_sr, ga_sa, ga_sb, ga_sy, gb_si, gb_sl, gb_sz, gb_sr, gb_sa, gb_sb, gb_sy, gy_si, gy_sl, gy_sz, gy_sr, gy_sa, gy_sb, gy_sy, reduceIte, Nat.reduceEqDiff, and_true, true_and, and_self, false_and, and_false, up1_s, and_self, reduceIte]
      exact act_cr h S d jr jf T S2 y hd (fun t ht => (h0 t ht).1) hk hjr hjf hj1 hne hT1 hT hPA h9 hle.1 hle.2 (by rw [hS2]; simp only [dr, gi_si, gi_sl, gi_sz, gi_sr, gi_sa, gi_sb, gi_sy, gl_si, gl_sl, gl_sz, gl_sr, gl_sa, gl_sb, gl_sy, gz_si, gz_sl, gz_sz, gz_sr, gz_sa, gz_sb, gz_sy, gr_si, gr_sl, gr_sz, gr_sr, gr_sa, gr_sb, gr_sy, ga_si, ga_sl, ga_sz, ga_sr, ga_sa, ga_sb, ga_sy, gb_si, gb_sl, gb_sz, gb_sr, gb_sa, gb_sb, gb_sy, gy_si, gy_sl, gy_sz, gy_sr, gy_sa, gy_sb, gy_sy, reduceIte, Nat.reduceEqDiff, and_true, true_and, and_self, false_and, and_false]; rw [hok.2.1 8 (by decide), adT_8, clr_8]) (by rw [hS2]; simp only [dr, gi_si, gi_sl, gi_sz, gi_sr, gi_sa, gi_sb, gi_sy, gl_si, gl_sl, gl_sz, gl_sr, gl_sa, gl_sb, gl_sy, gz_si, gz_sl, gz_sz, gz_sr, gz_sa, gz_sb, gz_sy, gr_si, gr_sl, gr_sz, gr_sr, gr_sa, gr_sb, gr_sy, ga_si, ga_sl, ga_sz, ga_sr, ga_sa, ga_sb, ga_sy, gb_si, gb_sl, gb_sz, gb_sr, gb_sa, gb_sb, gb_sy, gy_si, gy_sl, gy_sz, gy_sr, gy_sa, gy_sb, gy_sy, reduceIte, Nat.reduceEqDiff, and_true, true_and, and_self, false_and, and_false]; rw [hok.2.2.2.1 (by intro e; rw [e] at hle; simp at hle), Nat.zero_add]) (by rw [hS2]; simp only [dr, gi_si, gi_sl, gi_sz, gi_sr, gi_sa, gi_sb, gi_sy, gl_si, gl_sl, gl_sz, gl_sr, gl_sa, gl_sb, gl_sy, gz_si, gz_sl, gz_sz, gz_sr, gz_sa, gz_sb, gz_sy, gr_si, gr_sl, gr_sz, gr_sr, gr_sa, gr_sb, gr_sy, ga_si, ga_sl, ga_sz, ga_sr, ga_sa, ga_sb, ga_sy, gb_si, gb_sl, gb_sz, gb_sr, gb_sa, gb_sb, gb_sy, gy_si, gy_sl, gy_sz, gy_sr, gy_sa, gy_sb, gy_sy, reduceIte, Nat.reduceEqDiff, and_true, true_and, and_self, false_and, and_false]; exact e22) (by
        intro i hi
        rw [hS2]
        simp only [dr, gi_si, gi_sl, gi_sz, gi_sr, gi_sa, gi_sb, gi_sy, gl_si, gl_sl, gl_sz, gl_sr, gl_sa, gl_sb, gl_sy, gz_si, gz_sl, gz_sz, gz_sr, gz_sa, gz_sb, gz_sy, gr_si, gr_sl, gr_sz, gr_sr, gr_sa, gr_sb, gr_sy, ga_si, ga_sl, ga_sz, ga_sr, ga_sa, ga_sb, ga_sy, gb_si, gb_sl, gb_sz, gb_sr, gb_sa, gb_sb, gb_sy, gy_si, gy_sl, gy_sz, gy_sr, gy_sa, gy_sb, gy_sy, reduceIte, Nat.reduceEqDiff, and_true, true_and, and_self, false_and, and_false]
        have := hok.2.2.2.2.2 i hi
        rw [Nat.zero_add] at this
        exact this)
  rw [if_neg c0]
  by_cases c1 : kd T 0 = nI 201
  · have hT1 := h1T 201 (by decide) c1
    have er : rRead T S1 = rInsert T (1, []) (sclr S1 (nI 201)) := by unfold rRead; rw [if_neg c0, if_pos c1, c1]
    rw [if_pos c1]
    rcases rd_of er (RM_in hT hT1) hq with ⟨hn, hr2, hp2⟩ | ⟨y, hy, hr2, hqe⟩
    · rw [hn]
      exact fail _ (by rw [hp2]; omega) _ rfl hr2
    · rw [hy]
      refine ⟨_, hr2, Or.inr ⟨rfl, ?_⟩⟩
      have hle := sIn_le hT hT1 (okE_some hy).1
      have hok := ups2_ok (k1 := 26) (k2 := 25) (by decide) (by decide) (by decide) y.2 (adT (sclr S1 (nI 201)) 0 y.1) 0
      rw [hqe] at hS2
      simp only at hS2
      have e22 : ga (ups2 26 25 y.2 (adT (sclr S1 (nI 201)) 0 y.1) 0) 22 0 0 = y.1 := by
        rw [((hok.1 22 rfl).2 0).1]
        simp only [adT, gi_si, gi_sl, gi_sz, gi_sr, gi_sa, gi_sb, gi_sy, gl_si, gl_sl, gl_sz, gl_sr, gl_sa, gl_sb, gl_sy, gz_si, gz_sl, gz_sz, gz_sr, gz_sa, gz_sb, gz_sy, gr_si, gr_sl, gr_sz, gr_sr, gr_sa, gr_sb, gr_sy, ga_si, ga_sl, ga_sz, ga_sr, ga_sa, ga_sb, ga_sy, gb_si, gb_sl, gb_sz, gb_sr, gb_sa, gb_sb, gb_sy, gy_si, gy_sl, gy_sz, gy_sr, gy_sa, gy_sb, gy_sy, reduceIte, Nat.reduceEqDiff, and_true, true_and, and_self, false_and, and_false, up1_s, and_self, reduceIte]
      exact act_in h S d jr jf T S2 y hd hk hjr hjf hj1 hne hT1 hT hPA h9 hle.1 hle.2 (by rw [hS2]; simp only [dr, gi_si, gi_sl, gi_sz, gi_sr, gi_sa, gi_sb, gi_sy, gl_si, gl_sl, gl_sz, gl_sr, gl_sa, gl_sb, gl_sy, gz_si, gz_sl, gz_sz, gz_sr, gz_sa, gz_sb, gz_sy, gr_si, gr_sl, gr_sz, gr_sr, gr_sa, gr_sb, gr_sy, ga_si, ga_sl, ga_sz, ga_sr, ga_sa, ga_sb, ga_sy, gb_si, gb_sl, gb_sz, gb_sr, gb_sa, gb_sb, gb_sy, gy_si, gy_sl, gy_sz, gy_sr, gy_sa, gy_sb, gy_sy, reduceIte, Nat.reduceEqDiff, and_true, true_and, and_self, false_and, and_false]; rw [hok.2.1 8 (by decide), adT_8, clr_8]) (by rw [hS2]; simp only [dr, gi_si, gi_sl, gi_sz, gi_sr, gi_sa, gi_sb, gi_sy, gl_si, gl_sl, gl_sz, gl_sr, gl_sa, gl_sb, gl_sy, gz_si, gz_sl, gz_sz, gz_sr, gz_sa, gz_sb, gz_sy, gr_si, gr_sl, gr_sz, gr_sr, gr_sa, gr_sb, gr_sy, ga_si, ga_sl, ga_sz, ga_sr, ga_sa, ga_sb, ga_sy, gb_si, gb_sl, gb_sz, gb_sr, gb_sa, gb_sb, gb_sy, gy_si, gy_sl, gy_sz, gy_sr, gy_sa, gy_sb, gy_sy, reduceIte, Nat.reduceEqDiff, and_true, true_and, and_self, false_and, and_false]; rw [hok.2.1 9 (by decide), adT_9]) (by rw [hS2]; simp only [dr, gi_si, gi_sl, gi_sz, gi_sr, gi_sa, gi_sb, gi_sy, gl_si, gl_sl, gl_sz, gl_sr, gl_sa, gl_sb, gl_sy, gz_si, gz_sl, gz_sz, gz_sr, gz_sa, gz_sb, gz_sy, gr_si, gr_sl, gr_sz, gr_sr, gr_sa, gr_sb, gr_sy, ga_si, ga_sl, ga_sz, ga_sr, ga_sa, ga_sb, ga_sy, gb_si, gb_sl, gb_sz, gb_sr, gb_sa, gb_sb, gb_sy, gy_si, gy_sl, gy_sz, gy_sr, gy_sa, gy_sb, gy_sy, reduceIte, Nat.reduceEqDiff, and_true, true_and, and_self, false_and, and_false]; rw [hok.2.2.2.1 (by intro e; rw [e] at hle; simp at hle), Nat.zero_add]) (by rw [hS2]; simp only [dr, gi_si, gi_sl, gi_sz, gi_sr, gi_sa, gi_sb, gi_sy, gl_si, gl_sl, gl_sz, gl_sr, gl_sa, gl_sb, gl_sy, gz_si, gz_sl, gz_sz, gz_sr, gz_sa, gz_sb, gz_sy, gr_si, gr_sl, gr_sz, gr_sr, gr_sa, gr_sb, gr_sy, ga_si, ga_sl, ga_sz, ga_sr, ga_sa, ga_sb, ga_sy, gb_si, gb_sl, gb_sz, gb_sr, gb_sa, gb_sb, gb_sy, gy_si, gy_sl, gy_sz, gy_sr, gy_sa, gy_sb, gy_sy, reduceIte, Nat.reduceEqDiff, and_true, true_and, and_self, false_and, and_false]; exact e22) (by
        intro i hi
        rw [hS2]
        simp only [dr, gi_si, gi_sl, gi_sz, gi_sr, gi_sa, gi_sb, gi_sy, gl_si, gl_sl, gl_sz, gl_sr, gl_sa, gl_sb, gl_sy, gz_si, gz_sl, gz_sz, gz_sr, gz_sa, gz_sb, gz_sy, gr_si, gr_sl, gr_sz, gr_sr, gr_sa, gr_sb, gr_sy, ga_si, ga_sl, ga_sz, ga_sr, ga_sa, ga_sb, ga_sy, gb_si, gb_sl, gb_sz, gb_sr, gb_sa, gb_sb, gb_sy, gy_si, gy_sl, gy_sz, gy_sr, gy_sa, gy_sb, gy_sy, reduceIte, Nat.reduceEqDiff, and_true, true_and, and_self, false_and, and_false]
        have := hok.2.2.2.2.2 i hi
        rw [Nat.zero_add] at this
        exact this)
  rw [if_neg c1]
  by_cases c2 : kd T 0 = nI 202
  · have hT1 := h1T 202 (by decide) c2
    have er : rRead T S1 = rDelete T (1, []) (sclr S1 (nI 202)) := by unfold rRead; rw [if_neg c0, if_neg c1, if_pos c2, c2]
    rw [if_pos c2]
    rcases rd_of er (RM_de hT hT1) hq with ⟨hn, hr2, hp2⟩ | ⟨y, hy, hr2, hqe⟩
    · rw [hn]
      exact fail _ (by rw [hp2]; omega) _ rfl hr2
    · rw [hy]
      refine ⟨_, hr2, Or.inr ⟨rfl, ?_⟩⟩
      have hle := sDe_le hT hT1 (okE_some hy).1
      rw [hqe] at hS2 hcl2
      simp only at hS2 hcl2
      exact act_de h S d jr jf T S2 y hd hk hjr hjf hj1 hne hT hPA h9 hTk3 hle.2 hle.1 (by rw [hS2]; simp only [dr, whS, gi_si, gi_sl, gi_sz, gi_sr, gi_sa, gi_sb, gi_sy, gl_si, gl_sl, gl_sz, gl_sr, gl_sa, gl_sb, gl_sy, gz_si, gz_sl, gz_sz, gz_sr, gz_sa, gz_sb, gz_sy, gr_si, gr_sl, gr_sz, gr_sr, gr_sa, gr_sb, gr_sy, ga_si, ga_sl, ga_sz, ga_sr, ga_sa, ga_sb, ga_sy, gb_si, gb_sl, gb_sz, gb_sr, gb_sa, gb_sb, gb_sy, gy_si, gy_sl, gy_sz, gy_sr, gy_sa, gy_sb, gy_sy, reduceIte, Nat.reduceEqDiff, and_true, true_and, and_self, false_and, and_false]; rw [adT_8, clr_8]) (by rw [hS2]; simp only [dr, whS, gi_si, gi_sl, gi_sz, gi_sr, gi_sa, gi_sb, gi_sy, gl_si, gl_sl, gl_sz, gl_sr, gl_sa, gl_sb, gl_sy, gz_si, gz_sl, gz_sz, gz_sr, gz_sa, gz_sb, gz_sy, gr_si, gr_sl, gr_sz, gr_sr, gr_sa, gr_sb, gr_sy, ga_si, ga_sl, ga_sz, ga_sr, ga_sa, ga_sb, ga_sy, gb_si, gb_sl, gb_sz, gb_sr, gb_sa, gb_sb, gb_sy, gy_si, gy_sl, gy_sz, gy_sr, gy_sa, gy_sb, gy_sy, reduceIte, Nat.reduceEqDiff, and_true, true_and, and_self, false_and, and_false]; rw [adT_9]) (by rw [hS2]; simp only [dr, whS, adT, gi_si, gi_sl, gi_sz, gi_sr, gi_sa, gi_sb, gi_sy, gl_si, gl_sl, gl_sz, gl_sr, gl_sa, gl_sb, gl_sy, gz_si, gz_sl, gz_sz, gz_sr, gz_sa, gz_sb, gz_sy, gr_si, gr_sl, gr_sz, gr_sr, gr_sa, gr_sb, gr_sy, ga_si, ga_sl, ga_sz, ga_sr, ga_sa, ga_sb, ga_sy, gb_si, gb_sl, gb_sz, gb_sr, gb_sa, gb_sb, gb_sy, gy_si, gy_sl, gy_sz, gy_sr, gy_sa, gy_sb, gy_sy, reduceIte, Nat.reduceEqDiff, and_true, true_and, and_self, false_and, and_false, up1_s]) (by rw [hS2]; simp only [dr, gi_si, gi_sl, gi_sz, gi_sr, gi_sa, gi_sb, gi_sy, gl_si, gl_sl, gl_sz, gl_sr, gl_sa, gl_sb, gl_sy, gz_si, gz_sl, gz_sz, gz_sr, gz_sa, gz_sb, gz_sy, gr_si, gr_sl, gr_sz, gr_sr, gr_sa, gr_sb, gr_sy, ga_si, ga_sl, ga_sz, ga_sr, ga_sa, ga_sb, ga_sy, gb_si, gb_sl, gb_sz, gb_sr, gb_sa, gb_sb, gb_sy, gy_si, gy_sl, gy_sz, gy_sr, gy_sa, gy_sb, gy_sy, reduceIte, Nat.reduceEqDiff, and_true, true_and, and_self, false_and, and_false]) (by rw [hS2]; simp only [dr, gi_si, gi_sl, gi_sz, gi_sr, gi_sa, gi_sb, gi_sy, gl_si, gl_sl, gl_sz, gl_sr, gl_sa, gl_sb, gl_sy, gz_si, gz_sl, gz_sz, gz_sr, gz_sa, gz_sb, gz_sy, gr_si, gr_sl, gr_sz, gr_sr, gr_sa, gr_sb, gr_sy, ga_si, ga_sl, ga_sz, ga_sr, ga_sa, ga_sb, ga_sy, gb_si, gb_sl, gb_sz, gb_sr, gb_sa, gb_sb, gb_sy, gy_si, gy_sl, gy_sz, gy_sr, gy_sa, gy_sb, gy_sy, reduceIte, Nat.reduceEqDiff, and_true, true_and, and_self, false_and, and_false]; exact hcl2) (by
        rw [hS2]
        simp only [dr, whS, gi_si, gi_sl, gi_sz, gi_sr, gi_sa, gi_sb, gi_sy, gl_si, gl_sl, gl_sz, gl_sr, gl_sa, gl_sb, gl_sy, gz_si, gz_sl, gz_sz, gz_sr, gz_sa, gz_sb, gz_sy, gr_si, gr_sl, gr_sz, gr_sr, gr_sa, gr_sb, gr_sy, ga_si, ga_sl, ga_sz, ga_sr, ga_sa, ga_sb, ga_sy, gb_si, gb_sl, gb_sz, gb_sr, gb_sa, gb_sb, gb_sy, gy_si, gy_sl, gy_sz, gy_sr, gy_sa, gy_sb, gy_sy, reduceIte, Nat.reduceEqDiff, and_true, true_and, and_self, false_and, and_false]
        cases y.2 with
        | none => simp only [cnI, adT, sclr, gi_si, gi_sl, gi_sz, gi_sr, gi_sa, gi_sb, gi_sy, gl_si, gl_sl, gl_sz, gl_sr, gl_sa, gl_sb, gl_sy, gz_si, gz_sl, gz_sz, gz_sr, gz_sa, gz_sb, gz_sy, gr_si, gr_sl, gr_sz, gr_sr, gr_sa, gr_sb, gr_sy, ga_si, ga_sl, ga_sz, ga_sr, ga_sa, ga_sb, ga_sy, gb_si, gb_sl, gb_sz, gb_sr, gb_sa, gb_sb, gb_sy, gy_si, gy_sl, gy_sz, gy_sr, gy_sa, gy_sb, gy_sy, reduceIte, Nat.reduceEqDiff, and_true, true_and, and_self, false_and, and_false]
        | some c => rfl)
  rw [if_neg c2]
  by_cases c3 : kd T 0 = nI 203
  · have hT1 := h1T 203 (by decide) c3
    have er : rRead T S1 = rUpdate T (1, []) (sclr S1 (nI 203)) := by unfold rRead; rw [if_neg c0, if_neg c1, if_neg c2, if_pos c3, c3]
    rw [if_pos c3]
    rcases rd_of er (RM_up hT hT1) hq with ⟨hn, hr2, hp2⟩ | ⟨y, hy, hr2, hqe⟩
    · rw [hn]
      exact fail _ (by rw [hp2]; omega) _ rfl hr2
    · rw [hy]
      refine ⟨_, hr2, Or.inr ⟨rfl, ?_⟩⟩
      have hle := sUp_le hT hT1 (okE_some hy).1
      rw [hqe] at hS2 hcl2
      simp only at hS2 hcl2
      exact act_up h S d jr jf T S2 y hd hk hjr hjf hj1 hne hT hPA h9 hTk3 hle.2.1 hle.2.2 hle.1 (by rw [hS2]; simp only [dr, whS, adI, adT, sclr, gi_si, gi_sl, gi_sz, gi_sr, gi_sa, gi_sb, gi_sy, gl_si, gl_sl, gl_sz, gl_sr, gl_sa, gl_sb, gl_sy, gz_si, gz_sl, gz_sz, gz_sr, gz_sa, gz_sb, gz_sy, gr_si, gr_sl, gr_sz, gr_sr, gr_sa, gr_sb, gr_sy, ga_si, ga_sl, ga_sz, ga_sr, ga_sa, ga_sb, ga_sy, gb_si, gb_sl, gb_sz, gb_sr, gb_sa, gb_sb, gb_sy, gy_si, gy_sl, gy_sz, gy_sr, gy_sa, gy_sb, gy_sy, reduceIte, Nat.reduceEqDiff, and_true, true_and, and_self, false_and, and_false]) (by rw [hS2]; simp only [dr, whS, adI, adT, sclr, gi_si, gi_sl, gi_sz, gi_sr, gi_sa, gi_sb, gi_sy, gl_si, gl_sl, gl_sz, gl_sr, gl_sa, gl_sb, gl_sy, gz_si, gz_sl, gz_sz, gz_sr, gz_sa, gz_sb, gz_sy, gr_si, gr_sl, gr_sz, gr_sr, gr_sa, gr_sb, gr_sy, ga_si, ga_sl, ga_sz, ga_sr, ga_sa, ga_sb, ga_sy, gb_si, gb_sl, gb_sz, gb_sr, gb_sa, gb_sb, gb_sy, gy_si, gy_sl, gy_sz, gy_sr, gy_sa, gy_sb, gy_sy, reduceIte, Nat.reduceEqDiff, and_true, true_and, and_self, false_and, and_false]) (by rw [hS2]; simp only [dr, whS, adI, adT, gi_si, gi_sl, gi_sz, gi_sr, gi_sa, gi_sb, gi_sy, gl_si, gl_sl, gl_sz, gl_sr, gl_sa, gl_sb, gl_sy, gz_si, gz_sl, gz_sz, gz_sr, gz_sa, gz_sb, gz_sy, gr_si, gr_sl, gr_sz, gr_sr, gr_sa, gr_sb, gr_sy, ga_si, ga_sl, ga_sz, ga_sr, ga_sa, ga_sb, ga_sy, gb_si, gb_sl, gb_sz, gb_sr, gb_sa, gb_sb, gb_sy, gy_si, gy_sl, gy_sz, gy_sr, gy_sa, gy_sb, gy_sy, reduceIte, Nat.reduceEqDiff, and_true, true_and, and_self, false_and, and_false, up1_s]) (by rw [hS2]; simp only [dr, gi_si, gi_sl, gi_sz, gi_sr, gi_sa, gi_sb, gi_sy, gl_si, gl_sl, gl_sz, gl_sr, gl_sa, gl_sb, gl_sy, gz_si, gz_sl, gz_sz, gz_sr, gz_sa, gz_sb, gz_sy, gr_si, gr_sl, gr_sz, gr_sr, gr_sa, gr_sb, gr_sy, ga_si, ga_sl, ga_sz, ga_sr, ga_sa, ga_sb, ga_sy, gb_si, gb_sl, gb_sz, gb_sr, gb_sa, gb_sb, gb_sy, gy_si, gy_sl, gy_sz, gy_sr, gy_sa, gy_sb, gy_sy, reduceIte, Nat.reduceEqDiff, and_true, true_and, and_self, false_and, and_false]) (by rw [hS2]; simp only [dr, gi_si, gi_sl, gi_sz, gi_sr, gi_sa, gi_sb, gi_sy, gl_si, gl_sl, gl_sz, gl_sr, gl_sa, gl_sb, gl_sy, gz_si, gz_sl, gz_sz, gz_sr, gz_sa, gz_sb, gz_sy, gr_si, gr_sl, gr_sz, gr_sr, gr_sa, gr_sb, gr_sy, ga_si, ga_sl, ga_sz, ga_sr, ga_sa, ga_sb, ga_sy, gb_si, gb_sl, gb_sz, gb_sr, gb_sa, gb_sb, gb_sy, gy_si, gy_sl, gy_sz, gy_sr, gy_sa, gy_sb, gy_sy, reduceIte, Nat.reduceEqDiff, and_true, true_and, and_self, false_and, and_false]; exact hcl2) (by
        rw [hS2]
        simp only [dr, whS, gi_si, gi_sl, gi_sz, gi_sr, gi_sa, gi_sb, gi_sy, gl_si, gl_sl, gl_sz, gl_sr, gl_sa, gl_sb, gl_sy, gz_si, gz_sl, gz_sz, gz_sr, gz_sa, gz_sb, gz_sy, gr_si, gr_sl, gr_sz, gr_sr, gr_sa, gr_sb, gr_sy, ga_si, ga_sl, ga_sz, ga_sr, ga_sa, ga_sb, ga_sy, gb_si, gb_sl, gb_sz, gb_sr, gb_sa, gb_sb, gb_sy, gy_si, gy_sl, gy_sz, gy_sr, gy_sa, gy_sb, gy_sy, reduceIte, Nat.reduceEqDiff, and_true, true_and, and_self, false_and, and_false]
        cases y.2.2 with
        | none => simp only [cnI, adI, adT, sclr, gi_si, gi_sl, gi_sz, gi_sr, gi_sa, gi_sb, gi_sy, gl_si, gl_sl, gl_sz, gl_sr, gl_sa, gl_sb, gl_sy, gz_si, gz_sl, gz_sz, gz_sr, gz_sa, gz_sb, gz_sy, gr_si, gr_sl, gr_sz, gr_sr, gr_sa, gr_sb, gr_sy, ga_si, ga_sl, ga_sz, ga_sr, ga_sa, ga_sb, ga_sy, gb_si, gb_sl, gb_sz, gb_sr, gb_sa, gb_sb, gb_sy, gy_si, gy_sl, gy_sz, gy_sr, gy_sa, gy_sb, gy_sy, reduceIte, Nat.reduceEqDiff, and_true, true_and, and_self, false_and, and_false]
        | some c => rfl) (by rw [hS2]; simp only [dr, whS, adI, gi_si, gi_sl, gi_sz, gi_sr, gi_sa, gi_sb, gi_sy, gl_si, gl_sl, gl_sz, gl_sr, gl_sa, gl_sb, gl_sy, gz_si, gz_sl, gz_sz, gz_sr, gz_sa, gz_sb, gz_sy, gr_si, gr_sl, gr_sz, gr_sr, gr_sa, gr_sb, gr_sy, ga_si, ga_sl, ga_sz, ga_sr, ga_sa, ga_sb, ga_sy, gb_si, gb_sl, gb_sz, gb_sr, gb_sa, gb_sb, gb_sy, gy_si, gy_sl, gy_sz, gy_sr, gy_sa, gy_sb, gy_sy, reduceIte, Nat.reduceEqDiff, and_true, true_and, and_self, false_and, and_false, up1_s]) (by rw [hS2]; simp only [dr, whS, adI, gi_si, gi_sl, gi_sz, gi_sr, gi_sa, gi_sb, gi_sy, gl_si, gl_sl, gl_sz, gl_sr, gl_sa, gl_sb, gl_sy, gz_si, gz_sl, gz_sz, gz_sr, gz_sa, gz_sb, gz_sy, gr_si, gr_sl, gr_sz, gr_sr, gr_sa, gr_sb, gr_sy, ga_si, ga_sl, ga_sz, ga_sr, ga_sa, ga_sb, ga_sy, gb_si, gb_sl, gb_sz, gb_sr, gb_sa, gb_sb, gb_sy, gy_si, gy_sl, gy_sz, gy_sr, gy_sa, gy_sb, gy_sy, reduceIte, Nat.reduceEqDiff, and_true, true_and, and_self, false_and, and_false])
  rw [if_neg c3]
  by_cases c5 : kd T 0 = nI 205
  · have hT1 := h1T 205 (by decide) c5
    have er : rRead T S1 = rSelect T (1, []) (sclr S1 (nI 205)) := by unfold rRead; rw [if_neg c0, if_neg c1, if_neg c2, if_neg c3, if_pos c5, c5]
    rw [if_pos c5]
    rcases rd_of er (RM_se hT hT1 (by simp only [sclr, gi_si, gi_sl, gi_sz, gi_sr, gi_sa, gi_sb, gi_sy, gl_si, gl_sl, gl_sz, gl_sr, gl_sa, gl_sb, gl_sy, gz_si, gz_sl, gz_sz, gz_sr, gz_sa, gz_sb, gz_sy, gr_si, gr_sl, gr_sz, gr_sr, gr_sa, gr_sb, gr_sy, ga_si, ga_sl, ga_sz, ga_sr, ga_sa, ga_sb, ga_sy, gb_si, gb_sl, gb_sz, gb_sr, gb_sa, gb_sb, gb_sy, gy_si, gy_sl, gy_sz, gy_sr, gy_sa, gy_sb, gy_sy, reduceIte, Nat.reduceEqDiff, and_true, true_and, and_self, false_and, and_false]) (by simp only [sclr, gi_si, gi_sl, gi_sz, gi_sr, gi_sa, gi_sb, gi_sy, gl_si, gl_sl, gl_sz, gl_sr, gl_sa, gl_sb, gl_sy, gz_si, gz_sl, gz_sz, gz_sr, gz_sa, gz_sb, gz_sy, gr_si, gr_sl, gr_sz, gr_sr, gr_sa, gr_sb, gr_sy, ga_si, ga_sl, ga_sz, ga_sr, ga_sa, ga_sb, ga_sy, gb_si, gb_sl, gb_sz, gb_sr, gb_sa, gb_sb, gb_sy, gy_si, gy_sl, gy_sz, gy_sr, gy_sa, gy_sb, gy_sy, reduceIte, Nat.reduceEqDiff, and_true, true_and, and_self, false_and, and_false]) (by simp only [sclr, gi_si, gi_sl, gi_sz, gi_sr, gi_sa, gi_sb, gi_sy, gl_si, gl_sl, gl_sz, gl_sr, gl_sa, gl_sb, gl_sy, gz_si, gz_sl, gz_sz, gz_sr, gz_sa, gz_sb, gz_sy, gr_si, gr_sl, gr_sz, gr_sr, gr_sa, gr_sb, gr_sy, ga_si, ga_sl, ga_sz, ga_sr, ga_sa, ga_sb, ga_sy, gb_si, gb_sl, gb_sz, gb_sr, gb_sa, gb_sb, gb_sy, gy_si, gy_sl, gy_sz, gy_sr, gy_sa, gy_sb, gy_sy, reduceIte, Nat.reduceEqDiff, and_true, true_and, and_self, false_and, and_false])) hq with ⟨hn, hr2, hp2⟩ | ⟨y, hy, hr2, hqe⟩
    · rw [hn]
      exact fail _ (by rw [hp2]; omega) _ rfl hr2
    · rw [hy]
      refine ⟨_, hr2, Or.inr ⟨rfl, ?_⟩⟩
      have hle := sSe_le hT hT1 (okE_some hy).1
      have hok := ups2_ok (k1 := 27) (k2 := 28) (by decide) (by decide) (by decide) (endl y.1 0) (sclr S1 (nI 205)) 0
      have hne0 : endl y.1 0 ≠ [] := by
        intro e
        have := endl_len y.1 0
        rw [e] at this
        have h3 := hle.2.1.1
        simp at this
        rw [← this] at h3
        simp at h3
      rw [hqe] at hS2 hcl2
      simp only at hS2 hcl2
      have eIt : ItO S2 0 0 y.1 := by
        refine endl_ItO y.1 0 0 (fun i hi => ?_) (fun z hz => WH_x hT (hle.2.1.2.2 z hz).1)
        have := hok.2.2.2.2.2 i (by rw [endl_len]; exact hi)
        rw [hS2]
        cases hy2 : y.2.2.1 <;> simp only [dr, seS, whS, hy2, cmS, adT, gi_si, gi_sl, gi_sz, gi_sr, gi_sa, gi_sb, gi_sy, gl_si, gl_sl, gl_sz, gl_sr, gl_sa, gl_sb, gl_sy, gz_si, gz_sl, gz_sz, gz_sr, gz_sa, gz_sb, gz_sy, gr_si, gr_sl, gr_sz, gr_sr, gr_sa, gr_sb, gr_sy, ga_si, ga_sl, ga_sz, ga_sr, ga_sa, ga_sb, ga_sy, gb_si, gb_sl, gb_sz, gb_sr, gb_sa, gb_sb, gb_sy, gy_si, gy_sl, gy_sz, gy_sr, gy_sa, gy_sb, gy_sy, reduceIte, Nat.reduceEqDiff, and_true, true_and, and_self, false_and, and_false] <;> exact this
      have e9 : gi S2 6 9 0 = nI (tcS y) := by
        rw [hS2]
        cases hy2 : y.2.2.1 <;> simp only [dr, seS, whS, hy2, cmS, adT, tcS, gi_si, gi_sl, gi_sz, gi_sr, gi_sa, gi_sb, gi_sy, gl_si, gl_sl, gl_sz, gl_sr, gl_sa, gl_sb, gl_sy, gz_si, gz_sl, gz_sz, gz_sr, gz_sa, gz_sb, gz_sy, gr_si, gr_sl, gr_sz, gr_sr, gr_sa, gr_sb, gr_sy, ga_si, ga_sl, ga_sz, ga_sr, ga_sa, ga_sb, ga_sy, gb_si, gb_sl, gb_sz, gb_sr, gb_sa, gb_sb, gb_sy, gy_si, gy_sl, gy_sz, gy_sr, gy_sa, gy_sb, gy_sy, reduceIte, Nat.reduceEqDiff, and_true, true_and, and_self, false_and, and_false]
      have e22 : ∀ i, i < tcS y → ga S2 22 0 i = nmS y i := by
        intro i hi
        rw [hS2]
        unfold tcS at hi
        cases hy2 : y.2.2.1 with
        | none =>
          rw [hy2] at hi
          have : i = 0 := by simp only at hi; omega
          subst this
          simp only [dr, seS, whS, hy2, cmS, adT, nmS, gi_si, gi_sl, gi_sz, gi_sr, gi_sa, gi_sb, gi_sy, gl_si, gl_sl, gl_sz, gl_sr, gl_sa, gl_sb, gl_sy, gz_si, gz_sl, gz_sz, gz_sr, gz_sa, gz_sb, gz_sy, gr_si, gr_sl, gr_sz, gr_sr, gr_sa, gr_sb, gr_sy, ga_si, ga_sl, ga_sz, ga_sr, ga_sa, ga_sb, ga_sy, gb_si, gb_sl, gb_sz, gb_sr, gb_sa, gb_sb, gb_sy, gy_si, gy_sl, gy_sz, gy_sr, gy_sa, gy_sb, gy_sy, reduceIte, Nat.reduceEqDiff, and_true, true_and, and_self, false_and, and_false, up1_s, reduceIte]
        | some x =>
          rw [hy2] at hi
          have : i = 0 ∨ i = 1 := by simp only at hi; omega
          rcases this with rfl | rfl
          · simp only [dr, seS, whS, hy2, cmS, adT, nmS, gi_si, gi_sl, gi_sz, gi_sr, gi_sa, gi_sb, gi_sy, gl_si, gl_sl, gl_sz, gl_sr, gl_sa, gl_sb, gl_sy, gz_si, gz_sl, gz_sz, gz_sr, gz_sa, gz_sb, gz_sy, gr_si, gr_sl, gr_sz, gr_sr, gr_sa, gr_sb, gr_sy, ga_si, ga_sl, ga_sz, ga_sr, ga_sa, ga_sb, ga_sy, gb_si, gb_sl, gb_sz, gb_sr, gb_sa, gb_sb, gb_sy, gy_si, gy_sl, gy_sz, gy_sr, gy_sa, gy_sb, gy_sy, reduceIte, Nat.reduceEqDiff, and_true, true_and, and_self, false_and, and_false, reduceIte]
            rw [up1_n (by decide), up1_s]
          · simp only [dr, seS, whS, hy2, cmS, adT, nmS, gi_si, gi_sl, gi_sz, gi_sr, gi_sa, gi_sb, gi_sy, gl_si, gl_sl, gl_sz, gl_sr, gl_sa, gl_sb, gl_sy, gz_si, gz_sl, gz_sz, gz_sr, gz_sa, gz_sb, gz_sy, gr_si, gr_sl, gr_sz, gr_sr, gr_sa, gr_sb, gr_sy, ga_si, ga_sl, ga_sz, ga_sr, ga_sa, ga_sb, ga_sy, gb_si, gb_sl, gb_sz, gb_sr, gb_sa, gb_sb, gb_sy, gy_si, gy_sl, gy_sz, gy_sr, gy_sa, gy_sb, gy_sy, reduceIte, Nat.reduceEqDiff, and_true, true_and, and_self, false_and, and_false, up1_s, Nat.reduceEqDiff, reduceIte, Option.getD_some]
      have e10 : gi S2 6 10 0 = nI y.1.length := by
        have := hok.2.2.2.1 hne0
        rw [endl_len, Nat.zero_add] at this
        rw [hS2]
        cases hy2 : y.2.2.1 <;> simp only [dr, seS, whS, hy2, cmS, adT, gi_si, gi_sl, gi_sz, gi_sr, gi_sa, gi_sb, gi_sy, gl_si, gl_sl, gl_sz, gl_sr, gl_sa, gl_sb, gl_sy, gz_si, gz_sl, gz_sz, gz_sr, gz_sa, gz_sb, gz_sy, gr_si, gr_sl, gr_sz, gr_sr, gr_sa, gr_sb, gr_sy, ga_si, ga_sl, ga_sz, ga_sr, ga_sa, ga_sb, ga_sy, gb_si, gb_sl, gb_sz, gb_sr, gb_sa, gb_sb, gb_sy, gy_si, gy_sl, gy_sz, gy_sr, gy_sa, gy_sb, gy_sy, reduceIte, Nat.reduceEqDiff, and_true, true_and, and_self, false_and, and_false] <;> exact this
      have e8 : gi S2 6 8 0 = nI 205 := by
        have := hok.2.1 8 (by decide)
        rw [clr_8] at this
        rw [hS2]
        cases hy2 : y.2.2.1 <;> simp only [dr, seS, whS, hy2, cmS, adT, gi_si, gi_sl, gi_sz, gi_sr, gi_sa, gi_sb, gi_sy, gl_si, gl_sl, gl_sz, gl_sr, gl_sa, gl_sb, gl_sy, gz_si, gz_sl, gz_sz, gz_sr, gz_sa, gz_sb, gz_sy, gr_si, gr_sl, gr_sz, gr_sr, gr_sa, gr_sb, gr_sy, ga_si, ga_sl, ga_sz, ga_sr, ga_sa, ga_sb, ga_sy, gb_si, gb_sl, gb_sz, gb_sr, gb_sa, gb_sb, gb_sy, gy_si, gy_sl, gy_sz, gy_sr, gy_sa, gy_sb, gy_sy, reduceIte, Nat.reduceEqDiff, and_true, true_and, and_self, false_and, and_false] <;> exact this
      have e13 : gi S2 6 13 0 = cnI y.2.2.2.1 (flt y.1).length := by
        have := hok.2.1 13 (by decide)
        have e : gi (sclr S1 (nI 205)) 6 13 0 = -1 := by simp only [sclr, gi_si, gi_sl, gi_sz, gi_sr, gi_sa, gi_sb, gi_sy, gl_si, gl_sl, gl_sz, gl_sr, gl_sa, gl_sb, gl_sy, gz_si, gz_sl, gz_sz, gz_sr, gz_sa, gz_sb, gz_sy, gr_si, gr_sl, gr_sz, gr_sr, gr_sa, gr_sb, gr_sy, ga_si, ga_sl, ga_sz, ga_sr, ga_sa, ga_sb, ga_sy, gb_si, gb_sl, gb_sz, gb_sr, gb_sa, gb_sb, gb_sy, gy_si, gy_sl, gy_sz, gy_sr, gy_sa, gy_sb, gy_sy, reduceIte, Nat.reduceEqDiff, and_true, true_and, and_self, false_and, and_false]
        rw [e] at this
        rw [hS2]
        cases hc : y.2.2.2.1 with
        | none => cases hy2 : y.2.2.1 <;> simp only [dr, seS, whS, hy2, hc, cmS, adT, cnI, gi_si, gi_sl, gi_sz, gi_sr, gi_sa, gi_sb, gi_sy, gl_si, gl_sl, gl_sz, gl_sr, gl_sa, gl_sb, gl_sy, gz_si, gz_sl, gz_sz, gz_sr, gz_sa, gz_sb, gz_sy, gr_si, gr_sl, gr_sz, gr_sr, gr_sa, gr_sb, gr_sy, ga_si, ga_sl, ga_sz, ga_sr, ga_sa, ga_sb, ga_sy, gb_si, gb_sl, gb_sz, gb_sr, gb_sa, gb_sb, gb_sy, gy_si, gy_sl, gy_sz, gy_sr, gy_sa, gy_sb, gy_sy, reduceIte, Nat.reduceEqDiff, and_true, true_and, and_self, false_and, and_false] <;> exact this
        | some c => simp only [dr, seS, whS, hc, cnI, gi_si, gi_sl, gi_sz, gi_sr, gi_sa, gi_sb, gi_sy, gl_si, gl_sl, gl_sz, gl_sr, gl_sa, gl_sb, gl_sy, gz_si, gz_sl, gz_sz, gz_sr, gz_sa, gz_sb, gz_sy, gr_si, gr_sl, gr_sz, gr_sr, gr_sa, gr_sb, gr_sy, ga_si, ga_sl, ga_sz, ga_sr, ga_sa, ga_sb, ga_sy, gb_si, gb_sl, gb_sz, gb_sr, gb_sa, gb_sb, gb_sy, gy_si, gy_sl, gy_sz, gy_sr, gy_sa, gy_sb, gy_sy, reduceIte, Nat.reduceEqDiff, and_true, true_and, and_self, false_and, and_false]
      exact act_se h S d jr jf T A S2 y hd hk hjr hjf hj1 hj2 hne hT hPA h9 hTk3 hle.2.1 hle.2.2.1 hle.1 hle.2.2.2 e8 e9 e22 (by rw [hS2]; simp only [dr, gi_si, gi_sl, gi_sz, gi_sr, gi_sa, gi_sb, gi_sy, gl_si, gl_sl, gl_sz, gl_sr, gl_sa, gl_sb, gl_sy, gz_si, gz_sl, gz_sz, gz_sr, gz_sa, gz_sb, gz_sy, gr_si, gr_sl, gr_sz, gr_sr, gr_sa, gr_sb, gr_sy, ga_si, ga_sl, ga_sz, ga_sr, ga_sa, ga_sb, ga_sy, gb_si, gb_sl, gb_sz, gb_sr, gb_sa, gb_sb, gb_sy, gy_si, gy_sl, gy_sz, gy_sr, gy_sa, gy_sb, gy_sy, reduceIte, Nat.reduceEqDiff, and_true, true_and, and_self, false_and, and_false]) (by rw [hS2]; simp only [dr, gi_si, gi_sl, gi_sz, gi_sr, gi_sa, gi_sb, gi_sy, gl_si, gl_sl, gl_sz, gl_sr, gl_sa, gl_sb, gl_sy, gz_si, gz_sl, gz_sz, gz_sr, gz_sa, gz_sb, gz_sy, gr_si, gr_sl, gr_sz, gr_sr, gr_sa, gr_sb, gr_sy, ga_si, ga_sl, ga_sz, ga_sr, ga_sa, ga_sb, ga_sy, gb_si, gb_sl, gb_sz, gb_sr, gb_sa, gb_sb, gb_sy, gy_si, gy_sl, gy_sz, gy_sr, gy_sa, gy_sb, gy_sy, reduceIte, Nat.reduceEqDiff, and_true, true_and, and_self, false_and, and_false]; exact hcl2) e13 (by rw [hS2]; simp only [dr, seS, gi_si, gi_sl, gi_sz, gi_sr, gi_sa, gi_sb, gi_sy, gl_si, gl_sl, gl_sz, gl_sr, gl_sa, gl_sb, gl_sy, gz_si, gz_sl, gz_sz, gz_sr, gz_sa, gz_sb, gz_sy, gr_si, gr_sl, gr_sz, gr_sr, gr_sa, gr_sb, gr_sy, ga_si, ga_sl, ga_sz, ga_sr, ga_sa, ga_sb, ga_sy, gb_si, gb_sl, gb_sz, gb_sr, gb_sa, gb_sb, gb_sy, gy_si, gy_sl, gy_sz, gy_sr, gy_sa, gy_sb, gy_sy, reduceIte, Nat.reduceEqDiff, and_true, true_and, and_self, false_and, and_false]) (by rw [hS2]; simp only [dr, seS, gi_si, gi_sl, gi_sz, gi_sr, gi_sa, gi_sb, gi_sy, gl_si, gl_sl, gl_sz, gl_sr, gl_sa, gl_sb, gl_sy, gz_si, gz_sl, gz_sz, gz_sr, gz_sa, gz_sb, gz_sy, gr_si, gr_sl, gr_sz, gr_sr, gr_sa, gr_sb, gr_sy, ga_si, ga_sl, ga_sz, ga_sr, ga_sa, ga_sb, ga_sy, gb_si, gb_sl, gb_sz, gb_sr, gb_sa, gb_sb, gb_sy, gy_si, gy_sl, gy_sz, gy_sr, gy_sa, gy_sb, gy_sy, reduceIte, Nat.reduceEqDiff, and_true, true_and, and_self, false_and, and_false]) (by rw [hS2]; simp only [dr, seS, gi_si, gi_sl, gi_sz, gi_sr, gi_sa, gi_sb, gi_sy, gl_si, gl_sl, gl_sz, gl_sr, gl_sa, gl_sb, gl_sy, gz_si, gz_sl, gz_sz, gz_sr, gz_sa, gz_sb, gz_sy, gr_si, gr_sl, gr_sz, gr_sr, gr_sa, gr_sb, gr_sy, ga_si, ga_sl, ga_sz, ga_sr, ga_sa, ga_sb, ga_sy, gb_si, gb_sl, gb_sz, gb_sr, gb_sa, gb_sb, gb_sy, gy_si, gy_sl, gy_sz, gy_sr, gy_sa, gy_sb, gy_sy, reduceIte, Nat.reduceEqDiff, and_true, true_and, and_self, false_and, and_false]) e10 eIt
  rw [if_neg c5]
  refine fail 0 (by decide) _ rfl ?_
  have er : rRead T S1 = (false, (0, []), sclr S1 (kd T 0)) := by unfold rRead; rw [if_neg c0, if_neg c1, if_neg c2, if_neg c3, if_neg c5]
  rw [er] at hr
  rw [hr]
  simp
