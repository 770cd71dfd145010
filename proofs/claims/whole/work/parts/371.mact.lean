-- deps: 370
-- the model: create and insert, where texts stop
theorem SeB_r (S : ST) : SeB S S := ⟨FrM_r, fun _ h => h, rfl, rfl, rfl, rfl, rfl⟩
section
variable (h : Nat) (S : ST) (T : WL) (d : DB) (K : KA)
theorem m_crA (hT : MT S T) (h1 : 1 ≤ T.length) (hA : AbsM S d) (hW : DbW d) (h28 : gi S 11 28 0 = nI 0) (h0 : dR d (dC d) = 0) : Ct MX11_create (h + 1) [vR 11 0] (kS S 1 (-1) 0 0 K) (AcQ S T d (sCr T) (aCr d)) := by
  refine m_create h S T d K hT h1 hA hW h28 _ (fun hb K' b c' => bad_kS S T d hA hb (SeB_r S) b c' K') ?_ ?_
  · intro y K' z a c e q0 hf
    refine Or.inr ⟨y, by rw [e], by rw [e]; exact q0, nI 0, crF d y.1 (l1 y.2) y.2.length, rfl, by simp only [eS, kS, gi_si, gi_sl, gi_sz, gi_sr, gi_sa, gi_sb, gi_sy, gl_si, gl_sl, gl_sz, gl_sr, gl_sa, gl_sb, gl_sy, gz_si, gz_sl, gz_sz, gz_sr, gz_sa, gz_sb, gz_sy, gr_si, gr_sl, gr_sz, gr_sr, gr_sa, gr_sb, gr_sy, ga_si, ga_sl, ga_sz, ga_sr, ga_sa, ga_sb, ga_sy, gb_si, gb_sl, gb_sz, gb_sr, gb_sa, gb_sb, gb_sy, gy_si, gy_sl, gy_sz, gy_sr, gy_sa, gy_sb, gy_sy, reduceIte, Nat.reduceEqDiff, and_true, true_and, and_self, false_and, and_false], eS_f _ _ _, ?_⟩
    have ho : aCr d y = (crF d y.1 (l1 y.2) y.2.length, d, none) := by unfold aCr; rw [if_neg hf]
    rw [ho, if_neg hf]
    have fr := FrR_t (FrR_kS a (-1) 0 c K' ⟨AG_refl, rfl, rfl, rfl, rfl⟩) (FrR_of (FrM_eS (crF d y.1 (l1 y.2) y.2.length) z (FrM_r (C := kS S a (-1) 0 c K'))))
    exact ⟨rfl, fr.1, AbsM_e _ _ (AbsM_k _ _ _ _ _ hA), fr.2⟩
  · intro y K' z a c v g2 g3 e q0 hf hd4 hnv hl4 hCo hg1 hg2
    have ho : aCr d y = (nI 0, crD d y.1 y.2.length (l1 y.2) (l2 y.2), none) := by unfold aCr; rw [if_pos hf]
    have fr := FrR_t (FrR_kS a (-1) 0 c K' ⟨AG_refl, rfl, rfl, rfl, rfl⟩) (FrR_of (FrM_eS (nI 0) z (FrM_r (C := kS S a (-1) 0 c K'))))
    obtain ⟨X, hX⟩ : ∃ X, X = eS (kS S a (-1) 0 c K') (nI 0) z := ⟨_, rfl⟩
    rw [← hX] at fr ⊢
    have x6 : gi X 11 6 0 = -1 := by rw [hX]; simp only [eS, kS, gi_si, gi_sl, gi_sz, gi_sr, gi_sa, gi_sb, gi_sy, gl_si, gl_sl, gl_sz, gl_sr, gl_sa, gl_sb, gl_sy, gz_si, gz_sl, gz_sz, gz_sr, gz_sa, gz_sb, gz_sy, gr_si, gr_sl, gr_sz, gr_sr, gr_sa, gr_sb, gr_sy, ga_si, ga_sl, ga_sz, ga_sr, ga_sa, ga_sb, ga_sy, gb_si, gb_sl, gb_sz, gb_sr, gb_sa, gb_sb, gb_sy, gy_si, gy_sl, gy_sz, gy_sr, gy_sa, gy_sb, gy_sy, reduceIte, Nat.reduceEqDiff, and_true, true_and, and_self, false_and, and_false]
    have x28 : gi X 11 28 0 = nI 0 := by rw [hX]; exact eS_f _ _ _
    have xA : AbsM X d := by rw [hX]; exact AbsM_e _ _ (AbsM_k _ _ _ _ _ hA)
    have x52 : gb X 52 0 = gb S 52 0 := by rw [hX]; simp only [eS, kS, gi_si, gi_sl, gi_sz, gi_sr, gi_sa, gi_sb, gi_sy, gl_si, gl_sl, gl_sz, gl_sr, gl_sa, gl_sb, gl_sy, gz_si, gz_sl, gz_sz, gz_sr, gz_sa, gz_sb, gz_sy, gr_si, gr_sl, gr_sz, gr_sr, gr_sa, gr_sb, gr_sy, ga_si, ga_sl, ga_sz, ga_sr, ga_sa, ga_sb, ga_sy, gb_si, gb_sl, gb_sz, gb_sr, gb_sa, gb_sb, gb_sy, gy_si, gy_sl, gy_sz, gy_sr, gy_sa, gy_sb, gy_sy, reduceIte, Nat.reduceEqDiff, and_true, true_and, and_self, false_and, and_false]
    have x53 : gy X 53 0 = gy S 53 0 := by rw [hX]; simp only [eS, kS, gi_si, gi_sl, gi_sz, gi_sr, gi_sa, gi_sb, gi_sy, gl_si, gl_sl, gl_sz, gl_sr, gl_sa, gl_sb, gl_sy, gz_si, gz_sl, gz_sz, gz_sr, gz_sa, gz_sb, gz_sy, gr_si, gr_sl, gr_sz, gr_sr, gr_sa, gr_sb, gr_sy, ga_si, ga_sl, ga_sz, ga_sr, ga_sa, ga_sb, ga_sy, gb_si, gb_sl, gb_sz, gb_sr, gb_sa, gb_sb, gb_sy, gy_si, gy_sl, gy_sz, gy_sr, gy_sa, gy_sb, gy_sy, reduceIte, Nat.reduceEqDiff, and_true, true_and, and_self, false_and, and_false]
    refine Or.inr ⟨y, by rw [e], by rw [e]; exact q0, nI 0, nI 0, rfl, by simp only [nT1, nT, gi_si, gi_sl, gi_sz, gi_sr, gi_sa, gi_sb, gi_sy, gl_si, gl_sl, gl_sz, gl_sr, gl_sa, gl_sb, gl_sy, gz_si, gz_sl, gz_sz, gz_sr, gz_sa, gz_sb, gz_sy, gr_si, gr_sl, gr_sz, gr_sr, gr_sa, gr_sb, gr_sy, ga_si, ga_sl, ga_sz, ga_sr, ga_sa, ga_sb, ga_sy, gb_si, gb_sl, gb_sz, gb_sr, gb_sa, gb_sb, gb_sy, gy_si, gy_sl, gy_sz, gy_sr, gy_sa, gy_sb, gy_sy, reduceIte, Nat.reduceEqDiff, and_true, true_and, and_self, false_and, and_false]; exact x6, by simp only [nT1, nT, gi_si, gi_sl, gi_sz, gi_sr, gi_sa, gi_sb, gi_sy, gl_si, gl_sl, gl_sz, gl_sr, gl_sa, gl_sb, gl_sy, gz_si, gz_sl, gz_sz, gz_sr, gz_sa, gz_sb, gz_sy, gr_si, gr_sl, gr_sz, gr_sr, gr_sa, gr_sb, gr_sy, ga_si, ga_sl, ga_sz, ga_sr, ga_sa, ga_sb, ga_sy, gb_si, gb_sl, gb_sz, gb_sr, gb_sa, gb_sb, gb_sy, gy_si, gy_sl, gy_sz, gy_sr, gy_sa, gy_sb, gy_sy, reduceIte, Nat.reduceEqDiff, and_true, true_and, and_self, false_and, and_false]; exact x28, ?_⟩
    rw [ho]
    refine ⟨if_pos rfl, ?_, AbsM_new X d y.1 v y.2 K' g2 g3 xA hnv hd4 h0 hl4 hCo hg1 (fun i hi => by rw [x52, x53]; exact hg2 i (Or.inl hi)), ?_⟩
    · unfold nT1 nT
      exact AG_si (AG_sy (AG_sb (AG_sa (AG_sa (AG_sb fr.1 rfl) rfl) rfl) rfl) rfl) rfl
    · have e2 := fr.2
      unfold ResM
      simp only [nT1, nT, gi_si, gi_sl, gi_sz, gi_sr, gi_sa, gi_sb, gi_sy, gl_si, gl_sl, gl_sz, gl_sr, gl_sa, gl_sb, gl_sy, gz_si, gz_sl, gz_sz, gz_sr, gz_sa, gz_sb, gz_sy, gr_si, gr_sl, gr_sz, gr_sr, gr_sa, gr_sb, gr_sy, ga_si, ga_sl, ga_sz, ga_sr, ga_sa, ga_sb, ga_sy, gb_si, gb_sl, gb_sz, gb_sr, gb_sa, gb_sb, gb_sy, gy_si, gy_sl, gy_sz, gy_sr, gy_sa, gy_sb, gy_sy, reduceIte, Nat.reduceEqDiff, and_true, true_and, and_self, false_and, and_false]
      exact e2
theorem m_inA (hT : MT S T) (h1 : 1 ≤ T.length) (hA : AbsM S d) (hW : DbW d) (h28 : gi S 11 28 0 = nI 0) : Ct MX11_insert (h + 2) [vR 11 0] (kS S 1 (-1) 0 0 K) (AcQ S T d (sIn T) (aIn d)) := by
  refine m_insert h S T d K hT h1 hA hW h28 _ (fun hb v K' b c' => bad_kS S T d hA hb (SeB_nm1 S v) b c' K') ?_
  intro y a v K' e q0 ha hn hK hl1 hl4 o1 x4 o5 o6 o7
  obtain ⟨C, hC⟩ : ∃ C, C = kS (nm1 S v) a (-1) 0 y.2.length K' := ⟨_, rfl⟩
  have cA : AbsM C d := by rw [hC]; exact AbsM_k _ _ _ _ _ (AbsM_nm1 v hA)
  have c6 : gi C 11 6 0 = -1 := by rw [hC]; exact kS_wr ..
  have fr : FrR S C := by rw [hC]; exact FrR_kS _ _ _ _ _ (FrR_of (SeB_nm1 S v).1)
  have gd : ∀ (r : Option AV) (S' : ST) (o : OUT), aIn d y = o → StQ C o r S' → AcQ S T d (sIn T) (aIn d) r S' := by
    intro r S' o ho hq
    refine Or.inr ⟨y, by rw [e], by rw [e]; exact q0, ?_⟩
    rw [ho]
    exact AcR_of fr c6 hq
  rw [← hC]
  refine m_inE h C d y.1 K' y.2 o1 cA hW (by rw [hC, kS_28]; simp only [nm1, gi_si, gi_sl, gi_sz, gi_sr, gi_sa, gi_sb, gi_sy, gl_si, gl_sl, gl_sz, gl_sr, gl_sa, gl_sb, gl_sy, gz_si, gz_sl, gz_sz, gz_sr, gz_sa, gz_sb, gz_sy, gr_si, gr_sl, gr_sz, gr_sr, gr_sa, gr_sb, gr_sy, ga_si, ga_sl, ga_sz, ga_sr, ga_sa, ga_sb, ga_sy, gb_si, gb_sl, gb_sz, gb_sr, gb_sa, gb_sb, gb_sy, gy_si, gy_sl, gy_sz, gy_sr, gy_sa, gy_sb, gy_sy, reduceIte, Nat.reduceEqDiff, and_true, true_and, and_self, false_and, and_false]; exact h28) (by rw [hC]; simp only [kS, nm1, gi_si, gi_sl, gi_sz, gi_sr, gi_sa, gi_sb, gi_sy, gl_si, gl_sl, gl_sz, gl_sr, gl_sa, gl_sb, gl_sy, gz_si, gz_sl, gz_sz, gz_sr, gz_sa, gz_sb, gz_sy, gr_si, gr_sl, gr_sz, gr_sr, gr_sa, gr_sb, gr_sy, ga_si, ga_sl, ga_sz, ga_sr, ga_sa, ga_sb, ga_sy, gb_si, gb_sl, gb_sz, gb_sr, gb_sa, gb_sb, gb_sy, gy_si, gy_sl, gy_sz, gy_sr, gy_sa, gy_sb, gy_sy, reduceIte, Nat.reduceEqDiff, and_true, true_and, and_self, false_and, and_false]) (by rw [hC, show gb (kS (nm1 S v) a (-1) 0 y.2.length K') 57 0 = gb (nm1 S v) 57 0 by simp only [kS, gi_si, gi_sl, gi_sz, gi_sr, gi_sa, gi_sb, gi_sy, gl_si, gl_sl, gl_sz, gl_sr, gl_sa, gl_sb, gl_sy, gz_si, gz_sl, gz_sz, gz_sr, gz_sa, gz_sb, gz_sy, gr_si, gr_sl, gr_sz, gr_sr, gr_sa, gr_sb, gr_sy, ga_si, ga_sl, ga_sz, ga_sr, ga_sa, ga_sb, ga_sy, gb_si, gb_sl, gb_sz, gb_sr, gb_sa, gb_sb, gb_sy, gy_si, gy_sl, gy_sz, gy_sr, gy_sa, gy_sb, gy_sy, reduceIte, Nat.reduceEqDiff, and_true, true_and, and_self, false_and, and_false], nm1_57]; exact hn) hl1 hl4 hK (by rw [hC]; exact kS_43 ..) (by rw [hC]; exact kS_46 ..) (some (vI x4)) o5 o6 o7 ⟨x4, rfl⟩ _ ?_ ?_ ?_
  · intro z htf
    exact gd _ _ (-1001, d, none) (by unfold aIn; rw [htf]) (StQ_f (nI 1) (by decide) rfl (FrM_lk1 d y.1 FrM_r) (AbsM_58 _ cA))
  · intro z t htf hf
    exact gd _ _ (inF d t (l2 y.2) y.2.length, d, none) (by unfold aIn; rw [htf]; simp only; rw [if_neg hf]) (StQ_f (nI 1) hf rfl (FrM_lk1 d y.1 FrM_r) (AbsM_58 _ cA))
  · intro z t g5 g6 htf hf hr hg1 hg2
    obtain ⟨hlK, _⟩ := inF_0 hf
    obtain ⟨X, hX⟩ : ∃ X, X = eS (lk1 C d y.1) (nI 0) z := ⟨_, rfl⟩
    have xF : FrM C X := by rw [hX]; exact FrM_eS _ _ (FrM_lk1 d y.1 FrM_r)
    have xA : AbsM X d := by rw [hX]; exact AbsM_e _ _ (AbsM_58 _ cA)
    have x28 : gi X 11 28 0 = nI 0 := by rw [hX]; exact eS_f _ _ _
    have x55 : ga X 55 0 = ga (lk1 C d y.1) 55 0 := by rw [hX, eS_ga]
    have x56 : gy X 56 0 = gy (lk1 C d y.1) 56 0 := by rw [hX, eS_gy]
    rw [← hX]
    refine gd _ _ (nI 1, inD d t (dK d t) (l2 y.2) (l1 y.2), none) (by unfold aIn; rw [htf]; simp only; rw [if_pos hf]) ?_
    have fr2 := FrM_sa (k := 54) (g := up1 (ga X 54 0) t (nI (dR d t + 1))) (FrM_wN g5 g6 xF) rfl (by decide)
    refine ⟨nI 1, nI 0, rfl, by simp only [inR, wN, gi_si, gi_sl, gi_sz, gi_sr, gi_sa, gi_sb, gi_sy, gl_si, gl_sl, gl_sz, gl_sr, gl_sa, gl_sb, gl_sy, gz_si, gz_sl, gz_sz, gz_sr, gz_sa, gz_sb, gz_sy, gr_si, gr_sl, gr_sz, gr_sr, gr_sa, gr_sb, gr_sy, ga_si, ga_sl, ga_sz, ga_sr, ga_sa, ga_sb, ga_sy, gb_si, gb_sl, gb_sz, gb_sr, gb_sa, gb_sb, gb_sy, gy_si, gy_sl, gy_sz, gy_sr, gy_sa, gy_sb, gy_sy, reduceIte, Nat.reduceEqDiff, and_true, true_and, and_self, false_and, and_false]; exact x28, if_pos rfl, fr2.1, fr2.2.1, ?_, fr2.2.2⟩
    refine AbsM_in X d t y.2 g5 g6 xA (tfd_lt htf) hr hlK (fun i hi => ?_) (fun i hi => by rw [x55, x56]; exact hg2 i hi)
    rw [(hg1 i hi).1, (hg1 i hi).2]
    unfold inV inM
    rcases hK i hi with ⟨k1, _⟩ | ⟨k1, _⟩ | ⟨k1, _⟩
    · rw [k1, if_neg (by decide), if_pos (by decide)]; exact ⟨rfl, by decide⟩
    · rw [k1, if_neg (by decide), if_pos (by decide)]; exact ⟨rfl, by decide⟩
    · rw [k1, if_pos rfl, if_neg (by decide)]; exact ⟨rfl, by decide⟩
end
section
variable {T : WL}
theorem pn_pos {a : Nat} (ha : a ≤ T.length) : (pn T a).1 ≤ T.length := by
  unfold pn
  by_cases q : kd T a = nI 2
  · rw [if_pos q]; exact kd_in q (by decide)
  · rw [if_neg q]; exact ha
theorem pCol_pos {a : Nat} (ha : a ≤ T.length) : (pCol T a).1 ≤ T.length := by
  unfold pCol
  by_cases q : kd T a = nI 2
  · have := kd_in q (by decide)
    rw [if_pos q]
    by_cases q1 : kd T (a + 1) = nI 211
    · rw [if_pos q1]; exact kd_in q1 (by decide)
    · rw [if_neg q1]
      by_cases q2 : kd T (a + 1) = nI 212
      · rw [if_pos q2]; exact kd_in q2 (by decide)
      · rw [if_neg q2]; exact this
  · rw [if_neg q]; exact ha
theorem pVal_pos {a : Nat} (ha : a ≤ T.length) : (pVal T a).1 ≤ T.length := by
  unfold pVal
  by_cases q : kd T a = nI 45
  · have := kd_in q (by decide)
    rw [if_pos q]
    by_cases q1 : kd T (a + 1) = nI 3
    · rw [if_pos q1]; exact kd_in q1 (by decide)
    · rw [if_neg q1]; exact this
  · rw [if_neg q]
    by_cases q1 : kd T a = nI 3
    · rw [if_pos q1]; exact kd_in q1 (by decide)
    · rw [if_neg q1]
      by_cases q2 : kd T a = nI 4
      · rw [if_pos q2]; exact kd_in q2 (by decide)
      · rw [if_neg q2]
        by_cases q3 : kd T a = nI 213
        · rw [if_pos q3]; exact kd_in q3 (by decide)
        · rw [if_neg q3]; exact ha
theorem pPs_pos {α : Type} {f : Nat → Nat × Option α} (hf : ∀ a, a ≤ T.length → (f a).1 ≤ T.length) : ∀ m a, a ≤ T.length → (pPs T f m a).1 ≤ T.length := by
  intro m
  induction m with
  | zero => intro a ha; exact ha
  | succ m ih =>
    intro a ha
    rw [pPs]
    refine pb_fst (hf a ha) (fun y _ => ?_)
    by_cases q : ¬ m = 0 ∧ kd T (f a).1 = nI 44
    · rw [if_pos q]
      have := ih ((f a).1 + 1) (kd_in q.2 (by decide))
      exact pb_fst this (fun _ _ => this)
    · rw [if_neg q]; exact hf a ha
theorem pGr_pos {a : Nat} (ha : a ≤ T.length) : (pGr T a).1 ≤ T.length := by
  unfold pGr
  by_cases q : kd T a = nI 208
  · rw [if_pos q]; exact (pPl_pos (kd_in q (by decide))).2
  · rw [if_neg q]; exact ha
theorem pOr_pos {a : Nat} (ha : a ≤ T.length) : (pOr T a).1 ≤ T.length := by
  unfold pOr
  by_cases q : kd T a = nI 209
  · have := kd_in q (by decide)
    rw [if_pos q]
    by_cases q1 : kd T (a + 1) = nI 3
    · have := kd_in q1 (by decide)
      rw [if_pos q1]
      by_cases q2 : kd T (a + 1 + 1) = nI 210
      · rw [if_pos q2]; exact kd_in q2 (by decide)
      · rw [if_neg q2]; exact this
    · rw [if_neg q1]; exact this
  · rw [if_neg q]; exact ha
theorem pCm_pos {a : Nat} (ha : a ≤ T.length) : (pCm T a).1 ≤ T.length := by
  unfold pCm
  by_cases q : kd T a = nI 44
  · rw [if_pos q]
    have := pn_pos (T := T) (a := a + 1) (kd_in q (by decide))
    exact pb_fst this (fun _ _ => this)
  · rw [if_neg q]; exact ha
theorem sCr_pos (h1 : 1 ≤ T.length) : (sCr T).1 ≤ T.length := by
  unfold sCr
  have a1 := pn_pos (T := T) h1
  refine pb_fst a1 (fun _ _ => ?_)
  have a2 := pk_pos (T := T) (k := 40) a1 (by decide)
  refine pb_fst a2 (fun _ _ => ?_)
  have a3 := pPs_pos (T := T) (f := pCol T) (fun a ha => pCol_pos ha) 4 _ a2
  refine pb_fst a3 (fun _ _ => ?_)
  have a4 := pk_pos (T := T) (k := 41) a3 (by decide)
  exact pb_fst a4 (fun _ _ => a4)
theorem sIn_pos (h1 : 1 ≤ T.length) : (sIn T).1 ≤ T.length := by
  unfold sIn
  have a1 := pn_pos (T := T) h1
  refine pb_fst a1 (fun _ _ => ?_)
  have a2 := pk_pos (T := T) (k := 40) a1 (by decide)
  refine pb_fst a2 (fun _ _ => ?_)
  have a3 := pPs_pos (T := T) (f := pVal T) (fun a ha => pVal_pos ha) 4 _ a2
  refine pb_fst a3 (fun _ _ => ?_)
  have a4 := pk_pos (T := T) (k := 41) a3 (by decide)
  exact pb_fst a4 (fun _ _ => a4)
theorem sDe_pos (h1 : 1 ≤ T.length) (hT : T.length ≤ 200) : (sDe T).1 ≤ T.length := by
  unfold sDe
  have a1 := pn_pos (T := T) h1
  refine pb_fst a1 (fun _ _ => ?_)
  have a2 := pWh_pos (T := T) a1 hT
  exact pb_fst a2 (fun _ _ => a2)
theorem sUp_pos (h1 : 1 ≤ T.length) (hT : T.length ≤ 200) : (sUp T).1 ≤ T.length := by
  unfold sUp
  have a1 := pn_pos (T := T) h1
  refine pb_fst a1 (fun _ _ => ?_)
  have a2 := pk_pos (T := T) (k := 204) a1 (by decide)
  refine pb_fst a2 (fun _ _ => ?_)
  have a3 : (pAs T (pk T (nI 204) (pn T 1).1).1).1 ≤ T.length := by
    unfold pAs
    have b1 := pn_pos (T := T) a2
    refine pb_fst b1 (fun _ _ => ?_)
    have b2 := pk_pos (T := T) (k := 61) b1 (by decide)
    refine pb_fst b2 (fun _ _ => ?_)
    have b3 := (pX_pos (T := T) b2 hT).2
    exact pb_fst b3 (fun _ _ => b3)
  refine pb_fst a3 (fun _ _ => ?_)
  have a4 := pWh_pos (T := T) a3 hT
  exact pb_fst a4 (fun _ _ => a4)
theorem sSe_pos (h1 : 1 ≤ T.length) (hT : T.length ≤ 200) : (sSe T).1 ≤ T.length := by
  unfold sSe
  have a0 := pPs_pos (T := T) (f := pIt T) (fun a ha => pIt_pos ha hT) 4 1 h1
  refine pb_fst a0 (fun _ _ => ?_)
  have a1 := pk_pos (T := T) (k := 206) a0 (by decide)
  refine pb_fst a1 (fun _ _ => ?_)
  have a2 := pn_pos (T := T) a1
  refine pb_fst a2 (fun _ _ => ?_)
  have a3 := pCm_pos (T := T) a2
  refine pb_fst a3 (fun _ _ => ?_)
  have a4 := pWh_pos (T := T) a3 hT
  refine pb_fst a4 (fun _ _ => ?_)
  have a5 := pGr_pos (T := T) a4
  refine pb_fst a5 (fun _ _ => ?_)
  have a6 := pOr_pos (T := T) a5
  exact pb_fst a6 (fun _ _ => a6)
end
