-- deps: 369
-- the model: what statements come to
theorem V_mono {M : MD} {h pc : Nat} {L : LVs} {st : List AV} {S : ST} {Q Q2 : Option AV → ST → Prop} (hV : V M h pc L st S Q) (hq : ∀ r S', Q r S' → Q2 r S') : V M h pc L st S Q2 := by
  intro p l e R s m args below meth c D ad cA hG H locs ls h1 h2 h3 T hT hS
  obtain ⟨t, hs, o, a1, a2, ⟨r, S', e1, e2, e3⟩, a4⟩ := hV p l e R s m args below meth c D ad cA hG H locs ls h1 h2 h3 T hT hS
  exact ⟨t, hs, o, a1, a2, ⟨r, S', e1, hq _ _ e2, e3⟩, a4⟩
def FrR (S S' : ST) : Prop := AG pkM S S' ∧ gi S' 11 30 0 = gi S 11 30 0 ∧ gi S' 11 31 0 = gi S 11 31 0 ∧ ga S' 60 0 = ga S 60 0 ∧ gy S' 61 0 = gy S 61 0
theorem FrR_of {S S' : ST} (h : FrM S S') : FrR S S' := ⟨h.1, h.2.2⟩
theorem FrR_t {S N M : ST} (h : FrR S N) (h' : FrR N M) : FrR S M := ⟨AG_trans h.1 h'.1, h'.2.1.trans h.2.1, h'.2.2.1.trans h.2.2.1, h'.2.2.2.1.trans h.2.2.2.1, h'.2.2.2.2.trans h.2.2.2.2⟩
theorem FrR_kS {S N : ST} (a : Nat) (w : Int32) (o c : Nat) (K : KA) (h : FrR S N) : FrR S (kS N a w o c K) := by
  refine FrR_t h ⟨?_, ?_⟩
  · unfold kS
    exact AG_si (AG_si (AG_si (AG_si (AG_sb (AG_sb (AG_sa (AG_sa (AG_sa AG_refl rfl) rfl) rfl) rfl) rfl) rfl) rfl) rfl) rfl
  · simp only [kS, gi_si, gi_sl, gi_sz, gi_sr, gi_sa, gi_sb, gi_sy, gl_si, gl_sl, gl_sz, gl_sr, gl_sa, gl_sb, gl_sy, gz_si, gz_sl, gz_sz, gz_sr, gz_sa, gz_sb, gz_sy, gr_si, gr_sl, gr_sz, gr_sr, gr_sa, gr_sb, gr_sy, ga_si, ga_sl, ga_sz, ga_sr, ga_sa, ga_sb, ga_sy, gb_si, gb_sl, gb_sz, gb_sr, gb_sa, gb_sb, gb_sy, gy_si, gy_sl, gy_sz, gy_sr, gy_sa, gy_sb, gy_sy, reduceIte, Nat.reduceEqDiff, and_true, true_and, and_self, false_and, and_false, and_self]
/-- a statement that was read: its answer, what it leaves -/
def AcR (S : ST) (o : OUT) (r : Option AV) (S' : ST) : Prop := ∃ n f : Int32, r = some (vI n) ∧ gi S' 11 6 0 = -1 ∧ gi S' 11 28 0 = f ∧ (if f = nI 0 then n else f) = o.1 ∧ AG pkM S S' ∧ AbsM S' o.2.1 ∧ ResM S S' o.2.2
/-- one that could not be read -/
def AcB (S : ST) (d : DB) (p : Nat) (r : Option AV) (S' : ST) : Prop := ∃ n : Int32, r = some (vI n) ∧ gi S' 11 6 0 = nI p ∧ FrR S S' ∧ AbsM S' d
def AcQ {α : Type} (S : ST) (T : WL) (d : DB) (x : Nat × Option α) (F : α → OUT) (r : Option AV) (S' : ST) : Prop := (badP T x ∧ AcB S d x.1 r S') ∨ ∃ y, x.2 = some y ∧ kd T x.1 = nI 0 ∧ AcR S (F y) r S'
theorem AcR_of {S C : ST} {o : OUT} {r : Option AV} {S' : ST} (hF : FrR S C) (h6 : gi C 11 6 0 = -1) (h : StQ C o r S') : AcR S o r S' := by
  obtain ⟨n, f, h1, h2, h3, h4, h5, h7, h8⟩ := h
  refine ⟨n, f, h1, h5.trans h6, h2, h3, AG_trans hF.1 h4, h7, ?_⟩
  obtain ⟨o1, o2, o3⟩ := o
  cases o3 with
  | none =>
    have h8 : gi S' 11 30 0 = gi C 11 30 0 ∧ gi S' 11 31 0 = gi C 11 31 0 ∧ ga S' 60 0 = ga C 60 0 ∧ gy S' 61 0 = gy C 61 0 := h8
    exact ⟨h8.1.trans hF.2.1, h8.2.1.trans hF.2.2.1, h8.2.2.1.trans hF.2.2.2.1, h8.2.2.2.trans hF.2.2.2.2⟩
  | some s => exact h8
theorem kOf_kS (S : ST) (a : Nat) (w : Int32) (o c : Nat) (K : KA) : kOf (kS S a w o c K) = K := by simp only [kOf, kS, gi_si, gi_sl, gi_sz, gi_sr, gi_sa, gi_sb, gi_sy, gl_si, gl_sl, gl_sz, gl_sr, gl_sa, gl_sb, gl_sy, gz_si, gz_sl, gz_sz, gz_sr, gz_sa, gz_sb, gz_sy, gr_si, gr_sl, gr_sz, gr_sr, gr_sa, gr_sb, gr_sy, ga_si, ga_sl, ga_sz, ga_sr, ga_sa, ga_sb, ga_sy, gb_si, gb_sl, gb_sz, gb_sr, gb_sa, gb_sb, gb_sy, gy_si, gy_sl, gy_sz, gy_sr, gy_sa, gy_sb, gy_sy, reduceIte, Nat.reduceEqDiff, and_true, true_and, and_self, false_and, and_false]
theorem nm1_57 (S : ST) (v : Int64) : gb (nm1 S v) 57 0 0 = v := by simp only [nm1, gi_si, gi_sl, gi_sz, gi_sr, gi_sa, gi_sb, gi_sy, gl_si, gl_sl, gl_sz, gl_sr, gl_sa, gl_sb, gl_sy, gz_si, gz_sl, gz_sz, gz_sr, gz_sa, gz_sb, gz_sy, gr_si, gr_sl, gr_sz, gr_sr, gr_sa, gr_sb, gr_sy, ga_si, ga_sl, ga_sz, ga_sr, ga_sa, ga_sb, ga_sy, gb_si, gb_sl, gb_sz, gb_sr, gb_sa, gb_sb, gb_sy, gy_si, gy_sl, gy_sz, gy_sr, gy_sa, gy_sb, gy_sy, reduceIte, Nat.reduceEqDiff, and_true, true_and, and_self, false_and, and_false]; simp [up1]
section
variable (h : Nat) (S : ST) (T : WL) (d : DB) (K : KA) (hT : MT S T) (h1 : 1 ≤ T.length) (hA : AbsM S d) (hW : DbW d) (h28 : gi S 11 28 0 = nI 0)
theorem bad_kS {α : Type} {x : Nat × Option α} {F : α → OUT} {N : ST} (hA : AbsM S d) (hb : badP T x) (hN : SeB S N) (b c : Nat) (K : KA) : AcQ S T d x F (some (vI (nI 0))) (kS N b (nI x.1) 0 c K) := Or.inl ⟨hb, nI 0, rfl, by simp only [kS, gi_si, gi_sl, gi_sz, gi_sr, gi_sa, gi_sb, gi_sy, gl_si, gl_sl, gl_sz, gl_sr, gl_sa, gl_sb, gl_sy, gz_si, gz_sl, gz_sz, gz_sr, gz_sa, gz_sb, gz_sy, gr_si, gr_sl, gr_sz, gr_sr, gr_sa, gr_sb, gr_sy, ga_si, ga_sl, ga_sz, ga_sr, ga_sa, ga_sb, ga_sy, gb_si, gb_sl, gb_sz, gb_sr, gb_sa, gb_sb, gb_sy, gy_si, gy_sl, gy_sz, gy_sr, gy_sa, gy_sb, gy_sy, reduceIte, Nat.reduceEqDiff, and_true, true_and, and_self, false_and, and_false], FrR_kS _ _ _ _ _ (FrR_of hN.1), AbsM_k _ _ _ _ _ (hN.2.1 d hA)⟩
theorem m_deA (hT : MT S T) (h1 : 1 ≤ T.length) (hA : AbsM S d) (hW : DbW d) (h28 : gi S 11 28 0 = nI 0) : Ct MX11_delete (h + 230) [vR 11 0] (kS S 1 (-1) 0 0 K) (AcQ S T d (sDe T) (aDe T d)) := by
  have hl := hT.2.2
  refine m_delete h S T K hT h1 _ (fun hb v K' b c' => bad_kS S T d hA hb (SeB_nm1 S v) b c' K') ?_
  intro y a v K' c' k e q0 ha hn hc' hcn
  have hle := sDe_le hl h1 (by rw [e])
  obtain ⟨C, hC⟩ : ∃ C, C = kS (nm1 S v) a (-1) 0 c' K' := ⟨_, rfl⟩
  have := m_deE h C d T y.1 y.2 k (by rw [hC]; exact AbsM_k _ _ _ _ _ (AbsM_nm1 v hA)) hW hl (by rw [hC, kS_28]; simp only [nm1, gi_si, gi_sl, gi_sz, gi_sr, gi_sa, gi_sb, gi_sy, gl_si, gl_sl, gl_sz, gl_sr, gl_sa, gl_sb, gl_sy, gz_si, gz_sl, gz_sz, gz_sr, gz_sa, gz_sb, gz_sy, gr_si, gr_sl, gr_sz, gr_sr, gr_sa, gr_sb, gr_sy, ga_si, ga_sl, ga_sz, ga_sr, ga_sa, ga_sb, ga_sy, gb_si, gb_sl, gb_sz, gb_sr, gb_sa, gb_sb, gb_sy, gy_si, gy_sl, gy_sz, gy_sr, gy_sa, gy_sb, gy_sy, reduceIte, Nat.reduceEqDiff, and_true, true_and, and_self, false_and, and_false]; exact h28) (by rw [hC]; simp only [kS, nm1, gi_si, gi_sl, gi_sz, gi_sr, gi_sa, gi_sb, gi_sy, gl_si, gl_sl, gl_sz, gl_sr, gl_sa, gl_sb, gl_sy, gz_si, gz_sl, gz_sz, gz_sr, gz_sa, gz_sb, gz_sy, gr_si, gr_sl, gr_sz, gr_sr, gr_sa, gr_sb, gr_sy, ga_si, ga_sl, ga_sz, ga_sr, ga_sa, ga_sb, ga_sy, gb_si, gb_sl, gb_sz, gb_sr, gb_sa, gb_sb, gb_sy, gy_si, gy_sl, gy_sz, gy_sr, gy_sa, gy_sb, gy_sy, reduceIte, Nat.reduceEqDiff, and_true, true_and, and_self, false_and, and_false]) (by rw [hC, show gb (kS (nm1 S v) a (-1) 0 c' K') 57 0 = gb (nm1 S v) 57 0 by simp only [kS, gi_si, gi_sl, gi_sz, gi_sr, gi_sa, gi_sb, gi_sy, gl_si, gl_sl, gl_sz, gl_sr, gl_sa, gl_sb, gl_sy, gz_si, gz_sl, gz_sz, gz_sr, gz_sa, gz_sb, gz_sy, gr_si, gr_sl, gr_sz, gr_sr, gr_sa, gr_sb, gr_sy, ga_si, ga_sl, ga_sz, ga_sr, ga_sa, ga_sb, ga_sy, gb_si, gb_sl, gb_sz, gb_sr, gb_sa, gb_sb, gb_sy, gy_si, gy_sl, gy_sz, gy_sr, gy_sa, gy_sb, gy_sy, reduceIte, Nat.reduceEqDiff, and_true, true_and, and_self, false_and, and_false], nm1_57]; exact hn) (by rw [hC, kOf_kS]; exact cnK_le hcn (by omega) (by omega)) (fun x hx => by rw [hx] at hle; simp only [Option.getD_some] at hle; omega)
  rw [← hC]
  refine V_mono this (fun r S' hq => Or.inr ⟨y, by rw [e], by rw [e]; exact q0, ?_⟩)
  exact AcR_of (by rw [hC]; exact FrR_kS _ _ _ _ _ (FrR_of (SeB_nm1 S v).1)) (by rw [hC]; exact kS_wr ..) hq
theorem m_upA (hT : MT S T) (h1 : 1 ≤ T.length) (hA : AbsM S d) (hW : DbW d) (h28 : gi S 11 28 0 = nI 0) : Ct MX11_update (h + 230) [vR 11 0] (kS S 1 (-1) 0 0 K) (AcQ S T d (sUp T) (aUp T d)) := by
  have hl := hT.2.2
  refine m_update h S T K hT h1 _ (fun hb v K' b c' => bad_kS S T d hA hb (SeB_nm1 S v) b c' K') ?_
  intro y a v K' c' k4 k5 l e q0 ha hn hc' hU
  have hle := sUp_le hl h1 (by rw [e])
  obtain ⟨C, hC⟩ : ∃ C, C = kS (nm1 S v) a (-1) 0 c' K' := ⟨_, rfl⟩
  obtain ⟨x, ⟨cn, sg⟩, c⟩ := y
  have hle : sg.length + (c.getD []).length + 1 ≤ T.length ∧ _ := hle
  have := m_upE h C d T x cn sg c k4 k5 l (by rw [hC]; exact AbsM_k _ _ _ _ _ (AbsM_nm1 v hA)) hW hl (by rw [hC, kS_28]; simp only [nm1, gi_si, gi_sl, gi_sz, gi_sr, gi_sa, gi_sb, gi_sy, gl_si, gl_sl, gl_sz, gl_sr, gl_sa, gl_sb, gl_sy, gz_si, gz_sl, gz_sz, gz_sr, gz_sa, gz_sb, gz_sy, gr_si, gr_sl, gr_sz, gr_sr, gr_sa, gr_sb, gr_sy, ga_si, ga_sl, ga_sz, ga_sr, ga_sa, ga_sb, ga_sy, gb_si, gb_sl, gb_sz, gb_sr, gb_sa, gb_sb, gb_sy, gy_si, gy_sl, gy_sz, gy_sr, gy_sa, gy_sb, gy_sy, reduceIte, Nat.reduceEqDiff, and_true, true_and, and_self, false_and, and_false]; exact h28) (by rw [hC]; simp only [kS, nm1, gi_si, gi_sl, gi_sz, gi_sr, gi_sa, gi_sb, gi_sy, gl_si, gl_sl, gl_sz, gl_sr, gl_sa, gl_sb, gl_sy, gz_si, gz_sl, gz_sz, gz_sr, gz_sa, gz_sb, gz_sy, gr_si, gr_sl, gr_sz, gr_sr, gr_sa, gr_sb, gr_sy, ga_si, ga_sl, ga_sz, ga_sr, ga_sa, ga_sb, ga_sy, gb_si, gb_sl, gb_sz, gb_sr, gb_sa, gb_sb, gb_sy, gy_si, gy_sl, gy_sz, gy_sr, gy_sa, gy_sb, gy_sy, reduceIte, Nat.reduceEqDiff, and_true, true_and, and_self, false_and, and_false]) (by rw [hC, show gb (kS (nm1 S v) a (-1) 0 c' K') 57 0 = gb (nm1 S v) 57 0 by simp only [kS, gi_si, gi_sl, gi_sz, gi_sr, gi_sa, gi_sb, gi_sy, gl_si, gl_sl, gl_sz, gl_sr, gl_sa, gl_sb, gl_sy, gz_si, gz_sl, gz_sz, gz_sr, gz_sa, gz_sb, gz_sy, gr_si, gr_sl, gr_sz, gr_sr, gr_sa, gr_sb, gr_sy, ga_si, ga_sl, ga_sz, ga_sr, ga_sa, ga_sb, ga_sy, gb_si, gb_sl, gb_sz, gb_sr, gb_sa, gb_sb, gb_sy, gy_si, gy_sl, gy_sz, gy_sr, gy_sa, gy_sb, gy_sy, reduceIte, Nat.reduceEqDiff, and_true, true_and, and_self, false_and, and_false], nm1_57]; exact hn) (by rw [hC, kOf_kS]; exact ⟨hU.1, hU.2.1, by have := hU.2.2.1; omega, hU.2.2.2.1, cnK_le hU.2.2.2.2 (by omega) (by omega)⟩) (by omega) (fun x hx => by rw [hx] at hle; simp only [Option.getD_some] at hle; omega)
  rw [← hC]
  refine V_mono this (fun r S' hq => Or.inr ⟨(x, (cn, sg), c), by rw [e], by rw [e]; exact q0, ?_⟩)
  exact AcR_of (by rw [hC]; exact FrR_kS _ _ _ _ _ (FrR_of (SeB_nm1 S v).1)) (by rw [hC]; exact kS_wr ..) hq
theorem flt_le {its : IL} {j : Nat} (hj : j < its.length) : (its.getD j (-1, [])).2.length ≤ (flt its).length := by
  induction its generalizing j with
  | nil => simp at hj
  | cons y l ih =>
    have e : (flt (y :: l)).length = y.2.length + (flt l).length := by simp [flt]
    rw [e]
    cases j with
    | zero => simp
    | succ j =>
      have := ih (j := j) (by simpa using hj)
      simp only [List.getD_cons_succ]
      omega
theorem m_seA (hT : MT S T) (h1 : 1 ≤ T.length) (hA : AbsM S d) (hW : DbW d) (h28 : gi S 11 28 0 = nI 0) : Ct MX11_select (h + 230) [vR 11 0] (kS S 1 (-1) 0 0 K) (AcQ S T d (sSe T) (aSe (arS S) T d)) := by
  have hl := hT.2.2
  refine m_select h S T K hT h1 _ (fun hb N K' b c' hN => bad_kS S T d hA hb hN b c' K') ?_
  intro y a N K' c' k4 k5 l w e q0 ha hN hc' hS
  obtain ⟨s1, s2, s3, s4, s5, s6, s7, s8, s9⟩ := hS
  obtain ⟨hle, hItR, _, hgw⟩ := sSe_le hl h1 (by rw [e])
  obtain ⟨C, hC⟩ : ∃ C, C = kS N a (-1) 0 c' K' := ⟨_, rfl⟩
  have hik : ∀ i, ∃ k, i < y.1.length → ga N 66 0 i = nI k ∧ k < c' ∧ rI T K' k (y.1.getD i (-1, [])) := by
    intro i
    by_cases q : i < y.1.length
    · obtain ⟨k, hk⟩ := s1 i q
      exact ⟨k, fun _ => hk⟩
    · exact ⟨0, fun z => absurd z q⟩
  obtain ⟨ik, hik⟩ := Classical.axiomOfChoice hik
  have g66 : ga C 66 0 = ga N 66 0 := by rw [hC]; simp only [kS, gi_si, gi_sl, gi_sz, gi_sr, gi_sa, gi_sb, gi_sy, gl_si, gl_sl, gl_sz, gl_sr, gl_sa, gl_sb, gl_sy, gz_si, gz_sl, gz_sz, gz_sr, gz_sa, gz_sb, gz_sy, gr_si, gr_sl, gr_sz, gr_sr, gr_sa, gr_sb, gr_sy, ga_si, ga_sl, ga_sz, ga_sr, ga_sa, ga_sb, ga_sy, gb_si, gb_sl, gb_sz, gb_sr, gb_sa, gb_sb, gb_sy, gy_si, gy_sl, gy_sz, gy_sr, gy_sa, gy_sb, gy_sy, reduceIte, Nat.reduceEqDiff, and_true, true_and, and_self, false_and, and_false]
  have g40 : gi C 11 40 0 = gi N 11 40 0 := by rw [hC]; simp only [kS, gi_si, gi_sl, gi_sz, gi_sr, gi_sa, gi_sb, gi_sy, gl_si, gl_sl, gl_sz, gl_sr, gl_sa, gl_sb, gl_sy, gz_si, gz_sl, gz_sz, gz_sr, gz_sa, gz_sb, gz_sy, gr_si, gr_sl, gr_sz, gr_sr, gr_sa, gr_sb, gr_sy, ga_si, ga_sl, ga_sz, ga_sr, ga_sa, ga_sb, ga_sy, gb_si, gb_sl, gb_sz, gb_sr, gb_sa, gb_sb, gb_sy, gy_si, gy_sl, gy_sz, gy_sr, gy_sa, gy_sb, gy_sy, reduceIte, Nat.reduceEqDiff, and_true, true_and, and_self, false_and, and_false]
  have g24 : gi C 11 24 0 = gi N 11 24 0 := by rw [hC]; simp only [kS, gi_si, gi_sl, gi_sz, gi_sr, gi_sa, gi_sb, gi_sy, gl_si, gl_sl, gl_sz, gl_sr, gl_sa, gl_sb, gl_sy, gz_si, gz_sl, gz_sz, gz_sr, gz_sa, gz_sb, gz_sy, gr_si, gr_sl, gr_sz, gr_sr, gr_sa, gr_sb, gr_sy, ga_si, ga_sl, ga_sz, ga_sr, ga_sa, ga_sb, ga_sy, gb_si, gb_sl, gb_sz, gb_sr, gb_sa, gb_sb, gb_sy, gy_si, gy_sl, gy_sz, gy_sr, gy_sa, gy_sb, gy_sy, reduceIte, Nat.reduceEqDiff, and_true, true_and, and_self, false_and, and_false]
  have g57 : gb C 57 0 = gb N 57 0 := by rw [hC]; simp only [kS, gi_si, gi_sl, gi_sz, gi_sr, gi_sa, gi_sb, gi_sy, gl_si, gl_sl, gl_sz, gl_sr, gl_sa, gl_sb, gl_sy, gz_si, gz_sl, gz_sz, gz_sr, gz_sa, gz_sb, gz_sy, gr_si, gr_sl, gr_sz, gr_sr, gr_sa, gr_sb, gr_sy, ga_si, ga_sl, ga_sz, ga_sr, ga_sa, ga_sb, ga_sy, gb_si, gb_sl, gb_sz, gb_sr, gb_sa, gb_sb, gb_sy, gy_si, gy_sl, gy_sz, gy_sr, gy_sa, gy_sb, gy_sy, reduceIte, Nat.reduceEqDiff, and_true, true_and, and_self, false_and, and_false]
  have gK : kOf C = K' := by rw [hC]; exact kOf_kS ..
  have hAr : arS C = arS S := by
    have hN4 := hN.2.2.2
    rw [hC]
    exact (arS_c (by simp only [kS, gi_si, gi_sl, gi_sz, gi_sr, gi_sa, gi_sb, gi_sy, gl_si, gl_sl, gl_sz, gl_sr, gl_sa, gl_sb, gl_sy, gz_si, gz_sl, gz_sz, gz_sr, gz_sa, gz_sb, gz_sy, gr_si, gr_sl, gr_sz, gr_sr, gr_sa, gr_sb, gr_sy, ga_si, ga_sl, ga_sz, ga_sr, ga_sa, ga_sb, ga_sy, gb_si, gb_sl, gb_sz, gb_sr, gb_sa, gb_sb, gb_sy, gy_si, gy_sl, gy_sz, gy_sr, gy_sa, gy_sb, gy_sy, reduceIte, Nat.reduceEqDiff, and_true, true_and, and_self, false_and, and_false]) (by simp only [kS, gi_si, gi_sl, gi_sz, gi_sr, gi_sa, gi_sb, gi_sy, gl_si, gl_sl, gl_sz, gl_sr, gl_sa, gl_sb, gl_sy, gz_si, gz_sl, gz_sz, gz_sr, gz_sa, gz_sb, gz_sy, gr_si, gr_sl, gr_sz, gr_sr, gr_sa, gr_sb, gr_sy, ga_si, ga_sl, ga_sz, ga_sr, ga_sa, ga_sb, ga_sy, gb_si, gb_sl, gb_sz, gb_sr, gb_sa, gb_sb, gb_sy, gy_si, gy_sl, gy_sz, gy_sr, gy_sa, gy_sb, gy_sy, reduceIte, Nat.reduceEqDiff, and_true, true_and, and_self, false_and, and_false]) (by simp only [kS, gi_si, gi_sl, gi_sz, gi_sr, gi_sa, gi_sb, gi_sy, gl_si, gl_sl, gl_sz, gl_sr, gl_sa, gl_sb, gl_sy, gz_si, gz_sl, gz_sz, gz_sr, gz_sa, gz_sb, gz_sy, gr_si, gr_sl, gr_sz, gr_sr, gr_sa, gr_sb, gr_sy, ga_si, ga_sl, ga_sz, ga_sr, ga_sa, ga_sb, ga_sy, gb_si, gb_sl, gb_sz, gb_sr, gb_sa, gb_sb, gb_sy, gy_si, gy_sl, gy_sz, gy_sr, gy_sa, gy_sb, gy_sy, reduceIte, Nat.reduceEqDiff, and_true, true_and, and_self, false_and, and_false]) (by simp only [kS, gi_si, gi_sl, gi_sz, gi_sr, gi_sa, gi_sb, gi_sy, gl_si, gl_sl, gl_sz, gl_sr, gl_sa, gl_sb, gl_sy, gz_si, gz_sl, gz_sz, gz_sr, gz_sa, gz_sb, gz_sy, gr_si, gr_sl, gr_sz, gr_sr, gr_sa, gr_sb, gr_sy, ga_si, ga_sl, ga_sz, ga_sr, ga_sa, ga_sb, ga_sy, gb_si, gb_sl, gb_sz, gb_sr, gb_sa, gb_sb, gb_sy, gy_si, gy_sl, gy_sz, gy_sr, gy_sa, gy_sb, gy_sy, reduceIte, Nat.reduceEqDiff, and_true, true_and, and_self, false_and, and_false])).trans (arS_c hN4.1 hN4.2.1 hN4.2.2.1 hN4.2.2.2)
  have := m_seE h C d T y ik k4 k5 l w (by rw [hC]; exact AbsM_k _ _ _ _ _ (hN.2.1 d hA)) hW hl (by rw [hC, kS_28, hN.2.2.1]; exact h28) ⟨by rw [g40]; exact s2, s3, fun i hi => ⟨by rw [g66]; exact (hik i hi).1, by have := (hik i hi).2.1; omega, by rw [gK]; exact (hik i hi).2.2, by have := flt_le hi; omega⟩⟩ (by rw [g57]; exact s4) (by rw [g24]; exact s5) (fun x hx => by rw [g57]; exact s6 x hx) (by rw [gK]; exact cnK_le s7 (by omega) (by omega)) (fun x hx => by rw [hx] at hle; simp only [Option.getD_some] at hle; omega) (by rw [gK]; exact GpK_le s8 (by omega) (by omega)) hgw s9 (fun z hz => (hItR.2.2 z hz).2)
  rw [hAr] at this
  rw [← hC]
  refine V_mono this (fun r S' hq => Or.inr ⟨y, by rw [e], by rw [e]; exact q0, ?_⟩)
  exact AcR_of (by rw [hC]; exact FrR_kS _ _ _ _ _ (FrR_of hN.1)) (by rw [hC]; exact kS_wr ..) hq
end
