-- deps: 318
-- the model: check and wants for all knots
section
variable (S : ST) (d : DB) (T : WL) (nm : Nat → Int32) (no : Nat → Nat) (tc : Nat)
theorem m_check_x (hE : CE S d T nm no tc) : ∀ f k x, k < 220 → x.length ≤ 200 → RX T (kOf S) f k x → ∃ fl x' τ hg, TX (plc d T nm no tc) (tyF d no) (kkF d no tc) x fl x' τ hg ∧ (∀ h z O, Ct MX11_check (h + (f + 1)) [vR 11 0, vI (nI k)] (eS (pO S O) (nI 0) z) (CkQ S z O (FO (kOf S) T (plc d T nm no tc)) fl (tyM τ) (fun O'' => RY (kOf S) O'' tc f k x'))) ∧ ∀ h O f' z, Ct MX11_wants (h + f) [vR 11 0, vI (nI k)] (eS (pO S O) f' z) (fun r S' => r = some (vI (nI hg)) ∧ S' = eS (pO S O) f' z) := by
  intro f
  induction f with
  | zero => intro k x _ _ h; exact h.elim
  | succ f ih =>
    intro k x hk hx hR
    have g44 : ∀ O f' z, ga (eS (pO S O) f' z) 44 0 k = (kOf S).2.1 k := fun O f' z => by rw [eS_ga, pO_ga44]; rfl
    have g45 : ∀ O f' z, ga (eS (pO S O) f' z) 45 0 k = (kOf S).2.2.1 k := fun O f' z => by rw [eS_ga, pO_ga45]; rfl
    have hT : ∀ O O' O'', FO (kOf S) T (plc d T nm no tc) O O' → FO (kOf S) T (plc d T nm no tc) O' O'' → FO (kOf S) T (plc d T nm no tc) O O'' := fun O O' O'' a b => FO_t a b
    have leaf : RX T (kOf S) 1 k x → (kOf S).2.1 k = -1 → ∃ fl x' τ hg, TX (plc d T nm no tc) (tyF d no) (kkF d no tc) x fl x' τ hg ∧ (∀ h z O, Ct MX11_check (h + (f + 1 + 1)) [vR 11 0, vI (nI k)] (eS (pO S O) (nI 0) z) (CkQ S z O (FO (kOf S) T (plc d T nm no tc)) fl (tyM τ) (fun O'' => RY (kOf S) O'' tc (f + 1) k x'))) ∧ ∀ h O f' z, Ct MX11_wants (h + (f + 1)) [vR 11 0, vI (nI k)] (eS (pO S O) f' z) (fun r S' => r = some (vI (nI hg)) ∧ S' = eS (pO S O) f' z) := by
      intro hL hl
      obtain ⟨fl, x', τ, h1, h2⟩ := m_ck_leaf S d T nm no tc hE k x hk hL
      exact ⟨fl, x', τ, 1, h1, fun h z O => h2 (h + f) z O f, fun h O f' z => m_wants_1 _ k hk ((g44 O f' z).trans hl) _⟩
    rcases hR with hR | hR | hR | hR | ⟨y, l, h1, h2, rfl, h4⟩ | ⟨y, z, l, r, o, m, h1, h2, h3, h4, rfl, h6⟩
    · obtain ⟨y, a1, a2, a3⟩ := hR
      exact leaf (Or.inl ⟨y, a1, a2, a3⟩) a2.2.1
    · obtain ⟨y, a1, a2, a3⟩ := hR
      exact leaf (Or.inr (Or.inl ⟨y, a1, a2, a3⟩)) a2.2.1
    · exact leaf (Or.inr (Or.inr (Or.inl hR))) hR.2.2.1
    · obtain ⟨p, a1, a2, a3, a4, a5⟩ := hR
      exact leaf (Or.inr (Or.inr (Or.inr (Or.inl ⟨p, a1, a2, a3, a4, a5⟩)))) a4.2.1
    · rw [List.length_append] at hx
      obtain ⟨fl, x', τ, hg, b1, b2, b3⟩ := ih l y (by omega) (by omega) h1
      have hu := TX_un (o := 6) (Or.inl rfl) b1
      refine ⟨_, _, _, _, hu, fun h z O => ?_, fun h O f' z => ?_⟩
      · have := m_ckU_60 S _ (h + f) k l fl (tyM τ) _ (fun O'' => RY (kOf S) O'' tc (f + 1) k (x' ++ [(nI 6, nI 0)])) hk h2 h4 (fun O hO => Or.inr (Or.inr (Or.inr (Or.inr (Or.inl ⟨x', l, hO, h2, rfl, h4⟩))))) (fun z O => b2 h z O) z O
        have e : uF 6 fl τ = (if fl = nI 0 then (if tyM τ = nI 1 ∨ nI 2 = nI 1 then -1002 else nI 0) else fl) := by
          simp only [uF, tyM_1, true_and, show ¬ nI 2 = nI 1 by decide, or_false]
        rw [e]
        exact this
      · exact m_wants_u _ k l hg hk h2 ((g44 O f' z).trans h4.2.1) ((g45 O f' z).trans h4.2.2) b1.2.1 (by have := b1.2.2.1; omega) _ (b3 h O f' z)
    · rw [List.length_append, List.length_append] at hx
      obtain ⟨fl, x1, τ1, hg1, b1, b2, b3⟩ := ih l y (by omega) (by omega) h1
      obtain ⟨fl2, x2, τ2, hg2, c1, c2, c3⟩ := ih r z (by omega) (by omega) h2
      have wb := fun h O f' z => m_wants_b (eS (pO S O) f' z) k l r hg1 hg2 hk h3 ((g44 O f' z).trans h6.2.1) ((g45 O f' z).trans h6.2.2) (by have := b1.2.2.1; have := c1.2.2.1; omega) (h + f) (b3 h O f' z) (c3 h O f' z)
      have h9 : (o = 7 ∧ m = 36) ∨ (o = 8 ∧ m = 37) ∨ (o = 9 ∧ m = 38) ∨ (o = 10 ∧ m = 39) := by simpa [aops] using h4
      have e : ∀ o, o ≤ 10 → bF o fl τ1 fl2 τ2 = (if fl = nI 0 then (if fl2 = nI 0 then (if tyM τ1 = nI 1 ∨ tyM τ2 = nI 1 then -1002 else nI 0) else fl2) else fl) := by
        intro o ho
        simp only [bF, tyM_1, ho, reduceIte]
      rcases h9 with ⟨rfl, rfl⟩ | ⟨rfl, rfl⟩ | ⟨rfl, rfl⟩ | ⟨rfl, rfl⟩
      · have hu := TX_bin (o := 7) (by omega) b1 c1
        refine ⟨_, _, _, _, hu, fun h z0 O => ?_, fun h O f' z => wb h O f' z⟩
        have := m_ckB_36 S _ (h + f) k l r fl fl2 (tyM τ1) (tyM τ2) _ _ (fun O'' => RY (kOf S) O'' tc (f + 1) k (x1 ++ x2 ++ [(nI 7, nI 0)])) hk h3 h6 (fun O hO hO2 => Or.inr (Or.inr (Or.inr (Or.inr (Or.inr ⟨x1, x2, l, r, 7, 36, hO, hO2, h3, h4, rfl, h6⟩))))) hT (fun z O => b2 h z O) (fun z O => c2 h z O) z0 O
        rw [e 7 (by decide)]
        exact this
      · have hu := TX_bin (o := 8) (by omega) b1 c1
        refine ⟨_, _, _, _, hu, fun h z0 O => ?_, fun h O f' z => wb h O f' z⟩
        have := m_ckB_37 S _ (h + f) k l r fl fl2 (tyM τ1) (tyM τ2) _ _ (fun O'' => RY (kOf S) O'' tc (f + 1) k (x1 ++ x2 ++ [(nI 8, nI 0)])) hk h3 h6 (fun O hO hO2 => Or.inr (Or.inr (Or.inr (Or.inr (Or.inr ⟨x1, x2, l, r, 8, 37, hO, hO2, h3, h4, rfl, h6⟩))))) hT (fun z O => b2 h z O) (fun z O => c2 h z O) z0 O
        rw [e 8 (by decide)]
        exact this
      · have hu := TX_bin (o := 9) (by omega) b1 c1
        refine ⟨_, _, _, _, hu, fun h z0 O => ?_, fun h O f' z => wb h O f' z⟩
        have := m_ckB_38 S _ (h + f) k l r fl fl2 (tyM τ1) (tyM τ2) _ _ (fun O'' => RY (kOf S) O'' tc (f + 1) k (x1 ++ x2 ++ [(nI 9, nI 0)])) hk h3 h6 (fun O hO hO2 => Or.inr (Or.inr (Or.inr (Or.inr (Or.inr ⟨x1, x2, l, r, 9, 38, hO, hO2, h3, h4, rfl, h6⟩))))) hT (fun z O => b2 h z O) (fun z O => c2 h z O) z0 O
        rw [e 9 (by decide)]
        exact this
      · have hu := TX_bin (o := 10) (by omega) b1 c1
        refine ⟨_, _, _, _, hu, fun h z0 O => ?_, fun h O f' z => wb h O f' z⟩
        have := m_ckB_39 S _ (h + f) k l r fl fl2 (tyM τ1) (tyM τ2) _ _ (fun O'' => RY (kOf S) O'' tc (f + 1) k (x1 ++ x2 ++ [(nI 10, nI 0)])) hk h3 h6 (fun O hO hO2 => Or.inr (Or.inr (Or.inr (Or.inr (Or.inr ⟨x1, x2, l, r, 10, 39, hO, hO2, h3, h4, rfl, h6⟩))))) hT (fun z O => b2 h z O) (fun z O => c2 h z O) z0 O
        rw [e 10 (by decide)]
        exact this
theorem m_check_c (hE : CE S d T nm no tc) : ∀ f k x, k < 220 → x.length ≤ 200 → RCk T (kOf S) f k x → ∃ fl x' hg, TX (plc d T nm no tc) (tyF d no) (kkF d no tc) x fl x' (nI 0) hg ∧ (∀ h z O, Ct MX11_check (h + (f + 1)) [vR 11 0, vI (nI k)] (eS (pO S O) (nI 0) z) (CkQ S z O (FO (kOf S) T (plc d T nm no tc)) fl (nI 0) (fun O'' => RZ (kOf S) O'' tc f k x'))) ∧ ∀ h O f' z, Ct MX11_wants (h + f) [vR 11 0, vI (nI k)] (eS (pO S O) f' z) (fun r S' => r = some (vI (nI hg)) ∧ S' = eS (pO S O) f' z) := by
  intro f
  induction f with
  | zero => intro k x _ _ h; exact h.elim
  | succ f ih =>
    intro k x hk hx hR
    have g44 : ∀ O f' z, ga (eS (pO S O) f' z) 44 0 k = (kOf S).2.1 k := fun O f' z => by rw [eS_ga, pO_ga44]; rfl
    have g45 : ∀ O f' z, ga (eS (pO S O) f' z) 45 0 k = (kOf S).2.2.1 k := fun O f' z => by rw [eS_ga, pO_ga45]; rfl
    have hT : ∀ O O' O'', FO (kOf S) T (plc d T nm no tc) O O' → FO (kOf S) T (plc d T nm no tc) O' O'' → FO (kOf S) T (plc d T nm no tc) O O'' := fun O O' O'' a b => FO_t a b
    rcases hR with ⟨y, l, h1, h2, rfl, h4⟩ | ⟨y, z, l, r, o, m, h1, h2, h3, h4, rfl, h6⟩ | ⟨y, l, h1, h2, rfl, h4⟩ | ⟨y, z, l, r, o, m, h1, h2, h3, h4, rfl, h6⟩
    · rw [List.length_append] at hx
      obtain ⟨fl, x', τ, hg, b1, b2, b3⟩ := m_check_x S d T nm no tc hE f l y (by omega) (by omega) h1
      have hu := TX_un (o := 17) (Or.inr (Or.inl rfl)) b1
      refine ⟨_, _, _, hu, fun h z O => ?_, fun h O f' z => ?_⟩
      · have := m_ckU_14 S _ (h + f) k l fl (tyM τ) _ (fun O'' => RZ (kOf S) O'' tc (f + 1) k (x' ++ [(nI 17, nI 0)])) hk h2 h4 (fun O hO => Or.inl ⟨x', l, hO, h2, rfl, h4⟩) (fun z O => b2 h z O) z O
        have e : uF 17 fl τ = (if fl = nI 0 then (if False then -1002 else nI 0) else fl) := by
          simp only [uF, show ¬ (17 : Nat) = 6 by decide, false_and]
        rw [e]
        exact this
      · exact m_wants_u _ k l hg hk h2 ((g44 O f' z).trans h4.2.1) ((g45 O f' z).trans h4.2.2) b1.2.1 (by have := b1.2.2.1; omega) _ (b3 h O f' z)
    · rw [List.length_append, List.length_append] at hx
      obtain ⟨fl, x1, τ1, hg1, b1, b2, b3⟩ := m_check_x S d T nm no tc hE f l y (by omega) (by omega) h1
      obtain ⟨fl2, x2, τ2, hg2, c1, c2, c3⟩ := m_check_x S d T nm no tc hE f r z (by omega) (by omega) h2
      have wb := fun h O f' z => m_wants_b (eS (pO S O) f' z) k l r hg1 hg2 hk h3 ((g44 O f' z).trans h6.2.1) ((g45 O f' z).trans h6.2.2) (by have := b1.2.2.1; have := c1.2.2.1; omega) (h + f) (b3 h O f' z) (c3 h O f' z)
      have h9 : (o = 11 ∧ m = 40) ∨ (o = 12 ∧ m = 45) ∨ (o = 13 ∧ m = 41) ∨ (o = 14 ∧ m = 42) ∨ (o = 15 ∧ m = 43) ∨ (o = 16 ∧ m = 44) := by simpa [cops] using h4
      have e : ∀ o, ¬ o ≤ 10 → bF o fl τ1 fl2 τ2 = (if fl = nI 0 then (if fl2 = nI 0 then (if tyM τ1 + tyM τ2 = nI 1 then -1002 else nI 0) else fl2) else fl) := by
        intro o ho
        simp only [bF, tyM_c, ho, reduceIte]
      rcases h9 with ⟨rfl, rfl⟩ | ⟨rfl, rfl⟩ | ⟨rfl, rfl⟩ | ⟨rfl, rfl⟩ | ⟨rfl, rfl⟩ | ⟨rfl, rfl⟩
      · have hu := TX_bin (o := 11) (by omega) b1 c1
        refine ⟨_, _, _, hu, fun h z0 O => ?_, fun h O f' z => wb h O f' z⟩
        have := m_ckB_40 S _ (h + f) k l r fl fl2 (tyM τ1) (tyM τ2) _ _ (fun O'' => RZ (kOf S) O'' tc (f + 1) k (x1 ++ x2 ++ [(nI 11, nI 0)])) hk h3 h6 (fun O hO hO2 => Or.inr (Or.inl ⟨x1, x2, l, r, 11, 40, hO, hO2, h3, h4, rfl, h6⟩)) hT (fun z O => b2 h z O) (fun z O => c2 h z O) z0 O
        rw [e 11 (by decide)]
        exact this
      · have hu := TX_bin (o := 12) (by omega) b1 c1
        refine ⟨_, _, _, hu, fun h z0 O => ?_, fun h O f' z => wb h O f' z⟩
        have := m_ckB_45 S _ (h + f) k l r fl fl2 (tyM τ1) (tyM τ2) _ _ (fun O'' => RZ (kOf S) O'' tc (f + 1) k (x1 ++ x2 ++ [(nI 12, nI 0)])) hk h3 h6 (fun O hO hO2 => Or.inr (Or.inl ⟨x1, x2, l, r, 12, 45, hO, hO2, h3, h4, rfl, h6⟩)) hT (fun z O => b2 h z O) (fun z O => c2 h z O) z0 O
        rw [e 12 (by decide)]
        exact this
      · have hu := TX_bin (o := 13) (by omega) b1 c1
        refine ⟨_, _, _, hu, fun h z0 O => ?_, fun h O f' z => wb h O f' z⟩
        have := m_ckB_41 S _ (h + f) k l r fl fl2 (tyM τ1) (tyM τ2) _ _ (fun O'' => RZ (kOf S) O'' tc (f + 1) k (x1 ++ x2 ++ [(nI 13, nI 0)])) hk h3 h6 (fun O hO hO2 => Or.inr (Or.inl ⟨x1, x2, l, r, 13, 41, hO, hO2, h3, h4, rfl, h6⟩)) hT (fun z O => b2 h z O) (fun z O => c2 h z O) z0 O
        rw [e 13 (by decide)]
        exact this
      · have hu := TX_bin (o := 14) (by omega) b1 c1
        refine ⟨_, _, _, hu, fun h z0 O => ?_, fun h O f' z => wb h O f' z⟩
        have := m_ckB_42 S _ (h + f) k l r fl fl2 (tyM τ1) (tyM τ2) _ _ (fun O'' => RZ (kOf S) O'' tc (f + 1) k (x1 ++ x2 ++ [(nI 14, nI 0)])) hk h3 h6 (fun O hO hO2 => Or.inr (Or.inl ⟨x1, x2, l, r, 14, 42, hO, hO2, h3, h4, rfl, h6⟩)) hT (fun z O => b2 h z O) (fun z O => c2 h z O) z0 O
        rw [e 14 (by decide)]
        exact this
      · have hu := TX_bin (o := 15) (by omega) b1 c1
        refine ⟨_, _, _, hu, fun h z0 O => ?_, fun h O f' z => wb h O f' z⟩
        have := m_ckB_43 S _ (h + f) k l r fl fl2 (tyM τ1) (tyM τ2) _ _ (fun O'' => RZ (kOf S) O'' tc (f + 1) k (x1 ++ x2 ++ [(nI 15, nI 0)])) hk h3 h6 (fun O hO hO2 => Or.inr (Or.inl ⟨x1, x2, l, r, 15, 43, hO, hO2, h3, h4, rfl, h6⟩)) hT (fun z O => b2 h z O) (fun z O => c2 h z O) z0 O
        rw [e 15 (by decide)]
        exact this
      · have hu := TX_bin (o := 16) (by omega) b1 c1
        refine ⟨_, _, _, hu, fun h z0 O => ?_, fun h O f' z => wb h O f' z⟩
        have := m_ckB_44 S _ (h + f) k l r fl fl2 (tyM τ1) (tyM τ2) _ _ (fun O'' => RZ (kOf S) O'' tc (f + 1) k (x1 ++ x2 ++ [(nI 16, nI 0)])) hk h3 h6 (fun O hO hO2 => Or.inr (Or.inl ⟨x1, x2, l, r, 16, 44, hO, hO2, h3, h4, rfl, h6⟩)) hT (fun z O => b2 h z O) (fun z O => c2 h z O) z0 O
        rw [e 16 (by decide)]
        exact this
    · rw [List.length_append] at hx
      obtain ⟨fl, x', hg, b1, b2, b3⟩ := ih l y (by omega) (by omega) h1
      have hu := TX_un (o := 18) (Or.inr (Or.inr rfl)) b1
      refine ⟨_, _, _, hu, fun h z O => ?_, fun h O f' z => ?_⟩
      · have := m_ckU_17 S _ (h + f) k l fl (nI 0) _ (fun O'' => RZ (kOf S) O'' tc (f + 1) k (x' ++ [(nI 18, nI 0)])) hk h2 h4 (fun O hO => Or.inr (Or.inr (Or.inl ⟨x', l, hO, h2, rfl, h4⟩))) (fun z O => b2 h z O) z O
        have e : uF 18 fl (nI 0) = (if fl = nI 0 then (if False then -1002 else nI 0) else fl) := by
          simp only [uF, show ¬ (18 : Nat) = 6 by decide, false_and]
        rw [e]
        exact this
      · exact m_wants_u _ k l hg hk h2 ((g44 O f' z).trans h4.2.1) ((g45 O f' z).trans h4.2.2) b1.2.1 (by have := b1.2.2.1; omega) _ (b3 h O f' z)
    · rw [List.length_append, List.length_append] at hx
      obtain ⟨fl, x1, hg1, b1, b2, b3⟩ := ih l y (by omega) (by omega) h1
      obtain ⟨fl2, x2, hg2, c1, c2, c3⟩ := ih r z (by omega) (by omega) h2
      have wb := fun h O f' z => m_wants_b (eS (pO S O) f' z) k l r hg1 hg2 hk h3 ((g44 O f' z).trans h6.2.1) ((g45 O f' z).trans h6.2.2) (by have := b1.2.2.1; have := c1.2.2.1; omega) (h + f) (b3 h O f' z) (c3 h O f' z)
      have h9 : (o = 19 ∧ m = 15) ∨ (o = 20 ∧ m = 16) := by simpa [lops] using h4
      have e : ∀ o, ¬ o ≤ 10 → bF o fl (nI 0) fl2 (nI 0) = (if fl = nI 0 then (if fl2 = nI 0 then (if False then -1002 else nI 0) else fl2) else fl) := by
        intro o ho
        simp only [bF, ho, reduceIte, show clashB (nI 0) (nI 0) = false by decide, Bool.false_eq_true]
      rcases h9 with ⟨rfl, rfl⟩ | ⟨rfl, rfl⟩
      · have hu := TX_bin (o := 19) (by omega) b1 c1
        refine ⟨_, _, _, hu, fun h z0 O => ?_, fun h O f' z => wb h O f' z⟩
        have := m_ckB_15 S _ (h + f) k l r fl fl2 (nI 0) (nI 0) _ _ (fun O'' => RZ (kOf S) O'' tc (f + 1) k (x1 ++ x2 ++ [(nI 19, nI 0)])) hk h3 h6 (fun O hO hO2 => Or.inr (Or.inr (Or.inr ⟨x1, x2, l, r, 19, 15, hO, hO2, h3, h4, rfl, h6⟩))) hT (fun z O => b2 h z O) (fun z O => c2 h z O) z0 O
        rw [e 19 (by decide)]
        exact this
      · have hu := TX_bin (o := 20) (by omega) b1 c1
        refine ⟨_, _, _, hu, fun h z0 O => ?_, fun h O f' z => wb h O f' z⟩
        have := m_ckB_16 S _ (h + f) k l r fl fl2 (nI 0) (nI 0) _ _ (fun O'' => RZ (kOf S) O'' tc (f + 1) k (x1 ++ x2 ++ [(nI 20, nI 0)])) hk h3 h6 (fun O hO hO2 => Or.inr (Or.inr (Or.inr ⟨x1, x2, l, r, 20, 16, hO, hO2, h3, h4, rfl, h6⟩))) hT (fun z O => b2 h z O) (fun z O => c2 h z O) z0 O
        rw [e 20 (by decide)]
        exact this
end
