-- deps: 271
-- one row of a select, in its three ways
section
variable (h : Nat) (x : Int32) (S : ST) (d : DB) (tc : Nat) (tj rw : Nat → Nat) (Q : Option AV → ST → Prop) (P post : WL) (jf : Nat)
theorem its_plain (its : IL) (hP : PrC S P) (hr : gz S 2 13 0 = true) (hE : EnvC S d tc tj rw) (hj : jf < 2) (h6 : gr S 2 4 0 = jf) (k : Nat) (o : Nat → Int32) (g : Int32) (hk : k < 576) (hl4 : its.length ≤ 4) (hall : ∀ i, agI its i = -1) : ∀ (l : IL) (i a n : Nat) (pre : WL) (v : Nat → Int32) (m : Nat → Bool) (w : Nat → Int64) (A : AR), P = pre ++ itW false l i ++ post → a = pre.length → TL its l i → (∀ y, y ∈ l → EH d tc tj y.2 0 ∧ OV y.2) → RelS its k A w o → (∀ b, b < i → RC (-1) A w (k * 4 + b)) → n + (itW false l i).length < 1000000 →
    (¬ itF (ldE d tj rw) l = nI 0 → ∀ (w : Nat → Int64) (a' n' : Nat) (v' : Nat → Int32) (m' : Nat → Bool) (t' : Nat), n' ≤ n + (itW false l i).length → Q (some (vI (itF (ldE d tj rw) l))) (sl (flS (cS S a' n' v' m' t' jf w o k g) (itF (ldE d tj rw) l)) 2 17 0 (limL S x))) →
    (itF (ldE d tj rw) l = nI 0 → ∀ (w : Nat → Int64) (v' : Nat → Int32) (m' : Nat → Bool), RelS its k (comes (ldE d tj rw) l i k A) w o → (∀ b, b < its.length → RC (-1) (comes (ldE d tj rw) l i k A) w (k * 4 + b)) → RUN (h + 2) x (n + (itW false l i).length) (cS S (a + (itW false l i).length) (n + (itW false l i).length) v' m' 0 jf w o k g) Q) →
    RUN (h + 2) x n (cS S a n v m 0 jf w o k g) Q := by
  intro l
  induction l with
  | nil => intro i a n pre v m w A hp ha hT hI hR hRk hn hF hY; exact hY rfl w v m hR (fun b hb => hRk b (by have := hT.1; simp at this; omega))
  | cons y l ih =>
    intro i a n pre v m w A hp ha hT hI hR hRk hn hF hY
    obtain ⟨hT2, hag⟩ := TL_s hT
    obtain ⟨ya, yw⟩ := y
    have hya : ya = -1 := by rw [hall] at hag; exact hag.symm
    subst hya
    have hy := hI (-1, yw) (by simp)
    have hi4 : i < its.length := by have := hT.1; simp at this; omega
    have ec : cl1 false (-1) = nI 28 := by decide
    have eW : itW false ((-1, yw) :: l) i = yw ++ (nI 28, nI i) :: itW false l (i + 1) := by rw [itW, ec]
    have eF : itF (ldE d tj rw) ((-1, yw) :: l) = if (evX (ldE d tj rw) yw).1 = nI 0 then itF (ldE d tj rw) l else (evX (ldE d tj rw) yw).1 := rfl
    rw [eW] at hp hn hF hY
    simp only [List.length_append, List.length_cons] at hn hF hY
    rw [eF] at hF hY
    refine run_item h x S d tc tj rw Q P (itW false l (i + 1) ++ post) jf hP hr hE pre yw 28 (nI i) (fun _ => True) a n v m w o k g (by rw [hp]; simp) ha hy (by omega) (by decide) (by decide) ?_ ?_
    · intro h0 a' n' v' m' t' hn'
      have := hF (by rw [if_neg h0]; exact h0) w a' n' v' m' t' (by omega)
      rw [if_neg h0] at this
      exact this
    · intro h0 v' m' e1 e2
      refine ⟨_, c_colPut h S _ _ v' m' 0 jf w o k g i (by decide) hj h6 hk (by omega), ?_⟩
      rw [e1, e2]
      have hcm : come1 (-1) (k * 4 + i) (evX (ldE d tj rw) yw).2 A = (up1 A.1 (k * 4 + i) (evX (ldE d tj rw) yw).2.1, up1 A.2.1 (k * 4 + i) (evX (ldE d tj rw) yw).2.2, A.2.2) := by simp [come1]
      refine ih (i + 1) (a + yw.length + 1) (n + yw.length + 1) (pre ++ yw ++ [(nI 28, nI i)]) v' m' _ (come1 (-1) (k * 4 + i) (evX (ldE d tj rw) yw).2 A) (by rw [hp]; simp) (by simp [ha]; omega) hT2 (fun y hy => hI y (by simp [hy])) ?_ ?_ (by omega) ?_ ?_
      · refine ⟨hR.1, fun r hr' b hb => ?_⟩
        have hne : r * 4 + b ≠ k * 4 + i := by omega
        exact RC_other (hR.2 r hr' b hb) hne
      · intro b hb
        by_cases hq : b = i
        · subst hq
          rw [hcm]
          simp only [RC, rcV, reduceIte, up1_s]
        · have hne : k * 4 + b ≠ k * 4 + i := by omega
          exact RC_other (hRk b (by omega)) hne
      · intro hf w a' n'' v' m' t' hn''
        have := hF (by rw [if_pos h0]; exact hf) w a' n'' v' m' t' (by omega)
        rw [if_pos h0] at this
        exact this
      · intro hf w v' m' hR'' hRk''
        have := hY (by rw [if_pos h0]; exact hf) w v' m' hR'' hRk''
        rw [show n + yw.length + 1 + (itW false l (i + 1)).length = n + (yw.length + ((itW false l (i + 1)).length + 1)) by omega, show a + yw.length + 1 + (itW false l (i + 1)).length = a + (yw.length + ((itW false l (i + 1)).length + 1)) by omega]
        exact this
/-- the three ways: plain rows, one row of totals, rows of groups -/
def Way (its : IL) (sm gb0 : Bool) (k : Nat) : Prop := 1 ≤ its.length ∧ its.length ≤ 4 ∧ ((sm = false ∧ gb0 = false ∧ (∀ i, agI its i = -1) ∧ k < 576) ∨ (sm = true ∧ gb0 = false ∧ (∀ y, y ∈ its → isAgg y.1) ∧ k = 1) ∨ (sm = true ∧ gb0 = true ∧ (∃ x0 l, its = (-1, x0) :: l ∧ ∀ y, y ∈ l → isAgg y.1) ∧ k ≤ 24))
def bodW (sm gb0 : Bool) (its : IL) : WL := itW gb0 its 0 ++ (if sm = true then [] else [(nI 29, nI 0)])
theorem TL_0 (its : IL) : TL its its 0 := ⟨by omega, fun j _ => by rw [Nat.zero_add]; rfl⟩
theorem rcV_beg {a : Int32} {A : AR} {k b : Nat} (ha : isAgg a) (hb : b < 4) : rcV a (beg A k) (k * 4 + b) = MS := by
  unfold rcV
  rw [if_neg (isAgg_ne ha), if_pos (show (beg A k).2.2.2 (k * 4 + b) = 0 from zr4_in _ _ _ hb)]
theorem SBd_beg {A : AR} {k b : Nat} (hb : b < 4) : SBd (beg A k) (k * 4 + b) := by
  have e4 : (beg A k).2.2.2 (k * 4 + b) = 0 := zr4_in _ _ _ hb
  have e3 : (beg A k).2.2.1 (k * 4 + b) = lN 0 := zr4_in _ _ _ hb
  unfold SBd SBw
  rw [e4, e3, lN_toInt (by decide)]
  exact ⟨by omega, fun _ => ⟨by omega, by omega⟩⟩
theorem run_body (its : IL) (sm gb0 : Bool) (hP : PrC S P) (hr : gz S 2 13 0 = true) (hE : EnvC S d tc tj rw) (hj : jf < 2) (h6 : gr S 2 4 0 = jf) (k : Nat) (A : AR) (hW : Way its sm gb0 k) (hI : ∀ y, y ∈ its → EH d tc tj y.2 0 ∧ OV y.2) (hSB : ∀ q, q < k * 4 → SBd A q) (hnew : gb0 = true → (accR sm gb0 k A (evX (ldE d tj rw) (hdI its)).2).2.1 ≤ 24) (a n : Nat) (pre : WL) (v : Nat → Int32) (m : Nat → Bool) (w : Nat → Int64) (o : Nat → Int32) (g : Int32) (hp : P = pre ++ bodW sm gb0 its ++ post) (ha : a = pre.length) (hg : gb0 = false → sm = true → g = nI 0) (hR : RelS its k A w o) (hn : n + (bodW sm gb0 its).length < 1000000)
    (hF : ¬ itF (ldE d tj rw) its = nI 0 → ∀ (w : Nat → Int64) (o : Nat → Int32) (k : Nat) (g : Int32) (a' n' : Nat) (v' : Nat → Int32) (m' : Nat → Bool) (t' : Nat), n' ≤ n + (bodW sm gb0 its).length → Q (some (vI (itF (ldE d tj rw) its))) (sl (flS (cS S a' n' v' m' t' jf w o k g) (itF (ldE d tj rw) its)) 2 17 0 (limL S x)))
    (hY : itF (ldE d tj rw) its = nI 0 → ∀ (w : Nat → Int64) (o : Nat → Int32) (g : Int32) (v' : Nat → Int32) (m' : Nat → Bool), RelS its (acc sm gb0 its (ldE d tj rw) (k, A)).1 (acc sm gb0 its (ldE d tj rw) (k, A)).2 w o → (gb0 = false → sm = true → g = nI 0) → RUN (h + 2) x (n + (bodW sm gb0 its).length) (cS S (a + (bodW sm gb0 its).length) (n + (bodW sm gb0 its).length) v' m' 0 jf w o (acc sm gb0 its (ldE d tj rw) (k, A)).1 g) Q) :
    RUN (h + 2) x n (cS S a n v m 0 jf w o k g) Q := by
  obtain ⟨hl1, hl4, hW⟩ := hW
  rcases hW with ⟨rfl, rfl, hall, hk⟩ | ⟨rfl, rfl, hall, rfl⟩ | ⟨rfl, rfl, ⟨x0, l, rfl, hall⟩, hk⟩
  · have eB : bodW false false its = itW false its 0 ++ [(nI 29, nI 0)] := rfl
    have eA : acc false false its (ldE d tj rw) (k, A) = (k + 1, comes (ldE d tj rw) its 0 k (beg A k)) := rfl
    rw [eB] at hp hn hF hY
    simp only [List.length_append, List.length_cons, List.length_nil, Nat.zero_add] at hn hF hY
    rw [eA] at hY
    refine its_plain h x S d tc tj rw Q P ([(nI 29, nI 0)] ++ post) jf its hP hr hE hj h6 k o g hk hl4 hall its 0 a n pre v m w (beg A k) (by rw [hp]; simp) ha (TL_0 its) hI ?_ (fun b hb => absurd hb (by omega)) (by omega) ?_ ?_
    · refine ⟨hR.1, fun r hr' b hb => ?_⟩
      have hq : r * 4 + b < k * 4 ∨ k * 4 + 4 ≤ r * 4 + b := by omega
      exact RC_same (hR.2 r hr' b hb) (zr4_out _ _ _ hq) (zr4_out _ _ _ hq) (zr4_out _ _ _ hq) (zr4_out _ _ _ hq) rfl
    · intro hf w a' n' v' m' t' hn'
      exact hF hf w o k g a' n' v' m' t' (by omega)
    · intro hf w v' m' hR' hRk
      refine run_L h x (rs (tg S g) jf w o k) Q _ P _ _ 29 (nI 0) v' m' 0 (cS_P hP ..) (by simp only [rs, tg, gi_si, gi_sl, gi_sz, gi_sr, gi_sa, gi_sb, gi_sy, gl_si, gl_sl, gl_sz, gl_sr, gl_sa, gl_sb, gl_sy, gz_si, gz_sl, gz_sz, gz_sr, gz_sa, gz_sb, gz_sy, gr_si, gr_sl, gr_sz, gr_sr, gr_sa, gr_sb, gr_sy, ga_si, ga_sl, ga_sz, ga_sr, ga_sa, ga_sb, ga_sy, gb_si, gb_sl, gb_sz, gb_sr, gb_sa, gb_sb, gb_sy, gy_si, gy_sl, gy_sz, gy_sr, gy_sa, gy_sb, gy_sy, reduceIte, Nat.reduceEqDiff, and_true, true_and, and_self, false_and, and_false]; exact hr) ?_ (by omega) (by decide) (by decide) (c_colRow h S _ _ v' m' 0 jf w o k g (nI 0) hj h6 hk) ?_
      · rw [hp, ha, List.append_assoc, List.append_assoc, List.getElem?_append_right (by omega), List.getElem?_append_right (by omega)]
        simp
      · rintro S' rfl
        have := hY hf w (up1 o k (nI k)) g v' m' ⟨?_, ?_⟩ (fun _ e => absurd e (by decide))
        · rw [show n + (itW false its 0).length + 1 = n + ((itW false its 0).length + 1) by omega, show a + (itW false its 0).length + 1 = a + ((itW false its 0).length + 1) by omega]
          exact this
        · intro r hr'
          by_cases e : r = k
          · subst e; exact up1_s ..
          · rw [up1_n e]; exact hR'.1 r (by simp only at hr'; omega)
        · intro r hr' b hb
          by_cases e : r = k
          · subst e
            rw [hall]
            exact hRk b hb
          · exact hR'.2 r (by simp only at hr'; omega) b hb
  · have eB : bodW true false its = itW false its 0 := by simp [bodW]
    have eA : acc true false its (ldE d tj rw) (1, A) = (1, comes (ldE d tj rw) its 0 0 A) := rfl
    rw [eB] at hp hn hF hY
    rw [eA] at hY
    have hg0 := hg rfl rfl
    subst hg0
    refine its_gather h x S d tc tj rw Q P post jf its false hP hr hE hj h6 1 0 o (by decide) (by decide) hl4 its 0 a n pre v m w A hp ha (TL_0 its) (fun y hy => ⟨hall y hy, hI y hy⟩) (fun b _ hb => hSB _ (by omega)) hR hn ?_ ?_
    · intro hf w a' n' v' m' t' hn'
      exact hF hf w o 1 (nI 0) a' n' v' m' t' hn'
    · intro hf w v' m' hR'
      exact hY hf w o (nI 0) v' m' hR' (fun _ _ => rfl)
  · have ec : cl1 true (-1) = nI 31 := by decide
    have eB : bodW true true ((-1, x0) :: l) = x0 ++ (nI 31, nI 0) :: itW true l 1 := by simp [bodW, itW, ec]
    have eF : itF (ldE d tj rw) ((-1, x0) :: l) = if (evX (ldE d tj rw) x0).1 = nI 0 then itF (ldE d tj rw) l else (evX (ldE d tj rw) x0).1 := rfl
    obtain ⟨hT2, hag0⟩ := TL_s (TL_0 ((-1, x0) :: l))
    have hag : agI ((-1, x0) :: l) 0 = -1 := hag0
    have hx0 := hI (-1, x0) (by simp)
    rw [eB] at hp hn hF hY
    simp only [List.length_append, List.length_cons] at hn hF hY
    rw [eF] at hF hY
    have hga : ∀ (g' k' : Nat) (o' : Nat → Int32) (w' : Nat → Int64) (A' : AR) (v' : Nat → Int32) (m' : Nat → Bool), (evX (ldE d tj rw) x0).1 = nI 0 → g' < k' → k' ≤ 24 → acc true true ((-1, x0) :: l) (ldE d tj rw) (k, A) = (k', comes (ldE d tj rw) l 1 g' A') → (∀ b, 1 ≤ b → b < 4 → SBd A' (g' * 4 + b)) → RelS ((-1, x0) :: l) k' A' w' o' → RUN (h + 2) x (n + x0.length + 1) (cS S (a + x0.length + 1) (n + x0.length + 1) v' m' 0 jf w' o' k' (nI g')) Q := by
      intro g' k' o' w' A' v' m' h0 hg' hk' eA hB' hR'
      refine its_gather h x S d tc tj rw Q P post jf ((-1, x0) :: l) true hP hr hE hj h6 k' g' o' (by omega) hg' hl4 l 1 _ _ (pre ++ x0 ++ [(nI 31, nI 0)]) v' m' w' A' (by rw [hp]; simp) (by simp [ha]; omega) hT2 (fun y hy => ⟨hall y hy, hI y (by simp [hy])⟩) (fun b hb1 hb2 => hB' b hb1 (by omega)) hR' (by omega) ?_ ?_
      · intro hf w a' n' v' m' t' hn'
        have := hF (by rw [if_pos h0]; exact hf) w o' k' (nI g') a' n' v' m' t' (by omega)
        rw [if_pos h0] at this
        exact this
      · intro hf w v' m' hR''
        have := hY (by rw [if_pos h0]; exact hf) w o' (nI g') v' m' (by rw [eA]; exact hR'') (fun e => absurd e (by decide))
        rw [eA] at this
        rw [show n + x0.length + 1 + (itW true l 1).length = n + (x0.length + ((itW true l 1).length + 1)) by omega, show a + x0.length + 1 + (itW true l 1).length = a + (x0.length + ((itW true l 1).length + 1)) by omega]
        exact this
    refine run_item h x S d tc tj rw Q P (itW true l 1 ++ post) jf hP hr hE pre x0 31 (nI 0) (fun _ => True) a n v m w o k g (by rw [hp]; simp) ha hx0 (by omega) (by decide) (by decide) ?_ ?_
    · intro h0 a' n' v' m' t' hn'
      have := hF (by rw [if_neg h0]; exact h0) w o k g a' n' v' m' t' (by omega)
      rw [if_neg h0] at this
      exact this
    · intro h0 v' m' e1 e2
      have hcell : ∀ r, 0 ≤ r → r < 0 + k → w (r * 4 + 0) = hN (A.2.1 (r * 4 + 0)) (A.1 (r * 4 + 0)) := by
        intro r _ hr'
        have := hR.2 r (by omega) 0 (by simp)
        rw [hag] at this
        exact this
      have hff := ffI_fGr (x := (evX (ldE d tj rw) x0).2.1) (y := (evX (ldE d tj rw) x0).2.2) hcell
      cases hq : fGr A (evX (ldE d tj rw) x0).2 k 0 with
      | some r0 =>
        have hs := fGr_some hq
        have eR : accR true true k A (evX (ldE d tj rw) x0).2 = (r0, k, A) := by simp [accR, hq]
        have hf1 : ffI w (fun i => i) (hN (m' 0) (v' 0)) k 0 = nI r0 := by rw [e1, e2, hff, hq]; rfl
        refine ⟨_, c_colGroup1 h S _ _ v' m' 0 jf w o k g r0 (nI 0) (by decide) hj h6 (by omega) hR.1 (by omega) hf1, ?_⟩
        refine hga r0 k o w (come1 (-1) (r0 * 4 + 0) (evX (ldE d tj rw) x0).2 A) v' m' h0 (by omega) hk ?_ (fun b hb1 hb2 => ?_) ⟨hR.1, fun r hr' b hb => ?_⟩
        · unfold acc
          simp only [hdI, List.headD_cons, eR, comes]
        · have e := come1_n (A := A) (v := (evX (ldE d tj rw) x0).2) (a := -1) (show r0 * 4 + b ≠ r0 * 4 + 0 by omega)
          exact SBd_same (hSB _ (by omega)) e.2.2.1 e.2.2.2
        · by_cases hqq : r * 4 + b = r0 * 4 + 0
          · have hb4 : b < 4 := by omega
            have hrb : r = r0 ∧ b = 0 := by omega
            obtain ⟨rfl, rfl⟩ := hrb
            rw [hag]
            have hc := hcell r (by omega) (by omega)
            unfold RC rcV
            simp only [come1, reduceIte, up1_s]
            rw [hc, hN_inj]
            exact ⟨hs.2.2.1, hs.2.2.2⟩
          · have e := come1_n (A := A) (v := (evX (ldE d tj rw) x0).2) (a := -1) hqq
            exact RC_same (hR.2 r hr' b hb) e.1 e.2.1 e.2.2.1 e.2.2.2 rfl
      | none =>
        have eR : accR true true k A (evX (ldE d tj rw) x0).2 = (k, k + 1, beg A k) := by simp [accR, hq]
        have hk24 := hnew rfl
        simp only [hdI, List.headD_cons, eR] at hk24
        have hf1 : ffI w (fun i => i) (hN (m' 0) (v' 0)) k 0 = -1 := by rw [e1, e2, hff, hq]; rfl
        refine ⟨_, c_colGroup2 h S _ _ v' m' 0 jf w o k g (nI 0) (by decide) hj h6 (by omega) hR.1 hf1, ?_⟩
        rw [e1, e2]
        refine hga k (k + 1) _ _ (come1 (-1) (k * 4 + 0) (evX (ldE d tj rw) x0).2 (beg A k)) v' m' h0 (by omega) hk24 ?_ (fun b hb1 hb2 => ?_) ⟨fun r hr' => ?_, fun r hr' b hb => ?_⟩
        · unfold acc
          simp only [hdI, List.headD_cons, eR, comes]
        · have e := come1_n (A := beg A k) (v := (evX (ldE d tj rw) x0).2) (a := -1) (show k * 4 + b ≠ k * 4 + 0 by omega)
          exact SBd_same (SBd_beg hb2) e.2.2.1 e.2.2.2
        · by_cases e : r = k
          · subst e; exact up1_s ..
          · rw [up1_n e]; exact hR.1 r (by omega)
        · have hb4 : b < 4 := by omega
          by_cases e : r = k
          · subst e
            by_cases hb0 : b = 0
            · subst hb0
              rw [hag]
              simp only [RC, rcV, come1, reduceIte, up1_s]
            · have hne : r * 4 + b ≠ r * 4 + 0 := by omega
              have hagb : isAgg (agI ((-1, x0) :: l) b) := by
                obtain ⟨b', rfl⟩ : ∃ b', b = b' + 1 := ⟨b - 1, by omega⟩
                have : b' < l.length := by simp at hb; omega
                have h2 : agI ((-1, x0) :: l) (b' + 1) = (l[b']).1 := by simp [agI, List.getD, this]
                rw [h2]
                exact hall _ (List.getElem_mem this)
              refine RC_other ?_ hne
              unfold RC
              rw [rcV_beg hagb hb4]
              exact zr4_in _ _ _ hb4
          · have hne : r * 4 + b ≠ k * 4 + 0 := by omega
            have hq4 : r * 4 + b < k * 4 ∨ k * 4 + 4 ≤ r * 4 + b := by omega
            refine RC_other ?_ hne
            exact RC_same (hR.2 r (by omega) b hb) (zr4_out _ _ _ hq4) (zr4_out _ _ _ hq4) (zr4_out _ _ _ hq4) (zr4_out _ _ _ hq4) (zr4_out _ _ _ hq4)
end
