-- deps: 289
-- whole statements, read
section
variable {T : WL} {S : ST}
theorem flat_nil {α : Type} (l : List α) : (l.map (fun _ => ([] : WL))).flatten = [] := by
  induction l with
  | nil => rfl
  | cons y l ih => simp [ih]
theorem RM_cr (hT : T.length ≤ 200) (h1 : 1 ≤ T.length) : RM (rCreate T) 1 [] S (sCr T) (fun y => ([], ups2 24 25 y.2 (adT S 0 y.1) 0)) := by
  unfold rCreate sCr
  refine RM_then (RM_tab 0) (fun x hx => ?_)
  have k1 := pn_some hx
  refine RM_then (RM_tk _) (fun u hu => ?_)
  have k2 := pk_some (by decide) hu
  refine RM_then (RM_ps (rColumn T) (pCol T) (fun _ => []) (fun S c y _ => adC S c y.1 y.2) (fun c a ws S ha hw => by
    have := RM_col (T := T) (a := a) (ws := ws) (S := S) c
    simpa using this) (fun a y ha hy => pCol_le a y ha hy) 4 0 _ [] _ (by omega) (by simp; omega)) (fun l hl => ?_)
  refine RM_map (RM_tk _) (fun u hu => ?_)
  rw [flat_nil, ups_col]
  rfl
theorem RM_in (hT : T.length ≤ 200) (h1 : 1 ≤ T.length) : RM (rInsert T) 1 [] S (sIn T) (fun y => ([], ups2 26 25 y.2 (adT S 0 y.1) 0)) := by
  unfold rInsert sIn
  refine RM_then (RM_tab 0) (fun x hx => ?_)
  have k1 := pn_some hx
  refine RM_then (RM_tk _) (fun u hu => ?_)
  have k2 := pk_some (by decide) hu
  refine RM_then (RM_ps (rValue T) (pVal T) (fun _ => []) (fun S c y _ => adV S c y.1 y.2) (fun c a ws S ha hw => by
    have := RM_val (T := T) (a := a) (ws := ws) (S := S) c
    simpa using this) (fun a y ha hy => pVal_le a y ha hy) 4 0 _ [] _ (by omega) (by simp; omega)) (fun l hl => ?_)
  refine RM_map (RM_tk _) (fun u hu => ?_)
  rw [flat_nil, ups_val]
  rfl
theorem RM_de (hT : T.length ≤ 200) (h1 : 1 ≤ T.length) : RM (rDelete T) 1 [] S (sDe T) (fun y => (y.2.getD [], whS (adT S 0 y.1) 0 y.2)) := by
  unfold rDelete sDe
  refine RM_then (RM_tab 0) (fun x hx => ?_)
  have k1 := pn_some hx
  refine RM_map (RM_whe (by omega) (by simp; omega)) (fun c hc => ?_)
  rfl
theorem RM_up (hT : T.length ≤ 200) (h1 : 1 ≤ T.length) : RM (rUpdate T) 1 [] S (sUp T) (fun y => (y.2.1.2 ++ y.2.2.getD [], whS (adI (si (adT S 0 y.1) 6 11 0 y.2.1.1) 0 (-1) y.2.1.2.length) y.2.1.2.length y.2.2)) := by
  unfold rUpdate sUp
  refine RM_then (RM_tab 0) (fun x hx => ?_)
  have k1 := pn_some hx
  refine RM_then (RM_tk _) (fun u hu => ?_)
  have k2 := pk_some (by decide) hu
  refine RM_then (RM_asg (by omega) (by simp; omega)) (fun y hy => ?_)
  have k3 : (pk T (nI 204) (pn T 1).1).1 ≤ (pAs T (pk T (nI 204) (pn T 1).1).1).1 ∧ (pAs T (pk T (nI 204) (pn T 1).1).1).1 ≤ T.length ∧ y.2.length ≤ (pAs T (pk T (nI 204) (pn T 1).1).1).1 - (pk T (nI 204) (pn T 1).1).1 := by
    generalize (pk T (nI 204) (pn T 1).1).1 = a at hy k2 ⊢
    unfold pAs at hy ⊢
    obtain ⟨x1, g1, e1, g2⟩ := pb_some hy
    rw [e1]
    have j1 := pn_some g1
    rw [j1.1] at g2 ⊢
    obtain ⟨u1, g3, e2, g4⟩ := pb_some g2
    rw [e2]
    have j2 := pk_some (by decide) g3
    rw [j2.1] at g4 ⊢
    obtain ⟨x2, g5, e3, g6⟩ := pb_some g4
    rw [e3]
    have j3 := pX_le (by omega) hT g5
    simp only [Option.some.injEq] at g6
    subst g6
    simp only
    omega
  refine RM_map (RM_whe k3.2.1 (by simp; omega)) (fun c hc => ?_)
  simp only [List.nil_append, List.length_nil, Nat.zero_add]
def seS (S : ST) (y : IL × Int32 × Option Int32 × Option WL × Option Nat × Int32 × Bool) : ST := sz (si (si (whS (cmS (adT (ups2 27 28 (endl y.1 0) S 0) 0 y.2.1) y.2.2.1) (flt y.1).length y.2.2.2.1) 6 14 0 (grI y.2.2.2.2.1)) 6 15 0 y.2.2.2.2.2.1) 6 16 0 y.2.2.2.2.2.2
theorem RM_se (hT : T.length ≤ 200) (h1 : 1 ≤ T.length) (h14 : gi S 6 14 0 = -1) (h15 : gi S 6 15 0 = -1) (h16 : gz S 6 16 0 = false) : RM (rSelect T) 1 [] S (sSe T) (fun y => (flt y.1 ++ y.2.2.2.1.getD [], seS S y)) := by
  unfold rSelect sSe
  refine RM_then (RM_ps (rItem T) (pIt T) (fun y => y.2) (fun S c (y : Int32 × WL) k => adI S c y.1 (k + y.2.length)) (fun c a ws S ha hw => RM_itm c ha hw) (fun a y ha hy => (pIt_le hT a y ha hy).1) 4 0 1 [] S h1 (by simp; omega)) (fun its hits => ?_)
  have k0 := pPs_le (pIt T) (fun y => y.2) (fun a y ha hy => (pIt_le hT a y ha hy).1) 4 1 its h1 hits
  rw [ups_itm]
  have ef : (its.map (fun y => y.2)).flatten = flt its := rfl
  rw [ef] at k0 ⊢
  simp only [List.nil_append, List.length_nil]
  refine RM_then (RM_tk _) (fun u hu => ?_)
  have k1 := pk_some (by decide) hu
  refine RM_then (RM_tab 0) (fun x hx => ?_)
  have k2 := pn_some hx
  refine RM_then RM_com (fun y hy => ?_)
  have k3 : (pn T (pk T (nI 206) (pPs T (pIt T) 4 1).1).1).1 ≤ (pCm T (pn T (pk T (nI 206) (pPs T (pIt T) 4 1).1).1).1).1 ∧ (pCm T (pn T (pk T (nI 206) (pPs T (pIt T) 4 1).1).1).1).1 ≤ T.length := by
    generalize (pn T (pk T (nI 206) (pPs T (pIt T) 4 1).1).1).1 = a at hy k2 ⊢
    unfold pCm at hy ⊢
    by_cases q : kd T a = nI 44
    · have hlt := kd_in q (by decide)
      rw [if_pos q] at hy ⊢
      obtain ⟨x1, g1, e1, g2⟩ := pb_some hy
      rw [e1]
      have j1 := pn_some g1
      simp only
      omega
    · rw [if_neg q]
      simp only
      omega
  have g14 : gi (ups2 27 28 (endl its 0) S 0) 6 14 0 = -1 := by rw [(ups2_ok (by decide) (by decide) (by decide) _ _ _).2.1 14 (by decide)]; exact h14
  have g15 : gi (ups2 27 28 (endl its 0) S 0) 6 15 0 = -1 := by rw [(ups2_ok (by decide) (by decide) (by decide) _ _ _).2.1 15 (by decide)]; exact h15
  have g16 : gz (ups2 27 28 (endl its 0) S 0) 6 16 0 = false := by rw [(ups2_ok (by decide) (by decide) (by decide) _ _ _).2.2.1]; exact h16
  have x14 : gi (cmS (adT (ups2 27 28 (endl its 0) S 0) 0 x) y) 6 14 0 = -1 := by cases y <;> simp only [cmS, adT, gi_si, gi_sl, gi_sz, gi_sr, gi_sa, gi_sb, gi_sy, gl_si, gl_sl, gl_sz, gl_sr, gl_sa, gl_sb, gl_sy, gz_si, gz_sl, gz_sz, gz_sr, gz_sa, gz_sb, gz_sy, gr_si, gr_sl, gr_sz, gr_sr, gr_sa, gr_sb, gr_sy, ga_si, ga_sl, ga_sz, ga_sr, ga_sa, ga_sb, ga_sy, gb_si, gb_sl, gb_sz, gb_sr, gb_sa, gb_sb, gb_sy, gy_si, gy_sl, gy_sz, gy_sr, gy_sa, gy_sb, gy_sy, reduceIte, Nat.reduceEqDiff, and_true, true_and, and_self, false_and, and_false] <;> exact g14
  have x15 : gi (cmS (adT (ups2 27 28 (endl its 0) S 0) 0 x) y) 6 15 0 = -1 := by cases y <;> simp only [cmS, adT, gi_si, gi_sl, gi_sz, gi_sr, gi_sa, gi_sb, gi_sy, gl_si, gl_sl, gl_sz, gl_sr, gl_sa, gl_sb, gl_sy, gz_si, gz_sl, gz_sz, gz_sr, gz_sa, gz_sb, gz_sy, gr_si, gr_sl, gr_sz, gr_sr, gr_sa, gr_sb, gr_sy, ga_si, ga_sl, ga_sz, ga_sr, ga_sa, ga_sb, ga_sy, gb_si, gb_sl, gb_sz, gb_sr, gb_sa, gb_sb, gb_sy, gy_si, gy_sl, gy_sz, gy_sr, gy_sa, gy_sb, gy_sy, reduceIte, Nat.reduceEqDiff, and_true, true_and, and_self, false_and, and_false] <;> exact g15
  have x16 : gz (cmS (adT (ups2 27 28 (endl its 0) S 0) 0 x) y) 6 16 0 = false := by cases y <;> simp only [cmS, adT, gi_si, gi_sl, gi_sz, gi_sr, gi_sa, gi_sb, gi_sy, gl_si, gl_sl, gl_sz, gl_sr, gl_sa, gl_sb, gl_sy, gz_si, gz_sl, gz_sz, gz_sr, gz_sa, gz_sb, gz_sy, gr_si, gr_sl, gr_sz, gr_sr, gr_sa, gr_sb, gr_sy, ga_si, ga_sl, ga_sz, ga_sr, ga_sa, ga_sb, ga_sy, gb_si, gb_sl, gb_sz, gb_sr, gb_sa, gb_sb, gb_sy, gy_si, gy_sl, gy_sz, gy_sr, gy_sa, gy_sb, gy_sy, reduceIte, Nat.reduceEqDiff, and_true, true_and, and_self, false_and, and_false] <;> exact g16
  refine RM_then (RM_whe k3.2 (by show (flt its).length + _ < 255; omega)) (fun c hc => ?_)
  refine RM_then RM_grp (fun gr hgr => ?_)
  refine RM_map (RM_ord (by simp only [grS, whS, gi_si, gi_sl, gi_sz, gi_sr, gi_sa, gi_sb, gi_sy, gl_si, gl_sl, gl_sz, gl_sr, gl_sa, gl_sb, gl_sy, gz_si, gz_sl, gz_sz, gz_sr, gz_sa, gz_sb, gz_sy, gr_si, gr_sl, gr_sz, gr_sr, gr_sa, gr_sb, gr_sy, ga_si, ga_sl, ga_sz, ga_sr, ga_sa, ga_sb, ga_sy, gb_si, gb_sl, gb_sz, gb_sr, gb_sa, gb_sb, gb_sy, gy_si, gy_sl, gy_sz, gy_sr, gy_sa, gy_sb, gy_sy, reduceIte, Nat.reduceEqDiff, and_true, true_and, and_self, false_and, and_false]; exact x15) (by simp only [grS, whS, gi_si, gi_sl, gi_sz, gi_sr, gi_sa, gi_sb, gi_sy, gl_si, gl_sl, gl_sz, gl_sr, gl_sa, gl_sb, gl_sy, gz_si, gz_sl, gz_sz, gz_sr, gz_sa, gz_sb, gz_sy, gr_si, gr_sl, gr_sz, gr_sr, gr_sa, gr_sb, gr_sy, ga_si, ga_sl, ga_sz, ga_sr, ga_sa, ga_sb, ga_sy, gb_si, gb_sl, gb_sz, gb_sr, gb_sa, gb_sb, gb_sy, gy_si, gy_sl, gy_sz, gy_sr, gy_sa, gy_sb, gy_sy, reduceIte, Nat.reduceEqDiff, and_true, true_and, and_self, false_and, and_false]; exact x16)) (fun o ho => ?_)
  have eg : grS (whS (cmS (adT (ups2 27 28 (endl its 0) S 0) 0 x) y) (flt its).length c) gr = si (whS (cmS (adT (ups2 27 28 (endl its 0) S 0) 0 x) y) (flt its).length c) 6 14 0 (grI gr) := by
    cases gr with
    | none => simp only [grS, grI, whS, gi_si, gi_sl, gi_sz, gi_sr, gi_sa, gi_sb, gi_sy, gl_si, gl_sl, gl_sz, gl_sr, gl_sa, gl_sb, gl_sy, gz_si, gz_sl, gz_sz, gz_sr, gz_sa, gz_sb, gz_sy, gr_si, gr_sl, gr_sz, gr_sr, gr_sa, gr_sb, gr_sy, ga_si, ga_sl, ga_sz, ga_sr, ga_sa, ga_sb, ga_sy, gb_si, gb_sl, gb_sz, gb_sr, gb_sa, gb_sb, gb_sy, gy_si, gy_sl, gy_sz, gy_sr, gy_sa, gy_sb, gy_sy, reduceIte, Nat.reduceEqDiff, and_true, true_and, and_self, false_and, and_false]; rw [x14]
    | some w => rfl
  simp only [seS]
  rw [eg]
end
