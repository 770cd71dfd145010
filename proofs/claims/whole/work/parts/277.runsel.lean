-- deps: 276
-- the run of a select
theorem enR_mid (p r : WL) (w : Int32 × Int32) (nx : Nat) : enR (p ++ w :: r) nx p.length = p ++ (nI 23, nI (p.length + r.length + 2)) :: (r ++ [(nI 26, nI nx)]) := by
  unfold enR
  rw [List.append_assoc, List.set_append_right _ _ (Nat.le_refl _)]
  simp only [Nat.sub_self, List.cons_append, List.set_cons_zero, List.length_append, List.length_cons]
  rw [show p.length + (r.length + 1) + 1 = p.length + r.length + 2 by omega]
def sel0 (sm gb0 : Bool) (A : AR) : Nat × AR := if sm = true ∧ gb0 = false then (1, beg A 0) else (0, A)
theorem sel0_JS {sm gb0 : Bool} {d : DB} {t c : Nat} {A : AR} : JS sm gb0 d t c 0 (sel0 sm gb0 A) := by
  unfold sel0
  by_cases e : sm = true ∧ gb0 = false
  · rw [if_pos e]
    refine ⟨fun e2 => absurd (e.1.symm.trans e2) (by decide), fun _ _ => rfl, fun e2 => absurd (e.2.symm.trans e2) (by decide), fun q hq => ?_⟩
    have : (beg A 0).2.2.2 q = 0 ∧ (beg A 0).2.2.1 q = lN 0 := by
      have h1 := zr4_in A.2.2.2 0 0 (i := q) (by omega)
      have h2 := zr4_in A.2.2.1 0 (lN 0) (i := q) (by omega)
      rw [Nat.zero_mul, Nat.zero_add] at h1 h2
      exact ⟨h1, h2⟩
    have hsb := (SBd_beg (A := A) (k := 0) (b := q) (by omega)).2
    rw [Nat.zero_mul, Nat.zero_add] at hsb
    exact ⟨by rw [this.1]; exact Nat.le_refl _, fun _ => this.2, hsb⟩
  · rw [if_neg e]
    refine ⟨fun _ => Nat.le_refl _, fun e1 e2 => absurd ⟨e1, e2⟩ e, fun _ => ⟨⟨fun _ => 0, fun r hr => absurd hr (by simp)⟩, fun r r' _ hr => absurd hr (by simp)⟩, fun q hq => absurd hq (by simp)⟩
section
variable (h : Nat) (S : ST) (d : DB) (W jr jf j : Nat) (its : IL) (sm gb0 : Bool) (P : WL) (Q : Option AV → ST → Prop) (A : AR)
theorem sel_open (v0 : Nat → Int32) (m0 : Nat → Bool) (hd : DbC S d) (hj4 : j < 4) (hj : jf < 2) (h6 : gr S 2 4 0 = jf) (rest : WL) (hP : PrC S P) (hp : P = w0 sm gb0 ++ (nI 21, nI j) :: rest) (hM : ∃ i0 c0, Mode its sm gb0 i0 c0) (K : ∀ (g' : Nat → Bool) (w : Nat → Int64) (o : Nat → Int32) (g : Int32) (v : Nat → Int32) (m : Nat → Bool), RelS its (sel0 sm gb0 A).1 (sel0 sm gb0 A).2 w o → (gb0 = false → sm = true → g = nI 0) → RUN (h + 2) (nI W) ((w0 sm gb0).length + 1) (cS (oS (rS S jf) j g' (dR d j)) ((w0 sm gb0).length + 1) ((w0 sm gb0).length + 1) v m 0 jf w o (sel0 sm gb0 A).1 g) Q) : RUN (h + 2) (nI W) 0 (mp (rg (rS S jf) 0 0) v0 m0 0) Q := by
  have e0 : mp (rg (rS S jf) 0 0) v0 m0 0 = cS (rS S jf) 0 0 v0 m0 0 jf (gb S 18 jf) (ga S 20 jf) 0 (nI 0) := by (apply ST_ext <;> intros <;> (try simp only [cS, mp, rg, rs, tg, rS, gi_si, gi_sl, gi_sz, gi_sr, gi_sa, gi_sb, gi_sy, gl_si, gl_sl, gl_sz, gl_sr, gl_sa, gl_sb, gl_sy, gz_si, gz_sl, gz_sz, gz_sr, gz_sa, gz_sb, gz_sy, gr_si, gr_sl, gr_sz, gr_sr, gr_sa, gr_sb, gr_sy, ga_si, ga_sl, ga_sz, ga_sr, ga_sa, ga_sb, ga_sy, gb_si, gb_sl, gb_sz, gb_sr, gb_sa, gb_sb, gb_sy, gy_si, gy_sl, gy_sz, gy_sr, gy_sa, gy_sb, gy_sy, reduceIte, Nat.reduceEqDiff, and_true, true_and, and_self, false_and, and_false]) <;> (try ((repeat' split) <;> simp_all)))
  rw [e0]
  have hPr : PrC (rS S jf) P := by unfold PrC at *; simp only [rS, gi_si, gi_sl, gi_sz, gi_sr, gi_sa, gi_sb, gi_sy, gl_si, gl_sl, gl_sz, gl_sr, gl_sa, gl_sb, gl_sy, gz_si, gz_sl, gz_sz, gz_sr, gz_sa, gz_sb, gz_sy, gr_si, gr_sl, gr_sz, gr_sr, gr_sa, gr_sb, gr_sy, ga_si, ga_sl, ga_sz, ga_sr, ga_sa, ga_sb, ga_sy, gb_si, gb_sl, gb_sz, gb_sr, gb_sa, gb_sb, gb_sy, gy_si, gy_sl, gy_sz, gy_sr, gy_sa, gy_sb, gy_sy, reduceIte, Nat.reduceEqDiff, and_true, true_and, and_self, false_and, and_false]; exact hP
  have hdr : DbC (rS S jf) d := DbC_same hd (by simp only [rS, gi_si, gi_sl, gi_sz, gi_sr, gi_sa, gi_sb, gi_sy, gl_si, gl_sl, gl_sz, gl_sr, gl_sa, gl_sb, gl_sy, gz_si, gz_sl, gz_sz, gz_sr, gz_sa, gz_sb, gz_sy, gr_si, gr_sl, gr_sz, gr_sr, gr_sa, gr_sb, gr_sy, ga_si, ga_sl, ga_sz, ga_sr, ga_sa, ga_sb, ga_sy, gb_si, gb_sl, gb_sz, gb_sr, gb_sa, gb_sb, gb_sy, gy_si, gy_sl, gy_sz, gy_sr, gy_sa, gy_sb, gy_sy, reduceIte, Nat.reduceEqDiff, and_true, true_and, and_self, false_and, and_false]) (by intro k t; simp only [rS, gi_si, gi_sl, gi_sz, gi_sr, gi_sa, gi_sb, gi_sy, gl_si, gl_sl, gl_sz, gl_sr, gl_sa, gl_sb, gl_sy, gz_si, gz_sl, gz_sz, gz_sr, gz_sa, gz_sb, gz_sy, gr_si, gr_sl, gr_sz, gr_sr, gr_sa, gr_sb, gr_sy, ga_si, ga_sl, ga_sz, ga_sr, ga_sa, ga_sb, ga_sy, gb_si, gb_sl, gb_sz, gb_sr, gb_sa, gb_sb, gb_sy, gy_si, gy_sl, gy_sz, gy_sr, gy_sa, gy_sb, gy_sy, reduceIte, Nat.reduceEqDiff, and_true, true_and, and_self, false_and, and_false]) (by intro t; simp only [rS, gi_si, gi_sl, gi_sz, gi_sr, gi_sa, gi_sb, gi_sy, gl_si, gl_sl, gl_sz, gl_sr, gl_sa, gl_sb, gl_sy, gz_si, gz_sl, gz_sz, gz_sr, gz_sa, gz_sb, gz_sy, gr_si, gr_sl, gr_sz, gr_sr, gr_sa, gr_sb, gr_sy, ga_si, ga_sl, ga_sz, ga_sr, ga_sa, ga_sb, ga_sy, gb_si, gb_sl, gb_sz, gb_sr, gb_sa, gb_sb, gb_sy, gy_si, gy_sl, gy_sz, gy_sr, gy_sa, gy_sb, gy_sy, reduceIte, Nat.reduceEqDiff, and_true, true_and, and_self, false_and, and_false]; try exact ⟨rfl, rfl, rfl, rfl⟩)
  have ec : ∀ g' w o k g, oS (rs (tg (rS S jf) g) jf w o k) j g' (dR d j) = rs (tg (oS (rS S jf) j g' (dR d j)) g) jf w o k := by intro g' w o k g; (apply ST_ext <;> intros <;> (try simp only [oS, rs, tg, gi_si, gi_sl, gi_sz, gi_sr, gi_sa, gi_sb, gi_sy, gl_si, gl_sl, gl_sz, gl_sr, gl_sa, gl_sb, gl_sy, gz_si, gz_sl, gz_sz, gz_sr, gz_sa, gz_sb, gz_sy, gr_si, gr_sl, gr_sz, gr_sr, gr_sa, gr_sb, gr_sy, ga_si, ga_sl, ga_sz, ga_sr, ga_sa, ga_sb, ga_sy, gb_si, gb_sl, gb_sz, gb_sr, gb_sa, gb_sb, gb_sy, gy_si, gy_sl, gy_sz, gy_sr, gy_sa, gy_sb, gy_sy, reduceIte, Nat.reduceEqDiff, and_true, true_and, and_self, false_and, and_false]) <;> (try ((repeat' split) <;> simp_all)))
  have outer : ∀ (a : Nat) (w : Nat → Int64) (o : Nat → Int32) (g : Int32), a = (w0 sm gb0).length → RelS its (sel0 sm gb0 A).1 (sel0 sm gb0 A).2 w o → (gb0 = false → sm = true → g = nI 0) → RUN (h + 2) (nI W) a (cS (rS S jf) a a v0 m0 0 jf w o (sel0 sm gb0 A).1 g) Q := by
    intro a w o g ha hR hg
    have hlw : (w0 sm gb0).length ≤ 1 := by unfold w0; split <;> simp
    refine run_G h (nI W) (rs (tg (rS S jf) g) jf w o (sel0 sm gb0 A).1) Q _ P a a 21 (nI j) _ _ 0 (cS_P hPr ..) (by simp only [rs, tg, rS, gi_si, gi_sl, gi_sz, gi_sr, gi_sa, gi_sb, gi_sy, gl_si, gl_sl, gl_sz, gl_sr, gl_sa, gl_sb, gl_sy, gz_si, gz_sl, gz_sz, gz_sr, gz_sa, gz_sb, gz_sy, gr_si, gr_sl, gr_sz, gr_sr, gr_sa, gr_sb, gr_sy, ga_si, ga_sl, ga_sz, ga_sr, ga_sa, ga_sb, ga_sy, gb_si, gb_sl, gb_sz, gb_sr, gb_sa, gb_sb, gb_sy, gy_si, gy_sl, gy_sz, gy_sr, gy_sa, gy_sb, gy_sy, reduceIte, Nat.reduceEqDiff, and_true, true_and, and_self, false_and, and_false]) (by rw [hp, ha]; simp) (by omega) (by decide) (by decide) (c_goOuter (h + 2) _ _ _ _ _ 0 d j (rs_Db hdr ..) hj4) ?_
    rintro S' ⟨g', rfl, _⟩
    rw [ec]
    subst ha
    exact K g' w o g _ _ hR hg
  by_cases e : sm = true ∧ gb0 = false
  · obtain ⟨rfl, rfl⟩ := e
    have ew : w0 true false = [(nI 30, nI 0)] := by simp [w0]
    have es : sel0 true false A = (1, beg A 0) := by simp [sel0]
    rw [ew] at hp outer
    rw [es] at outer
    have hall : ∀ b, b < its.length → isAgg (agI its b) := by
      obtain ⟨i0, c0, h1, h4, hm⟩ := hM
      rcases hm with ⟨e, _⟩ | ⟨_, _, hm⟩ | ⟨_, e, _⟩
      · exact absurd e (by decide)
      · intro b hb
        have : agI its b = (its[b]).1 := by simp [agI, List.getD, hb]
        rw [this]
        exact hm _ (List.getElem_mem hb)
      · exact absurd e (by decide)
    have hl4 : its.length ≤ 4 := by obtain ⟨i0, c0, h1, h4, hm⟩ := hM; exact h4
    refine run_L h (nI W) (rs (tg (rS S jf) (nI 0)) jf (gb S 18 jf) (ga S 20 jf) 0) Q _ P 0 0 30 (nI 0) _ _ 0 (cS_P hPr ..) (by simp only [rs, tg, rS, gi_si, gi_sl, gi_sz, gi_sr, gi_sa, gi_sb, gi_sy, gl_si, gl_sl, gl_sz, gl_sr, gl_sa, gl_sb, gl_sy, gz_si, gz_sl, gz_sz, gz_sr, gz_sa, gz_sb, gz_sy, gr_si, gr_sl, gr_sz, gr_sr, gr_sa, gr_sb, gr_sy, ga_si, ga_sl, ga_sz, ga_sr, ga_sa, ga_sb, ga_sy, gb_si, gb_sl, gb_sz, gb_sr, gb_sa, gb_sb, gb_sy, gy_si, gy_sl, gy_sz, gy_sr, gy_sa, gy_sb, gy_sy, reduceIte, Nat.reduceEqDiff, and_true, true_and, and_self, false_and, and_false]) (by rw [hp]; simp) (by decide) (by decide) (by decide) (c_colWhole h (rS S jf) 1 1 _ _ 0 jf _ _ 0 (nI 0) (nI 0) hj (by simp only [rS, gi_si, gi_sl, gi_sz, gi_sr, gi_sa, gi_sb, gi_sy, gl_si, gl_sl, gl_sz, gl_sr, gl_sa, gl_sb, gl_sy, gz_si, gz_sl, gz_sz, gz_sr, gz_sa, gz_sb, gz_sy, gr_si, gr_sl, gr_sz, gr_sr, gr_sa, gr_sb, gr_sy, ga_si, ga_sl, ga_sz, ga_sr, ga_sa, ga_sb, ga_sy, gb_si, gb_sl, gb_sz, gb_sr, gb_sa, gb_sb, gb_sy, gy_si, gy_sl, gy_sz, gy_sr, gy_sa, gy_sb, gy_sy, reduceIte, Nat.reduceEqDiff, and_true, true_and, and_self, false_and, and_false]; exact h6) (by decide)) ?_
    rintro S' rfl
    refine outer 1 _ _ _ rfl ⟨fun r hr => ?_, fun r hr b hb => ?_⟩ (fun _ _ => rfl)
    · have : r = 0 := by simp only at hr; omega
      subst this
      exact up1_s ..
    · have : r = 0 := by simp only at hr; omega
      subst this
      have hag := hall b hb
      unfold RC
      rw [rcV_beg hag (by omega)]
      exact zr4_in _ _ _ (by omega)
  · have ew : w0 sm gb0 = [] := by simp [w0]; intro e1; simpa using fun e2 => e ⟨e1, e2⟩
    have es : sel0 sm gb0 A = (0, A) := by rw [sel0, if_neg e]
    rw [es] at outer
    exact outer 0 _ _ _ (by rw [ew]; rfl) ⟨fun r hr => absurd hr (by simp), fun r hr => absurd hr (by simp)⟩ (fun e2 e1 => absurd ⟨e1, e2⟩ e)
end
theorem toW_le : ∀ (its : IL) (i : Nat), (toW its i).length ≤ its.length := by
  intro its
  induction its with
  | nil => intro i; exact Nat.le_refl _
  | cons x l ih =>
    intro i
    have := ih (i + 1)
    rw [toW, List.length_append, List.length_cons]
    split
    · simp; omega
    · split <;> simp <;> omega
theorem selI_JS {sm gb0 : Bool} {its : IL} {cnd : Option WL} {d : DB} {tj : Nat → Nat} {i0 c0 r : Nat} (hM : Mode its sm gb0 i0 c0) (hrw : ∀ s, gb0 = true → (fun i => if i = 0 then r else s) i0 < 24 ∨ 24 ≤ s) : ∀ {n s p : Nat} {σ : Nat × AR}, s + n ≤ 24 → JS sm gb0 d (tj i0) c0 p σ → JS sm gb0 d (tj i0) c0 (p + n) (selI sm gb0 its cnd d tj r n s σ).2 := by
  intro n
  induction n with
  | zero => intro s p σ hs hJ; exact hJ
  | succ n ih =>
    intro s p σ hs hJ
    have h1 : JS sm gb0 d (tj i0) c0 (p + 1) (prS sm gb0 its cnd (ld2 d tj r s) σ).2 := JS_pr cnd hM hJ (fun e => by rcases hrw s e with h | h; exact h; omega)
    rw [selI]
    split
    · have := ih (s := s + 1) (by omega) h1
      rw [show p + (n + 1) = p + 1 + n by omega]
      exact this
    · exact JS_mono h1 (by omega)
theorem selO_JS {sm gb0 : Bool} {its : IL} {cnd : Option WL} {d : DB} {tj : Nat → Nat} {i0 c0 I : Nat} (hM : Mode its sm gb0 i0 c0) (hI : I ≤ 24) : ∀ {n r p : Nat} {σ : Nat × AR}, r + n ≤ 24 → JS sm gb0 d (tj i0) c0 p σ → JS sm gb0 d (tj i0) c0 (p + n * I) (selO sm gb0 its cnd d tj I n r σ).2 := by
  intro n
  induction n with
  | zero => intro r p σ hs hJ; rw [Nat.zero_mul]; exact hJ
  | succ n ih =>
    intro r p σ hs hJ
    have h1 : JS sm gb0 d (tj i0) c0 (p + I) (selI sm gb0 its cnd d tj r I 0 σ).2 := selI_JS hM (fun s e => by
      by_cases q : i0 = 0
      · left; simp only [q, reduceIte]; omega
      · simp only [q, reduceIte]; omega) (by omega) hJ
    rw [selO]
    split
    · have := ih (r := r + 1) (by omega) h1
      rw [Nat.succ_mul, show p + (n * I + I) = p + I + n * I by omega]
      exact this
    · rw [Nat.succ_mul]
      exact JS_mono h1 (by omega)
theorem os_Y (S : ST) (j q : Nat) (g : Nat → Bool) : oS S j g q = Yr (oS S j g q) (-1) (gi S 2 8 0) := by (apply ST_ext <;> intros <;> (try simp only [Yr, oS, gi_si, gi_sl, gi_sz, gi_sr, gi_sa, gi_sb, gi_sy, gl_si, gl_sl, gl_sz, gl_sr, gl_sa, gl_sb, gl_sy, gz_si, gz_sl, gz_sz, gz_sr, gz_sa, gz_sb, gz_sy, gr_si, gr_sl, gr_sz, gr_sr, gr_sa, gr_sb, gr_sy, ga_si, ga_sl, ga_sz, ga_sr, ga_sa, ga_sb, ga_sy, gb_si, gb_sl, gb_sz, gb_sr, gb_sa, gb_sb, gb_sy, gy_si, gy_sl, gy_sz, gy_sr, gy_sa, gy_sb, gy_sy, reduceIte, Nat.reduceEqDiff, and_true, true_and, and_self, false_and, and_false]) <;> (try ((repeat' split) <;> simp_all)))
section
variable (h : Nat) (S : ST) (d : DB) (W jr jf : Nat) (its : IL) (sm gb0 : Bool) (cnd : Option WL) (on : Int32) (desc : Bool) (tj : Nat → Nat) (A : AR) (i0 c0 : Nat)
theorem Mode_ai {its : IL} {sm gb0 : Bool} {i0 c0 : Nat} (hM : Mode its sm gb0 i0 c0) : ∀ b, b < its.length → agI its b = -1 ∨ isAgg (agI its b) := by
  obtain ⟨h1, h4, hm⟩ := hM
  intro b hb
  have e : agI its b = (its[b]).1 := by simp [agI, List.getD, hb]
  rcases hm with ⟨_, _, hm⟩ | ⟨_, _, hm⟩ | ⟨_, _, _, _, l, rfl, hm⟩
  · exact Or.inl (hm b)
  · right; rw [e]; exact hm _ (List.getElem_mem hb)
  · cases b with
    | zero => left; rfl
    | succ b => right; rw [e]; exact hm _ (by simp)
theorem Mode_24 {its : IL} {sm gb0 : Bool} {i0 c0 p : Nat} {d : DB} {t : Nat} {σ : Nat × AR} (hM : Mode its sm gb0 i0 c0) (hJ : JS sm gb0 d t c0 p σ) : (∃ b, b < its.length ∧ isAgg (agI its b)) → σ.1 ≤ 24 := by
  rintro ⟨b, hb, hb2⟩
  obtain ⟨h1, h4, hm⟩ := hM
  rcases hm with ⟨_, _, hm⟩ | ⟨rfl, rfl, hm⟩ | ⟨rfl, rfl, _, _, l, rfl, hm⟩
  · exact absurd (hm b) (isAgg_ne hb2)
  · have := hJ.2.1 rfl rfl; omega
  · exact JK_24 (hJ.2.2.1 rfl)
theorem JS_576 {sm gb0 : Bool} {d : DB} {t c p : Nat} {σ : Nat × AR} (hJ : JS sm gb0 d t c p σ) (hp : p ≤ 576) : σ.1 ≤ 576 := by
  by_cases e : sm = false
  · have := hJ.1 e; omega
  · have e1 : sm = true := by simpa using e
    by_cases e2 : gb0 = false
    · have := hJ.2.1 e1 e2; omega
    · have := JK_24 (hJ.2.2.1 (by simpa using e2)); omega
theorem bod_len : (bodW sm gb0 its).length ≤ (flt its).length + its.length + 1 := by
  unfold bodW
  rw [List.length_append, itW_len]
  split <;> simp
theorem run_select1 (hd : DbC S d) (hj0 : tj 0 < 4) (hM : Mode its sm gb0 i0 c0) (hi0 : gb0 = true → i0 < 1) (hc : ∀ c, cnd = some c → EH d 1 tj c 0 ∧ OVC c) (hI : ∀ y, y ∈ its → EH d 1 tj y.2 0 ∧ OV y.2) (hon : on = -1 ∨ ∃ q, on = nI q ∧ 1 ≤ q ∧ q ≤ its.length) (hW : (flt its).length + (cnd.getD []).length + 1 ≤ W) (hW2 : W ≤ 200) (hjr : gr S 2 3 0 = jr) (hjf : gr S 2 4 0 = jf) (hj : jf < 2) (hjr2 : jr < 2) (hne : jr ≠ jf) (hpl : Pil S) (hP : PrC S (seW sm gb0 1 tj its cnd on desc ++ [(nI 27, nI 0)])) : Ct MX2_run (h + 6) [vR 2 0, vI (nI W)] S (SelQ S d jr its on desc (selO sm gb0 its cnd d tj 1 (dR d (tj 0)) 0 (sel0 sm gb0 A))) := by
  have h24 := (hd.2 (tj 0) hj0).2.1.2
  have hl4 := hM.2.1
  obtain ⟨v0, m0, hu⟩ := hpl
  refine c_run (h + 2) S (nI W) jf _ v0 m0 hu hj hjf ?_
  have hlu : ∀ nx, (unl cnd nx).length ≤ (cnd.getD []).length + 1 := by intro nx; cases cnd <;> simp [unl]
  have hlb := bod_len its sm gb0
  have hlt := toW_le its 0
  have hlw : (w0 sm gb0).length ≤ 1 := by unfold w0; split <;> simp
  -- the program's parts
  obtain ⟨pre0, hpre⟩ : ∃ p, p = w0 sm gb0 ++ [(nI 21, nI (tj 0))] := ⟨_, rfl⟩
  have hpl : pre0.length = (w0 sm gb0).length + 1 := by rw [hpre]; simp
  obtain ⟨E, hE⟩ : ∃ E, E = pre0.length + (unl cnd pre0.length ++ bodW sm gb0 its).length + 2 := ⟨_, rfl⟩
  have eP : seW sm gb0 1 tj its cnd on desc ++ [(nI 27, nI 0)] = pre0 ++ [(nI 23, nI E)] ++ unl cnd pre0.length ++ bodW sm gb0 its ++ [(nI 26, nI pre0.length)] ++ (toW its 0 ++ orW on desc ++ [(nI 40, nI its.length)] ++ [(nI 27, nI 0)]) := by
    have e1 : seB sm gb0 1 tj its cnd = pre0 ++ (nI 23, nI 0) :: (unl cnd pre0.length ++ bodW sm gb0 its) := by
      rw [hpre]
      simp [seB, srN, sr1, bodW]
    have e2 : nxN 1 (w0 sm gb0).length = pre0.length := by rw [hpl]; rfl
    unfold seW
    rw [e1, e2]
    simp only [show ¬ 1 = 2 by decide, reduceIte]
    rw [enR_mid, ← hE]
    simp
  have hEl : E = (pre0 ++ [(nI 23, nI E)] ++ unl cnd pre0.length ++ bodW sm gb0 its ++ [(nI 26, nI pre0.length)]).length := by simp at hE ⊢; omega
  obtain ⟨P, hPe⟩ : ∃ P, P = seW sm gb0 1 tj its cnd on desc ++ [(nI 27, nI 0)] := ⟨_, rfl⟩
  rw [← hPe] at hP eP
  have hb3 : dR d (tj 0) * (2 + (unl cnd pre0.length).length + (bodW sm gb0 its).length) ≤ 24 * 409 := Nat.mul_le_mul h24 (by have := hlu pre0.length; omega)
  have hbnd : dR d (tj 0) * (2 + (unl cnd pre0.length).length + (bodW sm gb0 its).length) + 20 ≤ 400 * W * (dR d (tj 0) + 1) := by
    have h1 : dR d (tj 0) * (2 + (unl cnd pre0.length).length + (bodW sm gb0 its).length) ≤ dR d (tj 0) * (400 * W) := Nat.mul_le_mul (Nat.le_refl _) (by have := hlu pre0.length; omega)
    rw [Nat.mul_succ, Nat.mul_comm (400 * W)]
    omega
  have hres := selO_JS (cnd := cnd) (tj := tj) (I := 1) (n := dR d (tj 0)) (r := 0) (p := 0) (σ := sel0 sm gb0 A) hM (by decide) (by omega) (sel0_JS (d := d) (t := tj i0) (c := c0))
  rw [Nat.zero_add, Nat.mul_one] at hres
  refine sel_open h S d W jf (tj 0) its sm gb0 P _ A v0 m0 hd hj0 hj hjf ([(nI 23, nI E)] ++ unl cnd pre0.length ++ bodW sm gb0 its ++ [(nI 26, nI pre0.length)] ++ (toW its 0 ++ orW on desc ++ [(nI 40, nI its.length)] ++ [(nI 27, nI 0)])) hP (by rw [eP, hpre]; simp) ⟨i0, c0, hM⟩ ?_
  intro g' w o g v m hR hg
  have hX0 : OKX S (oS (rS S jf) (tj 0) g' (dR d (tj 0))) d jr (dR d (tj 0)) := by
    rw [os_mk]
    exact OKX_m S d (tj 0) jr (OKX_0 hd hne) g' g' _ (-1) (dR d (tj 0))
  have hP0 : PrC (oS (rS S jf) (tj 0) g' (dR d (tj 0))) P := by unfold PrC at *; simp only [oS, rS, gi_si, gi_sl, gi_sz, gi_sr, gi_sa, gi_sb, gi_sy, gl_si, gl_sl, gl_sz, gl_sr, gl_sa, gl_sb, gl_sy, gz_si, gz_sl, gz_sz, gz_sr, gz_sa, gz_sb, gz_sy, gr_si, gr_sl, gr_sz, gr_sr, gr_sa, gr_sb, gr_sy, ga_si, ga_sl, ga_sz, ga_sr, ga_sa, ga_sb, ga_sy, gb_si, gb_sl, gb_sz, gb_sr, gb_sa, gb_sb, gb_sy, gy_si, gy_sl, gy_sz, gy_sr, gy_sa, gy_sb, gy_sy, reduceIte, Nat.reduceEqDiff, and_true, true_and, and_self, false_and, and_false]; exact hP
  have eY := os_Y (rS S jf) (tj 0) (dR d (tj 0)) g'
  rw [eY, ← hpl]
  refine sel_loop1 h (nI W) d tj _ P (toW its 0 ++ orW on desc ++ [(nI 40, nI its.length)] ++ [(nI 27, nI 0)]) jf its sm gb0 i0 c0 cnd (oS (rS S jf) (tj 0) g' (dR d (tj 0))) pre0 E (3 + dR d (tj 0) * (2 + (unl cnd pre0.length).length + (bodW sm gb0 its).length)) (sel0 sm gb0 A) hP0 (by rw [eP]) (by simp only [oS, rS, gi_si, gi_sl, gi_sz, gi_sr, gi_sa, gi_sb, gi_sy, gl_si, gl_sl, gl_sz, gl_sr, gl_sa, gl_sb, gl_sy, gz_si, gz_sl, gz_sz, gz_sr, gz_sa, gz_sb, gz_sy, gr_si, gr_sl, gr_sz, gr_sr, gr_sa, gr_sb, gr_sy, ga_si, ga_sl, ga_sz, ga_sr, ga_sa, ga_sb, ga_sy, gb_si, gb_sl, gb_sz, gb_sr, gb_sa, gb_sb, gb_sy, gy_si, gy_sl, gy_sz, gy_sr, gy_sa, gy_sb, gy_sy, reduceIte, Nat.reduceEqDiff, and_true, true_and, and_self, false_and, and_false]) hX0.2.1 hj0 (by simp only [oS, gi_si, gi_sl, gi_sz, gi_sr, gi_sa, gi_sb, gi_sy, gl_si, gl_sl, gl_sz, gl_sr, gl_sa, gl_sb, gl_sy, gz_si, gz_sl, gz_sz, gz_sr, gz_sa, gz_sb, gz_sy, gr_si, gr_sl, gr_sz, gr_sr, gr_sa, gr_sb, gr_sy, ga_si, ga_sl, ga_sz, ga_sr, ga_sa, ga_sb, ga_sy, gb_si, gb_sl, gb_sz, gb_sr, gb_sa, gb_sb, gb_sy, gy_si, gy_sl, gy_sz, gy_sr, gy_sa, gy_sb, gy_sy, reduceIte, Nat.reduceEqDiff, and_true, true_and, and_self, false_and, and_false]) hj (by simp only [oS, rS, gi_si, gi_sl, gi_sz, gi_sr, gi_sa, gi_sb, gi_sy, gl_si, gl_sl, gl_sz, gl_sr, gl_sa, gl_sb, gl_sy, gz_si, gz_sl, gz_sz, gz_sr, gz_sa, gz_sb, gz_sy, gr_si, gr_sl, gr_sz, gr_sr, gr_sa, gr_sb, gr_sy, ga_si, ga_sl, ga_sz, ga_sr, ga_sa, ga_sb, ga_sy, gb_si, gb_sl, gb_sz, gb_sr, gb_sa, gb_sb, gb_sy, gy_si, gy_sl, gy_sz, gy_sr, gy_sa, gy_sb, gy_sy, reduceIte, Nat.reduceEqDiff, and_true, true_and, and_self, false_and, and_false]; exact hjf) hM hi0 hc hI (by omega) ?_ ?_ (dR d (tj 0)) 0 pre0.length (-1) _ (sel0 sm gb0 A) w o g v m (by omega) (by decide) hR hg sel0_JS rfl (by omega)
  · intro f y9 y10 w o k g a n v m t hn ef hf
    have el : limL (oS (rS S jf) (tj 0) g' (dR d (tj 0))) (nI W) = limL (Yr (oS (rS S jf) (tj 0) g' (dR d (tj 0))) y9 y10) (nI W) := by simp only [limL, Yr, gi_si, gi_sl, gi_sz, gi_sr, gi_sa, gi_sb, gi_sy, gl_si, gl_sl, gl_sz, gl_sr, gl_sa, gl_sb, gl_sy, gz_si, gz_sl, gz_sz, gz_sr, gz_sa, gz_sb, gz_sy, gr_si, gr_sl, gr_sz, gr_sr, gr_sa, gr_sb, gr_sy, ga_si, ga_sl, ga_sz, ga_sr, ga_sa, ga_sb, ga_sy, gb_si, gb_sl, gb_sz, gb_sr, gb_sa, gb_sb, gb_sy, gy_si, gy_sl, gy_sz, gy_sr, gy_sa, gy_sb, gy_sy, reduceIte, Nat.reduceEqDiff, and_true, true_and, and_self, false_and, and_false]
    rw [el]
    subst ef
    exact Or.inl ⟨hf, rfl, exit_c (OKX_Y hX0 y9 y10) hne _ a n v m t w o k g (by omega) hW2 (by omega)⟩
  · intro h0 y9 y10 w o g n v m hn hR'
    refine sel_end h S d W jr jf its on desc P (Yr (oS (rS S jf) (tj 0) g' (dR d (tj 0))) y9 y10) (dR d (tj 0)) (OKX_Y hX0 y9 y10) (Yr_P hP0 ..) (by simp only [Yr, oS, rS, gi_si, gi_sl, gi_sz, gi_sr, gi_sa, gi_sb, gi_sy, gl_si, gl_sl, gl_sz, gl_sr, gl_sa, gl_sb, gl_sy, gz_si, gz_sl, gz_sz, gz_sr, gz_sa, gz_sb, gz_sy, gr_si, gr_sl, gr_sz, gr_sr, gr_sa, gr_sb, gr_sy, ga_si, ga_sl, ga_sz, ga_sr, ga_sa, ga_sb, ga_sy, gb_si, gb_sl, gb_sz, gb_sr, gb_sa, gb_sb, gb_sy, gy_si, gy_sl, gy_sz, gy_sr, gy_sa, gy_sb, gy_sy, reduceIte, Nat.reduceEqDiff, and_true, true_and, and_self, false_and, and_false]) hj hjr2 hne (by simp only [Yr, oS, rS, gi_si, gi_sl, gi_sz, gi_sr, gi_sa, gi_sb, gi_sy, gl_si, gl_sl, gl_sz, gl_sr, gl_sa, gl_sb, gl_sy, gz_si, gz_sl, gz_sz, gz_sr, gz_sa, gz_sb, gz_sy, gr_si, gr_sl, gr_sz, gr_sr, gr_sa, gr_sb, gr_sy, ga_si, ga_sl, ga_sz, ga_sr, ga_sa, ga_sb, ga_sy, gb_si, gb_sl, gb_sz, gb_sr, gb_sa, gb_sb, gb_sy, gy_si, gy_sl, gy_sz, gy_sr, gy_sa, gy_sb, gy_sy, reduceIte, Nat.reduceEqDiff, and_true, true_and, and_self, false_and, and_false]; exact hjr) (by simp only [Yr, oS, rS, gi_si, gi_sl, gi_sz, gi_sr, gi_sa, gi_sb, gi_sy, gl_si, gl_sl, gl_sz, gl_sr, gl_sa, gl_sb, gl_sy, gz_si, gz_sl, gz_sz, gz_sr, gz_sa, gz_sb, gz_sy, gr_si, gr_sl, gr_sz, gr_sr, gr_sa, gr_sb, gr_sy, ga_si, ga_sl, ga_sz, ga_sr, ga_sa, ga_sb, ga_sy, gb_si, gb_sl, gb_sz, gb_sr, gb_sa, gb_sb, gb_sy, gy_si, gy_sl, gy_sz, gy_sr, gy_sa, gy_sb, gy_sy, reduceIte, Nat.reduceEqDiff, and_true, true_and, and_self, false_and, and_false]; exact hjf) hl4 (Mode_ai hM) hon _ h0 (JS_576 hres (by omega)) (Mode_24 hM hres) ?_ E n (pre0 ++ [(nI 23, nI E)] ++ unl cnd pre0.length ++ bodW sm gb0 its ++ [(nI 26, nI pre0.length)]) v m w o g (by rw [eP]; simp) hEl hR' (by omega) (by omega) hW2 (by omega)
    intro r hr b hb
    have hh := hres.2.2.2 (r * 4 + b) (by omega)
    exact ⟨by have := hh.1; omega, hh.2.2⟩
end
