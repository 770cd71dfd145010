-- deps: 337
-- the model: what delete, update and select share
theorem RX_k {T : WL} {K : KA} : ∀ (k f : Nat) (x : WL), RX T K f k x → RX T K (k + 1) k x := by
  intro k
  induction k using Nat.strongRecOn with
  | ind k ih =>
    intro f x h
    cases f with
    | zero => exact h.elim
    | succ f =>
      rcases h with h | h | h | h | ⟨y, l, h1, h2, h3, h4⟩ | ⟨y, z, l, r, o, m, h1, h2, h3, h4, h5, h6⟩
      · exact Or.inl h
      · exact Or.inr (Or.inl h)
      · exact Or.inr (Or.inr (Or.inl h))
      · exact Or.inr (Or.inr (Or.inr (Or.inl h)))
      · exact Or.inr (Or.inr (Or.inr (Or.inr (Or.inl ⟨y, l, RX_mono (ih l h2 f y h1) (by omega), h2, h3, h4⟩))))
      · exact Or.inr (Or.inr (Or.inr (Or.inr (Or.inr ⟨y, z, l, r, o, m, RX_mono (ih l h3.1 f y h1) (by omega), RX_mono (ih r h3.2 f z h2) (by omega), h3, h4, h5, h6⟩))))
theorem RCk_k {T : WL} {K : KA} : ∀ (k f : Nat) (x : WL), RCk T K f k x → RCk T K (k + 1) k x := by
  intro k
  induction k using Nat.strongRecOn with
  | ind k ih =>
    intro f x h
    cases f with
    | zero => exact h.elim
    | succ f =>
      rcases h with ⟨y, l, h1, h2, h3, h4⟩ | ⟨y, z, l, r, o, m, h1, h2, h3, h4, h5, h6⟩ | ⟨y, l, h1, h2, h3, h4⟩ | ⟨y, z, l, r, o, m, h1, h2, h3, h4, h5, h6⟩
      · exact Or.inl ⟨y, l, RX_mono (RX_k l f y h1) (by omega), h2, h3, h4⟩
      · exact Or.inr (Or.inl ⟨y, z, l, r, o, m, RX_mono (RX_k l f y h1) (by omega), RX_mono (RX_k r f z h2) (by omega), h3, h4, h5, h6⟩)
      · exact Or.inr (Or.inr (Or.inl ⟨y, l, RCk_mono (ih l h2 f y h1) (by omega), h2, h3, h4⟩))
      · exact Or.inr (Or.inr (Or.inr ⟨y, z, l, r, o, m, RCk_mono (ih l h3.1 f y h1) (by omega), RCk_mono (ih r h3.2 f z h2) (by omega), h3, h4, h5, h6⟩))
theorem rX_220 {T : WL} {K : KA} {k : Nat} {x : WL} (hk : k < 220) (h : rX T K k x) : RX T K 220 k x := by
  obtain ⟨f, h⟩ := h
  exact RX_mono (RX_k k f x h) (by omega)
theorem rC_220 {T : WL} {K : KA} {k : Nat} {x : WL} (hk : k < 220) (h : rC T K k x) : RCk T K 220 k x := by
  obtain ⟨f, h⟩ := h
  exact RCk_mono (RCk_k k f x h) (by omega)
/-- values hang on the places that the words name -/
theorem els_mem {ld ld' : Nat → Nat → VN} : ∀ {x : WL}, (∀ w, w ∈ x → ∀ st, el1 ld w st = el1 ld' w st) → ∀ st, els ld x st = els ld' x st := by
  intro x
  induction x with
  | nil => intro _ st; rfl
  | cons w ws ih =>
    intro h st
    rw [els, els, h w (by simp) st]
    rw [ih (fun w' hw => h w' (by simp [hw]))]
theorem el1_o (ld ld' : Nat → Nat → VN) (o : Nat) (v : Int32) (st : List VN) (h : ¬ (o = 4 ∨ o = 5)) (ho : o < 1000) : el1 ld (nI o, v) st = el1 ld' (nI o, v) st := by
  have h4 : ¬ nI o = nI 4 := by rw [n_eqE (by omega) (by omega)]; omega
  have h5 : ¬ nI o = nI 5 := by rw [n_eqE (by omega) (by omega)]; omega
  unfold el1
  simp only [h4, h5, reduceIte]
theorem YX_mem {ld ld' : Nat → Nat → VN} {K : Nat → Option Nat} (h : ∀ i n c, i < 2 → K i = some n → c < n → c < 1000 ∧ ld i c = ld' i c) : ∀ {f : Nat} {x : WL}, YX K f x → ∀ w, w ∈ x → ∀ st, el1 ld w st = el1 ld' w st := by
  intro f
  induction f with
  | zero => intro x hx; exact hx.elim
  | succ f ih =>
    intro x hx w hw st
    rcases hx with ⟨y, rfl⟩ | ⟨y, rfl⟩ | rfl | ⟨i, c, n, rfl, hi, hK, hc⟩ | ⟨a, o, ha, ho, rfl⟩ | ⟨a, b, o, ha, hb, ho, rfl⟩
    · rw [List.mem_singleton] at hw; subst hw; exact el1_o ld ld' 1 _ _ (by decide) (by decide)
    · rw [List.mem_singleton] at hw; subst hw; exact el1_o ld ld' 2 _ _ (by decide) (by decide)
    · rw [List.mem_singleton] at hw; subst hw; exact el1_o ld ld' 3 _ _ (by decide) (by decide)
    · rw [List.mem_singleton] at hw
      subst hw
      obtain ⟨h1, h2⟩ := h i n c hi hK hc
      have : i = 0 ∨ i = 1 := by omega
      rcases this with rfl | rfl
      · simp [el1, show ¬ nI 4 = nI 1 by decide, show ¬ nI 4 = nI 2 by decide, show ¬ nI 4 = nI 3 by decide, nI_clamp (show c < 2 ^ 31 by omega), h2]
      · simp [el1, show ¬ nI 5 = nI 1 by decide, show ¬ nI 5 = nI 2 by decide, show ¬ nI 5 = nI 3 by decide, show ¬ nI 5 = nI 4 by decide, nI_clamp (show c < 2 ^ 31 by omega), h2]
    · rw [List.mem_append, List.mem_singleton] at hw
      rcases hw with hw | rfl
      · exact ih ha w hw st
      · exact el1_o ld ld' o _ _ (by omega) (by omega)
    · rw [List.mem_append, List.mem_append, List.mem_singleton] at hw
      rcases hw with (hw | hw) | rfl
      · exact ih ha w hw st
      · exact ih hb w hw st
      · exact el1_o ld ld' o _ _ (by omega) (by omega)
theorem EX_cg {ld ld' : Nat → Nat → VN} {K : Nat → Option Nat} {x : WL} {fl : Int32} {r : VN} (h : ∀ i n c, i < 2 → K i = some n → c < n → c < 1000 ∧ ld i c = ld' i c) (hY : isY K x) (hE : EX ld x fl r) : EX ld' x fl r := by
  obtain ⟨f, hf⟩ := hY
  have := els_mem (YX_mem h hf)
  refine ⟨hE.1, fun st => ?_⟩
  rw [← this st]
  exact hE.2 st
theorem evX_of {ld : Nat → Nat → VN} {x : WL} {fl : Int32} {r : VN} (h : EX ld x fl r) : (evX ld x).1 = fl ∧ (fl = nI 0 → (evX ld x).2 = r) := by
  have := h.2 []
  unfold evX
  by_cases q : fl = nI 0
  · rw [this.2 q]
    exact ⟨q.symm, fun _ => rfl⟩
  · exact ⟨this.1 q, fun z => absurd z q⟩
theorem mld_ld {B : ST} {d : DB} {tj rj : Nat → Nat} {i c : Nat} (hA : AbsM B d) (hW : DbW d) (ht : tj i < dC d) (hc : c < dK d (tj i)) (hr : rj i < dR d (tj i)) : mld B tj rj i c = ldE d tj rj i c := by
  have h1 := ((hA.2.2 (tj i) ht).2.2 c hc).2 (rj i) hr
  have h2 := (hW.2.2 (tj i) ht c hc).2 (rj i) hr
  unfold mld ldE
  rw [h1.1, h1.2]
  by_cases q : dM d (tj i) (rj i * 4 + c) = true
  · rw [if_pos q, h2 q]
  · rw [if_neg q]
/-- the rows that are looked at, and the tables -/
def Wsd (B : ST) (d : DB) (tc : Nat) (tj rj : Nat → Nat) : Prop := Wst B tc tj rj ∧ AbsM B d ∧ DbW d ∧ ∀ i, i < tc → tj i < dC d ∧ rj i < dR d (tj i)
theorem mld_cg {B : ST} {d : DB} {tc : Nat} {tj rj : Nat → Nat} (h : Wsd B d tc tj rj) : ∀ i n c, i < 2 → kkF d tj tc i = some n → c < n → c < 1000 ∧ mld B tj rj i c = ldE d tj rj i c := by
  intro i n c hi hK hc
  unfold kkF at hK
  by_cases q : i < tc
  · rw [if_pos q] at hK
    simp only [Option.some.injEq] at hK
    subst hK
    obtain ⟨h1, h2⟩ := h.2.2.2 i q
    have := (h.2.1.2.2 (tj i) h1).2.1.2.2.1
    exact ⟨by omega, mld_ld h.2.1 h.2.2.1 h1 hc h2⟩
  · rw [if_neg q] at hK
    simp at hK
/-- an expression's value, a condition's -/
theorem m_wk {B : ST} {d : DB} {tc : Nat} {tj rj : Nat → Nat} (hS : Wsd B d tc tj rj) {k : Nat} {x : WL} (hk : k < 220) (hR : RY (kOf B) (oOf B) tc 220 k x) (hY : isY (kkF d tj tc) x) : ((evX (ldE d tj rj) x).1 = nI 0 → (evX (ldE d tj rj) x).2.2 = true → (evX (ldE d tj rj) x).2.1 = nI 0) ∧ ∀ h z, Ct MX11_work (h + 222) [vR 11 0, vI (nI k)] (eS B (nI 0) z) (WQ B (evX (ldE d tj rj) x).1 (evX (ldE d tj rj) x).2) := by
  obtain ⟨fl, r, h1, h2, h3⟩ := m_work B tc tj rj hS.1 220 k x hk hR
  obtain ⟨e1, e2⟩ := evX_of (EX_cg (mld_cg hS) hY h1)
  by_cases q : fl = nI 0
  · have e2 := e2 q
    rw [e1, e2]
    exact ⟨fun _ => h2, fun h z => h3 h z⟩
  · rw [e1]
    refine ⟨fun y => absurd y q, fun h z => Ct_mono (h3 h z) (fun _ _ hq => ⟨fun y => absurd y q, hq.2⟩)⟩
def HoQ (B : ST) (p : Int32 × Bool) (q : Option AV) (S' : ST) : Prop := (p.1 = nI 0 → ∃ z, q = some (vI (b2i p.2)) ∧ S' = eS B (nI 0) z) ∧ (¬ p.1 = nI 0 → ∃ (b : Bool) (z : Bool), q = some (vI (b2i b)) ∧ S' = eS B p.1 z)
theorem ho_t {M : MD} {h : Nat} {As : List AV} {S0 B : ST} {p : Int32 × Bool} (hC : Ct M h As S0 (HoQ B p)) (hf : p.1 = nI 0) : Ct M h As S0 (fun q S' => ∃ z, q = some (vI (b2i p.2)) ∧ S' = eS B (nI 0) z) := Ct_mono hC (fun q S' hq => hq.1 hf)
theorem ho_f {M : MD} {h : Nat} {As : List AV} {S0 B : ST} {p : Int32 × Bool} (hC : Ct M h As S0 (HoQ B p)) (hf : ¬ p.1 = nI 0) : Ct M h As S0 (fun q S' => ∃ (b : Bool) (z : Bool), q = some (vI (b2i b)) ∧ S' = eS B p.1 z) := Ct_mono hC (fun q S' hq => hq.2 hf)
theorem m_holds_g (S : ST) (z : Bool) (h : Nat) (k : Nat) (hk : k < 1000) (r : VN) (fl : Int32) (hf : ¬ fl = nI 0) (M : Nat) (c1 : ∀ h, Ct MX11_judge (h + M) [vR 11 0, vI (nI k)] (eS S (nI 0) z) (JQ S fl r)) : Ct MX11_holds (h + M + 1) [vR 11 0, vI (nI k)] (eS S (nI 0) z) (fun q S' => ∃ (b : Bool) (z' : Bool), q = some (vI (b2i b)) ∧ S' = eS S fl z') := by
  have g3 : nI 0 ≤ nI k := nI_le (by omega) (by omega)
  have g4 : ¬ nI k < nI 0 := nI_nlt (by omega) (by omega)
  have d1 := fun h => jq_f (c1 h) hf
  refine e_X11_holds ?_
  repeat' (first | ((first | with_reducible refine b_X11_holds_0 ?_ | with_reducible refine b_X11_holds_4 ?_ | ((with_reducible refine k_X11_holds_6 (d1 _) ?_ (by first | decide | assumption | (simp only [NI]; omega)) (Nat.le_of_ble_eq_true rfl)); rintro r S' ⟨v', z', rfl, rfl⟩) | with_reducible refine b_X11_holds_9 ?_ | with_reducible refine b_X11_holds_13 ?_ | with_reducible refine b_X11_holds_17 ?_ | with_reducible refine b_X11_holds_18 ?_) <;> (try simp only [o_al, o_c, o_il, t_1, t_2, t_zr, decide_true, decide_false, Bool.decide_eq_true, Bool.not_eq_false, Bool.not_eq_true, bft, btf, false_implies, true_implies, decide_eq_true_eq, decide_eq_false_iff_not, fv, st1, st2, kl, cat1, List.getElem?_cons_zero, List.getElem?_cons_succ, List.set_cons_zero, List.set_cons_succ, List.length_cons, List.length_nil, List.forall_mem_cons, List.not_mem_nil, Option.toList_some, Option.toList_none, List.cons_append, List.nil_append, and_true, true_and, and_self, reduceIte, Nat.reduceEqDiff, Nat.reduceLT, Nat.reduceAdd, Nat.lt_add_one, Nat.zero_lt_one, Nat.reduceLeDiff, false_and, and_false, forall_const, eq_self, not_true_eq_false, not_false_eq_true, implies_true, forall_eq, b2i_t, b2i_f, true_or, or_true, or_self, or_false, false_or, z01, z10, d10, d01, b2i_01, b2i_d, b2i_eq0, b2i_eq1, b2i_inj, Bool.true_eq_false, Bool.false_eq_true, gi_si, gi_sl, gi_sz, gi_sr, gi_sa, gi_sb, gi_sy, gl_si, gl_sl, gl_sz, gl_sr, gl_sa, gl_sb, gl_sy, gz_si, gz_sl, gz_sz, gz_sr, gz_sa, gz_sb, gz_sy, gr_si, gr_sl, gr_sz, gr_sr, gr_sa, gr_sb, gr_sy, ga_si, ga_sl, ga_sz, ga_sr, ga_sa, ga_sb, ga_sy, gb_si, gb_sl, gb_sz, gb_sr, gb_sa, gb_sb, gb_sy, gy_si, gy_sl, gy_sz, gy_sr, gy_sa, gy_sb, gy_sy, NI_11, LY_11, g3, g4])) | ((with_reducible apply br_V) <;> intro hc) | ((with_reducible apply br_C) <;> try intro hc) | (with_reducible apply an_I) | (with_reducible apply an_V) | (with_reducible apply an_A))
  · exact ⟨true, z', rfl, rfl⟩
  · exact ⟨false, z', rfl, rfl⟩
/-- the knot of a checked condition -/
def chK (B : ST) (d : DB) (tc : Nat) (tj : Nat → Nat) (k : Int32) (c : Option WL) : Prop := match c with
  | none => k = -1
  | some x => ∃ n, k = nI n ∧ n < 220 ∧ RZ (kOf B) (oOf B) tc 220 n x ∧ isY (kkF d tj tc) x
theorem m_cnd {B : ST} {d : DB} {tc : Nat} {tj rj : Nat → Nat} (hS : Wsd B d tc tj rj) {k : Int32} {c : Option WL} (hC : chK B d tc tj k c) (h : Nat) (z : Bool) : Ct MX11_holds (h + 223) [vR 11 0, vI k] (eS B (nI 0) z) (HoQ B (cndE (ldE d tj rj) c)) := by
  cases c with
  | none =>
    have hC : k = -1 := hC
    subst hC
    refine Ct_mono (m_holds_0 (h + 222) B z (nI 0)) ?_
    rintro q S' ⟨rfl, rfl⟩
    exact ⟨fun _ => ⟨z, rfl, rfl⟩, fun y => absurd rfl y⟩
  | some x =>
    obtain ⟨n, rfl, hn, hR, hY⟩ := hC
    obtain ⟨fl, r, h1, h3⟩ := m_judge B tc tj rj hS.1 220 n x hn hR
    obtain ⟨e1, e2⟩ := evX_of (EX_cg (mld_cg hS) hY h1)
    unfold cndE
    simp only
    by_cases q : fl = nI 0
    · have e3 := e2 q
      subst q
      rw [e1, e3]
      refine Ct_mono (m_holds_t h B z n (by omega) r 222 (fun h => h3 h z)) ?_
      rintro q S' ⟨z', rfl, rfl⟩
      exact ⟨fun _ => ⟨z', rfl, rfl⟩, fun y => absurd rfl y⟩
    · rw [e1]
      refine Ct_mono (m_holds_g B z h n (by omega) r fl q 222 (fun h => h3 h z)) ?_
      rintro q' S' hq
      exact ⟨fun y => absurd y q, fun _ => hq⟩
