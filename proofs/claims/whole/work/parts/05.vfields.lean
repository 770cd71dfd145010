theorem va_P1 {D : va_G} {cl : List vw_C} {q : Nat × va_E} {H : Heap} (h : va_at D cl q H) : va_P D cl [q] H := by
  intro k x hx
  cases k with
  | zero => cases hx; exact h
  | succ k => simp at hx
theorem en_o {ad : Nat → Nat → Nat} {cA : Nat → ClassId} {S : ST} {c j ci n : Nat} : en ad cA S c j (.inl (ci, n)) = .inr (ci, (List.range n).map (fun k => tv ad (fv S c j k (FT c k)))) := rfl
theorem en_at {ad : Nat → Nat → Nat} {S : ST} {c j n k : Nat} (hk : k < n) : ((List.range n).map (fun k => tv ad (fv S c j k (FT c k))))[k]? = some (tv ad (fv S c j k (FT c k))) := by
  simp [hk]
theorem v_get {M : MD} {h pc : Nat} {L : LVs} {st : List AV} {S : ST} {Q : Option AV → ST → Prop} {N : KK} {idx c fk n : Nat} {C : String} {T : u_T} {q : Nat × Nat × Nat} (d : decode M.2.1 pc = .ok (.getfield idx, 3)) (hc : vwCl[c]? = some (C, T, n)) (hin : ∀ w ∈ u_ws C T n, w ∈ wT) (hly : LY c = some (.inl (c, n))) (hq : FT c fk = q) (hk : fk < n) (hT : (T fk).1 = C) (hl : Cond.fieldLink M.1.cls idx C (T fk).2.1 (T fk).2.2.1 ∈ wT)
    (hN : ∀ L st S, N L st S → V M h (pc + 3) L st S Q) (k : o_get L st S N c fk q) : V M h pc L st S Q := by
  unfold o_get at k
  split at k
  · obtain ⟨rfl, hj, k⟩ := k
    intro p l e R s m args below meth cc D ad cA G H locs ls hR hS hL
    subst hq
    have hP := va_P1 (hR _ _ _ hly hj)
    exact va_get G.1 G.2.1 G.2.2.2.2.2.1 hin G.2.2.2.2.1 G.2.2.2.2.2.2.1 hP 0 rfl hc fk hk (G.2.2.2.2.2.1 _ hl) (fun x hx => by rw [hT] at hx; exact hx) (en_at hk) d (hN _ _ _ k p l e R s m args below meth cc D ad cA G H locs ls hR hS hL)
  · exact k.elim
theorem w_put {p : Program} {l : Launch} {e : Env} {R : Jvm.Room} {s : State} {m : MethodId} {args : Array Value} {below : List Frame} {meth : Method} {cc : Code} {H : Heap} {locs : List Loc} {Qw : State → Prop} {code : ByteArray} {pc : Nat} {ls : Array Slot} {rest : List Value} {D : va_G} {ad : Nat → Nat → Nat} {cA : Nat → ClassId} {S S' : ST} {own : String}
    (hexec : p.tables.exec = Jvm.exec) (hb : cc.code = code) (hts : ∀ w ∈ wT, w.before args s = true) (hown : s.vm.findClass own = some m.cls) (hK : va_K D vwCl (tyl cA) s) (hi : Inj ad) (hR : Rep D ad cA S H) (hS : va_S (fr ad) s.heap H locs)
    {idx c fk n j : Nat} {C : String} {T : u_T} {ty0 : Nat → FieldType} (hc : vwCl[c]? = some (C, T, n)) (hin : ∀ w ∈ u_ws C T n, w ∈ wT) (hty : ∀ k, k < n → parseFieldDescriptor (T k).2.2.1 = some (ty0 k)) (hnm : ∀ a, a < n → ∀ b, b < n → a ≠ b → (T a).2.1 ≠ (T b).2.1) (hly : LY c = some (.inl (c, n))) (hk : fk < n) (hj : j < NI c) (hT : (T fk).1 = C) (hl : Cond.fieldLink own idx C (T fk).2.1 (T fk).2.2.1 ∈ wT) (hfin : (T fk).2.2.2 = false)
    {v : AV} (hn : narrow (ty0 fk) (tv ad v) = tv ad v) (hfit : fits (ty0 fk) (tv ad v) = true) (hv : fv S' c j fk (FT c fk) = v) (ho : ∀ (k : Nat) (q : Nat × Nat × Nat), k ≠ fk → fv S' c j k q = fv S c j k q) (hs : ∀ (c' j' : Nat) (kd' : KD), (c' ≠ c ∨ j' ≠ j) → en ad cA S' c' j' kd' = en ad cA S c' j' kd')
    (hdg : decode code pc = .ok (.putfield idx, 3)) (kk : ∀ (H1 : Heap) (locs1 : List Loc), Rep D ad cA S' H1 → va_S (fr ad) s.heap H1 locs1 → W p l e R s m args below meth cc H1 locs1 0 0 Qw (F0 m (pc + 3) ls rest)) : W p l e R s m args below meth cc H locs 0 0 Qw (F0 m pc ls (tv ad v :: .ref (ad c j) :: rest)) := by
  have hap := va_apart (own := own) hts hin ty0 hty hnm hK hc
  obtain ⟨r, h1, cell, q1, q2, q3, q4⟩ := hR c j _ hly hj
  have hr : r = (C, T, n) := Option.some.inj (h1.symm.trans hc)
  subst hr
  obtain ⟨hSl, hfc, kC, hkC, hkind⟩ := hK.1 c _ hc
  obtain ⟨cf, kf, fi, f, hi', hsl⟩ := hSl fk hk
  have hlay := hts _ (hin _ (u_in_lay hk))
  unfold u_lay at hlay
  rw [if_neg (by rw [hfin]; decide)] at hlay
  have hst := (u_facts hfc hkC (u_lays hts hin hk) hi').1
  have h6 := u_store hfc hkC hkind hlay hi' (hty fk hk) hn hfit
  refine W.putK hexec hb (f := f) ⟨hown, hts _ hl, ⟨_, _, _, by rw [hT] at hi'; exact hi'⟩, hst⟩ (by rw [q2]; exact h6) q1 q3 (by rw [hsl]; exact k2_hasslot (q4 fk hk)) rfl rfl hdg fun H' e1 e2 e3 => ?_
  rw [hsl] at e1 ⊢
  refine kk H' _ (rep_upd hR hi hly hj ⟨_, hc, t_OB.to (V := updV (vp_V ((List.range n).map (fun k => tv ad (fv S c j k (FT c k))))) fk (tv ad v)) ⟨_, e1, q2, q3, t_set q4 hap hk _⟩ (fun k hkn => ?_)⟩ e3 hs) (hS.put e2 e3 ⟨c, j, ⟨⟨_, hly⟩, hj⟩, rfl⟩)
  have e4 : ((List.range n).map (fun k => tv ad (fv S' c j k (FT c k))))[k]? = some (tv ad (fv S' c j k (FT c k))) := en_at hkn
  have e5 : ((List.range n).map (fun k => tv ad (fv S c j k (FT c k))))[k]? = some (tv ad (fv S c j k (FT c k))) := en_at hkn
  by_cases hkf : k = fk
  · subst hkf
    simp only [updV, if_true, vp_V, List.getD_eq_getElem?_getD, e4, Option.getD_some, hv]
  · simp only [updV, if_neg hkf, vp_V, List.getD_eq_getElem?_getD, e4, e5, Option.getD_some, ho k _ hkf]
theorem v_puti {M : MD} {h pc : Nat} {L : LVs} {st : List AV} {S : ST} {Q : Option AV → ST → Prop} {N : KK} {idx c fk n : Nat} {C : String} {T : u_T} {ty0 : Nat → FieldType} (d : decode M.2.1 pc = .ok (.putfield idx, 3)) (hc : vwCl[c]? = some (C, T, n)) (hin : ∀ w ∈ u_ws C T n, w ∈ wT) (hty : ∀ k, k < n → parseFieldDescriptor (T k).2.2.1 = some (ty0 k)) (hnm : ∀ a, a < n → ∀ b, b < n → a ≠ b → (T a).2.1 ≠ (T b).2.1) (hly : LY c = some (.inl (c, n))) (hft : FT c fk = (0, 0, 0)) (hk : fk < n) (hT : (T fk).1 = C) (hl : Cond.fieldLink M.1.cls idx C (T fk).2.1 (T fk).2.2.1 ∈ wT) (hfin : (T fk).2.2.2 = false) (ht0 : ty0 fk = .int)
    (hN : ∀ L st S, N L st S → V M h (pc + 3) L st S Q) (k : o_puti L st S N c fk) : V M h pc L st S Q := by
  unfold o_puti at k
  split at k
  · rename_i x _ j _
    obtain ⟨rfl, hj, k⟩ := k
    intro p l e R s m args below meth cc D ad cA G H locs ls hR hS hL
    refine w_put (v := vI x) (S' := si S _ fk j x) G.1 G.2.1 G.2.2.2.2.2.1 G.2.2.2.2.1 G.2.2.2.2.2.2.1 G.2.2.2.2.2.2.2.2.2.1 hR hS hc hin hty hnm hly hk hj hT hl hfin (by rw [ht0]; rfl) (by rw [ht0]; rfl) (by rw [hft]; simp [fv, gi_si]) (fun k q hkf => fv_si (Or.inr (Or.inr hkf))) (fun c' j' kd' hd => en_same kd' (fun k q => fv_si (hd.elim Or.inl (fun z => Or.inr (Or.inl z)))) rfl rfl rfl) d (fun H1 locs1 hR1 hS1 => hN _ _ _ k p l e R s m args below meth cc D ad cA G H1 locs1 ls hR1 hS1 hL)
  · exact k.elim
theorem v_putl {M : MD} {h pc : Nat} {L : LVs} {st : List AV} {S : ST} {Q : Option AV → ST → Prop} {N : KK} {idx c fk n : Nat} {C : String} {T : u_T} {ty0 : Nat → FieldType} (d : decode M.2.1 pc = .ok (.putfield idx, 3)) (hc : vwCl[c]? = some (C, T, n)) (hin : ∀ w ∈ u_ws C T n, w ∈ wT) (hty : ∀ k, k < n → parseFieldDescriptor (T k).2.2.1 = some (ty0 k)) (hnm : ∀ a, a < n → ∀ b, b < n → a ≠ b → (T a).2.1 ≠ (T b).2.1) (hly : LY c = some (.inl (c, n))) (hft : FT c fk = (1, 0, 0)) (hk : fk < n) (hT : (T fk).1 = C) (hl : Cond.fieldLink M.1.cls idx C (T fk).2.1 (T fk).2.2.1 ∈ wT) (hfin : (T fk).2.2.2 = false) (ht0 : ty0 fk = .long)
    (hN : ∀ L st S, N L st S → V M h (pc + 3) L st S Q) (k : o_putl L st S N c fk) : V M h pc L st S Q := by
  unfold o_putl at k
  split at k
  · rename_i x _ j _
    obtain ⟨rfl, hj, k⟩ := k
    intro p l e R s m args below meth cc D ad cA G H locs ls hR hS hL
    refine w_put (v := vL x) (S' := sl S _ fk j x) G.1 G.2.1 G.2.2.2.2.2.1 G.2.2.2.2.1 G.2.2.2.2.2.2.1 G.2.2.2.2.2.2.2.2.2.1 hR hS hc hin hty hnm hly hk hj hT hl hfin (by rw [ht0]; rfl) (by rw [ht0]; rfl) (by rw [hft]; simp [fv, gl_sl]) (fun k q hkf => fv_sl (Or.inr (Or.inr hkf))) (fun c' j' kd' hd => en_same kd' (fun k q => fv_sl (hd.elim Or.inl (fun z => Or.inr (Or.inl z)))) rfl rfl rfl) d (fun H1 locs1 hR1 hS1 => hN _ _ _ k p l e R s m args below meth cc D ad cA G H1 locs1 ls hR1 hS1 hL)
  · exact k.elim
theorem v_putz {M : MD} {h pc : Nat} {L : LVs} {st : List AV} {S : ST} {Q : Option AV → ST → Prop} {N : KK} {idx c fk n : Nat} {C : String} {T : u_T} {ty0 : Nat → FieldType} (d : decode M.2.1 pc = .ok (.putfield idx, 3)) (hc : vwCl[c]? = some (C, T, n)) (hin : ∀ w ∈ u_ws C T n, w ∈ wT) (hty : ∀ k, k < n → parseFieldDescriptor (T k).2.2.1 = some (ty0 k)) (hnm : ∀ a, a < n → ∀ b, b < n → a ≠ b → (T a).2.1 ≠ (T b).2.1) (hly : LY c = some (.inl (c, n))) (hft : FT c fk = (2, 0, 0)) (hk : fk < n) (hT : (T fk).1 = C) (hl : Cond.fieldLink M.1.cls idx C (T fk).2.1 (T fk).2.2.1 ∈ wT) (hfin : (T fk).2.2.2 = false) (ht0 : ty0 fk = .boolean)
    (hN : ∀ L st S, N L st S → V M h (pc + 3) L st S Q) (k : o_putz L st S N c fk) : V M h pc L st S Q := by
  unfold o_putz at k
  split at k
  · rename_i x _ j _
    obtain ⟨rfl, hj, hz, k⟩ := k
    intro p l e R s m args below meth cc D ad cA G H locs ls hR hS hL
    refine w_put (v := vI x) (S' := sz S _ fk j (decide (x = nI 1))) G.1 G.2.1 G.2.2.2.2.2.1 G.2.2.2.2.1 G.2.2.2.2.2.2.1 G.2.2.2.2.2.2.2.2.2.1 hR hS hc hin hty hnm hly hk hj hT hl hfin (by rw [ht0]; rcases hz with rfl | rfl <;> rfl) (by rw [ht0]; rcases hz with rfl | rfl <;> rfl) (by rw [hft]; rcases hz with rfl | rfl <;> simp [fv, gz_sz, b2i, d10, d01]) (fun k q hkf => fv_sz (Or.inr (Or.inr hkf))) (fun c' j' kd' hd => en_same kd' (fun k q => fv_sz (hd.elim Or.inl (fun z => Or.inr (Or.inl z)))) rfl rfl rfl) d (fun H1 locs1 hR1 hS1 => hN _ _ _ k p l e R s m args below meth cc D ad cA G H1 locs1 ls hR1 hS1 hL)
  · exact k.elim
theorem v_putr {M : MD} {h pc : Nat} {L : LVs} {st : List AV} {S : ST} {Q : Option AV → ST → Prop} {N : KK} {idx c fk n : Nat} {C : String} {T : u_T} {ty0 : Nat → FieldType} {x : Nat} {cn : String} (d : decode M.2.1 pc = .ok (.putfield idx, 3)) (hc : vwCl[c]? = some (C, T, n)) (hin : ∀ w ∈ u_ws C T n, w ∈ wT) (hty : ∀ k, k < n → parseFieldDescriptor (T k).2.2.1 = some (ty0 k)) (hnm : ∀ a, a < n → ∀ b, b < n → a ≠ b → (T a).2.1 ≠ (T b).2.1) (hly : LY c = some (.inl (c, n))) (hft : FT c fk = (5, x, 0)) (hk : fk < n) (hT : (T fk).1 = C) (hl : Cond.fieldLink M.1.cls idx C (T fk).2.1 (T fk).2.2.1 ∈ wT) (hfin : (T fk).2.2.2 = false) (ht0 : ty0 fk = .object cn)
    (hN : ∀ L st S, N L st S → V M h (pc + 3) L st S Q) (k : o_putr L st S N c fk x) : V M h pc L st S Q := by
  unfold o_putr at k
  split at k
  · rename_i _ i _ j _
    obtain ⟨rfl, rfl, hj, k⟩ := k
    intro p l e R s m args below meth cc D ad cA G H locs ls hR hS hL
    refine w_put (v := vR _ i) (S' := sr S _ fk j i) G.1 G.2.1 G.2.2.2.2.2.1 G.2.2.2.2.1 G.2.2.2.2.2.2.1 G.2.2.2.2.2.2.2.2.2.1 hR hS hc hin hty hnm hly hk hj hT hl hfin (by rw [ht0]; rfl) (by rw [ht0]; rfl) (by rw [hft]; simp [fv, gr_sr]) (fun k q hkf => fv_sr (Or.inr (Or.inr hkf))) (fun c' j' kd' hd => en_same kd' (fun k q => fv_sr (hd.elim Or.inl (fun z => Or.inr (Or.inl z)))) rfl rfl rfl) d (fun H1 locs1 hR1 hS1 => hN _ _ _ k p l e R s m args below meth cc D ad cA G H1 locs1 ls hR1 hS1 hL)
  · exact k.elim
theorem v_iaload {M : MD} {h pc : Nat} {L : LVs} {st : List AV} {S : ST} {Q : Option AV → ST → Prop} {N : KK} (d : decode M.2.1 pc = .ok (.iaload, 1)) (hN : ∀ L st S, N L st S → V M h (pc + 1) L st S Q) (k : o_iald L st S N) : V M h pc L st S Q := by
  unfold o_iald at k
  split at k
  · split at k
    · rename_i hly
      obtain ⟨hj, hin, k⟩ := k
      intro p l e R s m args below meth cc D ad cA G H locs ls hR hS hL
      have hP := va_P1 (hR _ _ _ hly hj)
      exact va_iald G.1 G.2.1 G.2.2.2.2.2.2.1 hP 0 0 rfl rfl hin d (hN _ _ _ k p l e R s m args below meth cc D ad cA G H locs ls hR hS hL)
    · exact k.elim
  · exact k.elim
theorem v_caload {M : MD} {h pc : Nat} {L : LVs} {st : List AV} {S : ST} {Q : Option AV → ST → Prop} {N : KK} (d : decode M.2.1 pc = .ok (.caload, 1)) (hN : ∀ L st S, N L st S → V M h (pc + 1) L st S Q) (k : o_cald L st S N) : V M h pc L st S Q := by
  unfold o_cald at k
  split at k
  · split at k
    · rename_i hly
      obtain ⟨hj, hin, k⟩ := k
      intro p l e R s m args below meth cc D ad cA G H locs ls hR hS hL
      have hP := va_P1 (hR _ _ _ hly hj)
      exact va_cald G.1 G.2.1 G.2.2.2.2.2.2.1 hP 0 2 rfl rfl hin d (hN _ _ _ k p l e R s m args below meth cc D ad cA G H locs ls hR hS hL)
    · exact k.elim
  · exact k.elim
theorem v_zaload {M : MD} {h pc : Nat} {L : LVs} {st : List AV} {S : ST} {Q : Option AV → ST → Prop} {N : KK} (d : decode M.2.1 pc = .ok (.baload, 1)) (hN : ∀ L st S, N L st S → V M h (pc + 1) L st S Q) (k : o_zald L st S N) : V M h pc L st S Q := by
  unfold o_zald at k
  split at k
  · split at k
    · rename_i hly
      obtain ⟨hj, hin, k⟩ := k
      intro p l e R s m args below meth cc D ad cA G H locs ls hR hS hL
      have hP := va_P1 (hR _ _ _ hly hj)
      exact va_zald (f := fun i => b2i (gy S _ _ i)) G.1 G.2.1 G.2.2.2.2.2.2.1 hP 0 1 rfl rfl hin d (hN _ _ _ k p l e R s m args below meth cc D ad cA G H locs ls hR hS hL)
    · exact k.elim
  · exact k.elim
theorem v_laload {M : MD} {h pc : Nat} {L : LVs} {st : List AV} {S : ST} {Q : Option AV → ST → Prop} {N : KK} (d : decode M.2.1 pc = .ok (.laload, 1)) (hN : ∀ L st S, N L st S → V M h (pc + 1) L st S Q) (k : o_lald L st S N) : V M h pc L st S Q := by
  unfold o_lald at k
  split at k
  · split at k
    · rename_i hly
      obtain ⟨hj, hin, k⟩ := k
      intro p l e R s m args below meth cc D ad cA G H locs ls hR hS hL
      have hP := va_P1 (hR _ _ _ hly hj)
      exact va_lald G.1 G.2.1 G.2.2.2.2.2.2.1 hP 0 3 rfl rfl hin d (hN _ _ _ k p l e R s m args below meth cc D ad cA G H locs ls hR hS hL)
    · exact k.elim
  · exact k.elim
theorem v_aaload {M : MD} {h pc : Nat} {L : LVs} {st : List AV} {S : ST} {Q : Option AV → ST → Prop} {N : KK} (d : decode M.2.1 pc = .ok (.aaload, 1)) (hN : ∀ L st S, N L st S → V M h (pc + 1) L st S Q) (k : o_aald L st S N) : V M h pc L st S Q := by
  unfold o_aald at k
  split at k
  · split at k
    · rename_i hly
      obtain ⟨hj, hin, k⟩ := k
      intro p l e R s m args below meth cc D ad cA G H locs ls hR hS hL
      have hP := va_P1 (hR _ _ _ hly hj)
      exact va_aldq (f := fun i => some (ad _ i)) G.1 G.2.1 G.2.2.2.2.2.2.1 hP 0 4 rfl rfl hin d (hN _ _ _ k p l e R s m args below meth cc D ad cA G H locs ls hR hS hL)
    · exact k.elim
  · exact k.elim
