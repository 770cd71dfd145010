theorem v_iconst {M : MD} {h pc : Nat} {L : LVs} {st : List AV} {S : ST} {Q : Option AV → ST → Prop} {N : KK} {n : Int} {x : Int32} (d : decode M.2.1 pc = .ok (.iconst n, 1)) (hx : Int32.ofInt n = x) (hN : ∀ L st S, N L st S → V M h (pc + 1) L st S Q) (k : o_c L st S N x) : V M h pc L st S Q := by
  intro p l e R s m args below meth cc D ad cA G H locs ls hR hS hL
  exact lv_iconst G.1 G.2.1 d hx (hN _ _ _ k p l e R s m args below meth cc D ad cA G H locs ls hR hS hL)
theorem v_bipush {M : MD} {h pc : Nat} {L : LVs} {st : List AV} {S : ST} {Q : Option AV → ST → Prop} {N : KK} {n : Int} {x : Int32} (d : decode M.2.1 pc = .ok (.bipush n, 2)) (hx : (Int8.ofInt n).toInt32 = x) (hN : ∀ L st S, N L st S → V M h (pc + 2) L st S Q) (k : o_c L st S N x) : V M h pc L st S Q := by
  intro p l e R s m args below meth cc D ad cA G H locs ls hR hS hL
  exact lv_bipush G.1 G.2.1 d hx (hN _ _ _ k p l e R s m args below meth cc D ad cA G H locs ls hR hS hL)
theorem v_sipush {M : MD} {h pc : Nat} {L : LVs} {st : List AV} {S : ST} {Q : Option AV → ST → Prop} {N : KK} {n : Int} {x : Int32} (d : decode M.2.1 pc = .ok (.sipush n, 3)) (hx : (Int16.ofInt n).toInt32 = x) (hN : ∀ L st S, N L st S → V M h (pc + 3) L st S Q) (k : o_c L st S N x) : V M h pc L st S Q := by
  intro p l e R s m args below meth cc D ad cA G H locs ls hR hS hL
  exact lv_sipush G.1 G.2.1 d hx (hN _ _ _ k p l e R s m args below meth cc D ad cA G H locs ls hR hS hL)
theorem v_lconst {M : MD} {h pc : Nat} {L : LVs} {st : List AV} {S : ST} {Q : Option AV → ST → Prop} {N : KK} {n : Fin 2} {x : Int64} (d : decode M.2.1 pc = .ok (.lconst n, 1)) (hx : Int64.ofNat (n : Nat) = x) (hN : ∀ L st S, N L st S → V M h (pc + 1) L st S Q) (k : o_lc L st S N x) : V M h pc L st S Q := by
  intro p l e R s m args below meth cc D ad cA G H locs ls hR hS hL
  exact lv_lconst G.1 G.2.1 d hx (hN _ _ _ k p l e R s m args below meth cc D ad cA G H locs ls hR hS hL)
theorem v_ldc {M : MD} {h pc : Nat} {L : LVs} {st : List AV} {S : ST} {Q : Option AV → ST → Prop} {N : KK} {i : Nat} {x : Int32} (d : decode M.2.1 pc = .ok (.ldc i, 2)) (hk : Cond.constant M.1.cls i x ∈ wT) (hN : ∀ L st S, N L st S → V M h (pc + 2) L st S Q) (k : o_c L st S N x) : V M h pc L st S Q := by
  intro p l e R s m args below meth cc D ad cA G H locs ls hR hS hL
  exact lv_ldc G.1 G.2.1 G.2.2.2.2.1 (G.2.2.2.2.2.1 _ hk) d (hN _ _ _ k p l e R s m args below meth cc D ad cA G H locs ls hR hS hL)
theorem v_ldc2 {M : MD} {h pc : Nat} {L : LVs} {st : List AV} {S : ST} {Q : Option AV → ST → Prop} {N : KK} {i : Nat} {x : Int64} (d : decode M.2.1 pc = .ok (.ldc2_w i, 3)) (hk : Cond.constantLong M.1.cls i x ∈ wT) (hN : ∀ L st S, N L st S → V M h (pc + 3) L st S Q) (k : o_lc L st S N x) : V M h pc L st S Q := by
  intro p l e R s m args below meth cc D ad cA G H locs ls hR hS hL
  exact lv_ldc2 G.1 G.2.1 G.2.2.2.2.1 (G.2.2.2.2.2.1 _ hk) d (hN _ _ _ k p l e R s m args below meth cc D ad cA G H locs ls hR hS hL)
theorem v_iload {M : MD} {h pc : Nat} {L : LVs} {st : List AV} {S : ST} {Q : Option AV → ST → Prop} {N : KK} {i : Nat} (d : decode M.2.1 pc = .ok (.iload i, 2)) (hN : ∀ L st S, N L st S → V M h (pc + 2) L st S Q) (k : o_il L st S N i) : V M h pc L st S Q := by
  unfold o_il at k
  split at k
  · rename_i e1
    intro p l e R s m args below meth cc D ad cA G H locs ls hR hS hL
    exact lv_iload G.1 G.2.1 d (hL.2.2 i _ e1) (hN _ _ _ k p l e R s m args below meth cc D ad cA G H locs ls hR hS hL)
  · exact k.elim
theorem v_iload_n {M : MD} {h pc : Nat} {L : LVs} {st : List AV} {S : ST} {Q : Option AV → ST → Prop} {N : KK} {n : Fin 4} {i : Nat} (d : decode M.2.1 pc = .ok (.iload_n n, 1)) (hi : (n : Nat) = i) (hN : ∀ L st S, N L st S → V M h (pc + 1) L st S Q) (k : o_il L st S N i) : V M h pc L st S Q := by
  unfold o_il at k
  split at k
  · rename_i e1
    intro p l e R s m args below meth cc D ad cA G H locs ls hR hS hL
    exact lv_iload_n G.1 G.2.1 d hi (hL.2.2 i _ e1) (hN _ _ _ k p l e R s m args below meth cc D ad cA G H locs ls hR hS hL)
  · exact k.elim
theorem v_lload {M : MD} {h pc : Nat} {L : LVs} {st : List AV} {S : ST} {Q : Option AV → ST → Prop} {N : KK} {i : Nat} (d : decode M.2.1 pc = .ok (.lload i, 2)) (hN : ∀ L st S, N L st S → V M h (pc + 2) L st S Q) (k : o_ll L st S N i) : V M h pc L st S Q := by
  unfold o_ll at k
  split at k
  · rename_i e1
    intro p l e R s m args below meth cc D ad cA G H locs ls hR hS hL
    exact lv_lload G.1 G.2.1 d (hL.2.2 i _ e1) (hN _ _ _ k p l e R s m args below meth cc D ad cA G H locs ls hR hS hL)
  · exact k.elim
theorem v_lload_n {M : MD} {h pc : Nat} {L : LVs} {st : List AV} {S : ST} {Q : Option AV → ST → Prop} {N : KK} {n : Fin 4} {i : Nat} (d : decode M.2.1 pc = .ok (.lload_n n, 1)) (hi : (n : Nat) = i) (hN : ∀ L st S, N L st S → V M h (pc + 1) L st S Q) (k : o_ll L st S N i) : V M h pc L st S Q := by
  unfold o_ll at k
  split at k
  · rename_i e1
    intro p l e R s m args below meth cc D ad cA G H locs ls hR hS hL
    exact lv_lload_n G.1 G.2.1 d hi (hL.2.2 i _ e1) (hN _ _ _ k p l e R s m args below meth cc D ad cA G H locs ls hR hS hL)
  · exact k.elim
theorem v_aload {M : MD} {h pc : Nat} {L : LVs} {st : List AV} {S : ST} {Q : Option AV → ST → Prop} {N : KK} {i : Nat} (d : decode M.2.1 pc = .ok (.aload i, 2)) (hN : ∀ L st S, N L st S → V M h (pc + 2) L st S Q) (k : o_al L st S N i) : V M h pc L st S Q := by
  unfold o_al at k
  split at k
  · rename_i e1
    intro p l e R s m args below meth cc D ad cA G H locs ls hR hS hL
    exact lv_aload G.1 G.2.1 d (hL.2.2 i _ e1) (hN _ _ _ k p l e R s m args below meth cc D ad cA G H locs ls hR hS hL)
  · exact k.elim
theorem v_aload_n {M : MD} {h pc : Nat} {L : LVs} {st : List AV} {S : ST} {Q : Option AV → ST → Prop} {N : KK} {n : Fin 4} {i : Nat} (d : decode M.2.1 pc = .ok (.aload_n n, 1)) (hi : (n : Nat) = i) (hN : ∀ L st S, N L st S → V M h (pc + 1) L st S Q) (k : o_al L st S N i) : V M h pc L st S Q := by
  unfold o_al at k
  split at k
  · rename_i e1
    intro p l e R s m args below meth cc D ad cA G H locs ls hR hS hL
    exact lv_aload_n G.1 G.2.1 d hi (hL.2.2 i _ e1) (hN _ _ _ k p l e R s m args below meth cc D ad cA G H locs ls hR hS hL)
  · exact k.elim
theorem LH_len {ad : Nat → Nat → Nat} {ls : Array Slot} {n : Nat} {L : LVs} (h : LH ad ls n L) (hl : L.length = n) : lv_has ls n [] := ⟨h.1, h.2.1, fun q hq => by cases hq⟩
def asc (ad : Nat → Nat → Nat) (L : LVs) : List (Nat × Value) := (List.range L.length).filterMap fun i => match L[i]? with
  | some (some v) => some (i, tv ad v)
  | _ => none
theorem asc_mem {ad : Nat → Nat → Nat} {L : LVs} {i : Nat} {v : AV} (h : L[i]? = some (some v)) : (i, tv ad v) ∈ asc ad L := by
  refine List.mem_filterMap.mpr ⟨i, List.mem_range.mpr (List.getElem?_eq_some_iff.mp h).1, ?_⟩
  rw [h]
theorem LH_has {ad : Nat → Nat → Nat} {ls : Array Slot} {n : Nat} {L : LVs} (h : LH ad ls n L) : lv_has ls n (asc ad L) := by
  refine ⟨h.1, h.2.1, fun q hq => ?_⟩
  obtain ⟨i, -, hi⟩ := List.mem_filterMap.mp hq
  split at hi
  · rename_i v e
    cases hi
    exact h.2.2 i v e
  · cases hi
theorem tv_cat (ad : Nat → Nat → Nat) (v : AV) : (tv ad v).category = 2 ↔ ∃ x : Int64, v = vL x := by
  rcases v with x | x | ⟨c, j⟩ <;> simp [tv, Value.category, vL]
theorem kl_at {L : LVs} {i k : Nat} {v : AV} (h : (kl L i)[k]? = some (some v)) : L[k]? = some (some v) ∧ (k + 1 = i → ¬ ∃ x : Int64, v = vL x) := by
  unfold kl at h
  split at h
  · exact ⟨h, fun z => by omega⟩
  · rename_i q
    split at h
    · rename_i x e
      by_cases hk : k = q
      · subst hk
        rw [List.getElem?_set] at h
        simp at h
      · rw [List.getElem?_set_ne (Ne.symm hk)] at h
        exact ⟨h, fun z => by omega⟩
    · rename_i e
      refine ⟨h, fun z => ?_⟩
      have : k = q := by omega
      subst this
      rintro ⟨x, rfl⟩
      exact e x h
theorem kl_len (L : LVs) (i : Nat) : (kl L i).length = L.length := by
  unfold kl
  split
  · rfl
  · split <;> simp
theorem st1_at {L : LVs} {i k : Nat} {v w : AV} (h : (st1 L i v)[k]? = some (some w)) : (k = i ∧ w = v) ∨ (k ≠ i ∧ L[k]? = some (some w) ∧ (k + 1 = i → ¬ ∃ x : Int64, w = vL x)) := by
  unfold st1 at h
  by_cases hk : k = i
  · subst hk
    by_cases hl : k < (kl L k).length
    · rw [List.getElem?_set_self hl] at h
      exact Or.inl ⟨rfl, by simpa using h.symm⟩
    · rw [List.getElem?_eq_none (by simpa using hl)] at h
      cases h
  · rw [List.getElem?_set_ne (Ne.symm hk)] at h
    exact Or.inr ⟨hk, kl_at h⟩
theorem LH_st1 {ad : Nat → Nat → Nat} {ls' : Array Slot} {n i : Nat} {L : LVs} {v : AV} (h : lv_has ls' n ((i, tv ad v) :: (asc ad L).filter (fun q => !(q.1 == i) && !(q.1 + 1 == i && q.2.category == 2)))) : LH ad ls' n (st1 L i v) := by
  obtain ⟨h1, h2, h3⟩ := h
  refine ⟨h1, h2, fun k w hk => ?_⟩
  rcases st1_at hk with ⟨rfl, rfl⟩ | ⟨n1, n2, n3⟩
  · exact h3 _ List.mem_cons_self
  · refine h3 (k, tv ad w) (List.mem_cons_of_mem _ (List.mem_filter.mpr ⟨asc_mem n2, ?_⟩))
    simp only [Bool.and_eq_true, Bool.not_eq_true', beq_eq_false_iff_ne, ne_eq, Bool.and_eq_false_iff]
    refine ⟨n1, ?_⟩
    by_cases hq : k + 1 = i
    · exact Or.inr (fun z => n3 hq ((tv_cat ad w).mp z))
    · exact Or.inl hq
theorem LH_st2 {ad : Nat → Nat → Nat} {ls' : Array Slot} {n i : Nat} {L : LVs} {v : AV} (h : lv_has ls' n ((i, tv ad v) :: (asc ad L).filter (fun q => !(q.1 == i) && (!(q.1 == i + 1) && !(q.1 + 1 == i && q.2.category == 2))))) : LH ad ls' n (st2 L i v) := by
  obtain ⟨h1, h2, h3⟩ := h
  refine ⟨h1, h2, fun k w hk => ?_⟩
  have hk1 : k ≠ i + 1 := by
    rintro rfl
    unfold st2 at hk
    rw [List.getElem?_set] at hk
    split at hk
    · split at hk <;> cases hk
    · exact absurd rfl ‹_›
  have hk' : (st1 L i v)[k]? = some (some w) := by
    unfold st2 at hk
    rwa [List.getElem?_set_ne (Ne.symm hk1)] at hk
  rcases st1_at hk' with ⟨rfl, rfl⟩ | ⟨n1, n2, n3⟩
  · exact h3 _ List.mem_cons_self
  · refine h3 (k, tv ad w) (List.mem_cons_of_mem _ (List.mem_filter.mpr ⟨asc_mem n2, ?_⟩))
    simp only [Bool.and_eq_true, Bool.not_eq_true', beq_eq_false_iff_ne, ne_eq, Bool.and_eq_false_iff]
    refine ⟨n1, hk1, ?_⟩
    by_cases hq : k + 1 = i
    · exact Or.inr (fun z => n3 hq ((tv_cat ad w).mp z))
    · exact Or.inl hq
theorem v_istore {M : MD} {h pc : Nat} {L : LVs} {st : List AV} {S : ST} {Q : Option AV → ST → Prop} {N : KK} {i : Nat} (d : decode M.2.1 pc = .ok (.istore i, 2)) (hb : i < M.2.2.1) (hN : ∀ L st S, N L st S → V M h (pc + 2) L st S Q) (k : o_is L st S N i) : V M h pc L st S Q := by
  unfold o_is at k
  split at k
  · intro p l e R s m args below meth cc D ad cA G H locs ls hR hS hL
    exact lv_istore G.1 G.2.1 d (LH_has hL) hb rfl (fun ls' hl' => hN _ _ _ k.2 p l e R s m args below meth cc D ad cA G H locs _ hR hS (LH_st1 hl'))
  · exact k.elim
theorem v_istore_n {M : MD} {h pc : Nat} {L : LVs} {st : List AV} {S : ST} {Q : Option AV → ST → Prop} {N : KK} {n : Fin 4} {i : Nat} (d : decode M.2.1 pc = .ok (.istore_n n, 1)) (hi : (n : Nat) = i) (hb : i < M.2.2.1) (hN : ∀ L st S, N L st S → V M h (pc + 1) L st S Q) (k : o_is L st S N i) : V M h pc L st S Q := by
  unfold o_is at k
  split at k
  · intro p l e R s m args below meth cc D ad cA G H locs ls hR hS hL
    exact lv_istore_n G.1 G.2.1 d hi (LH_has hL) hb rfl (fun ls' hl' => hN _ _ _ k.2 p l e R s m args below meth cc D ad cA G H locs _ hR hS (LH_st1 hl'))
  · exact k.elim
theorem v_lstore {M : MD} {h pc : Nat} {L : LVs} {st : List AV} {S : ST} {Q : Option AV → ST → Prop} {N : KK} {i : Nat} (d : decode M.2.1 pc = .ok (.lstore i, 2)) (hb : i + 1 < M.2.2.1) (hN : ∀ L st S, N L st S → V M h (pc + 2) L st S Q) (k : o_ls L st S N i) : V M h pc L st S Q := by
  unfold o_ls at k
  split at k
  · intro p l e R s m args below meth cc D ad cA G H locs ls hR hS hL
    exact lv_lstore G.1 G.2.1 d (LH_has hL) hb rfl (fun ls' hl' => hN _ _ _ k.2 p l e R s m args below meth cc D ad cA G H locs _ hR hS (LH_st2 hl'))
  · exact k.elim
theorem v_lstore_n {M : MD} {h pc : Nat} {L : LVs} {st : List AV} {S : ST} {Q : Option AV → ST → Prop} {N : KK} {n : Fin 4} {i : Nat} (d : decode M.2.1 pc = .ok (.lstore_n n, 1)) (hi : (n : Nat) = i) (hb : i + 1 < M.2.2.1) (hN : ∀ L st S, N L st S → V M h (pc + 1) L st S Q) (k : o_ls L st S N i) : V M h pc L st S Q := by
  unfold o_ls at k
  split at k
  · intro p l e R s m args below meth cc D ad cA G H locs ls hR hS hL
    exact lv_lstore_n G.1 G.2.1 d hi (LH_has hL) hb rfl (fun ls' hl' => hN _ _ _ k.2 p l e R s m args below meth cc D ad cA G H locs _ hR hS (LH_st2 hl'))
  · exact k.elim
theorem v_astore {M : MD} {h pc : Nat} {L : LVs} {st : List AV} {S : ST} {Q : Option AV → ST → Prop} {N : KK} {i : Nat} (d : decode M.2.1 pc = .ok (.astore i, 2)) (hb : i < M.2.2.1) (hN : ∀ L st S, N L st S → V M h (pc + 2) L st S Q) (k : o_as L st S N i) : V M h pc L st S Q := by
  unfold o_as at k
  split at k
  · intro p l e R s m args below meth cc D ad cA G H locs ls hR hS hL
    exact lv_astore G.1 G.2.1 d (LH_has hL) hb rfl (fun ls' hl' => hN _ _ _ k.2 p l e R s m args below meth cc D ad cA G H locs _ hR hS (LH_st1 hl'))
  · exact k.elim
theorem v_astore_n {M : MD} {h pc : Nat} {L : LVs} {st : List AV} {S : ST} {Q : Option AV → ST → Prop} {N : KK} {n : Fin 4} {i : Nat} (d : decode M.2.1 pc = .ok (.astore_n n, 1)) (hi : (n : Nat) = i) (hb : i < M.2.2.1) (hN : ∀ L st S, N L st S → V M h (pc + 1) L st S Q) (k : o_as L st S N i) : V M h pc L st S Q := by
  unfold o_as at k
  split at k
  · intro p l e R s m args below meth cc D ad cA G H locs ls hR hS hL
    exact lv_astore_n G.1 G.2.1 d hi (LH_has hL) hb rfl (fun ls' hl' => hN _ _ _ k.2 p l e R s m args below meth cc D ad cA G H locs _ hR hS (LH_st1 hl'))
  · exact k.elim
theorem v_iinc {M : MD} {h pc : Nat} {L : LVs} {st : List AV} {S : ST} {Q : Option AV → ST → Prop} {N : KK} {i : Nat} {n : Int} {x : Int32} (d : decode M.2.1 pc = .ok (.iinc i n, 3)) (hn : Int32.ofInt n = x) (hb : i < M.2.2.1) (hN : ∀ L st S, N L st S → V M h (pc + 3) L st S Q) (k : o_inc L st S N i x) : V M h pc L st S Q := by
  unfold o_inc at k
  split at k
  · rename_i y e1
    intro p l e R s m args below meth cc D ad cA G H locs ls hR hS hL
    obtain ⟨q, hq⟩ := List.getElem?_of_mem (asc_mem (ad := ad) e1)
    exact lv_iinc G.1 G.2.1 d (LH_has hL) hq (by rw [hn]) hb rfl (fun ls' hl' => hN _ _ _ k p l e R s m args below meth cc D ad cA G H locs _ hR hS (LH_st1 (v := vI (y + x)) hl'))
  · exact k.elim
theorem v_iadd {M : MD} {h pc : Nat} {L : LVs} {st : List AV} {S : ST} {Q : Option AV → ST → Prop} {N : KK} (d : decode M.2.1 pc = .ok (.iadd, 1)) (hN : ∀ L st S, N L st S → V M h (pc + 1) L st S Q) (k : o_iadd L st S N) : V M h pc L st S Q := by
  unfold o_iadd at k
  split at k
  · intro p l e R s m args below meth cc D ad cA G H locs ls hR hS hL
    exact lv_iadd G.1 G.2.1 d (hN _ _ _ k p l e R s m args below meth cc D ad cA G H locs ls hR hS hL)
  · exact k.elim
theorem v_isub {M : MD} {h pc : Nat} {L : LVs} {st : List AV} {S : ST} {Q : Option AV → ST → Prop} {N : KK} (d : decode M.2.1 pc = .ok (.isub, 1)) (hN : ∀ L st S, N L st S → V M h (pc + 1) L st S Q) (k : o_isub L st S N) : V M h pc L st S Q := by
  unfold o_isub at k
  split at k
  · intro p l e R s m args below meth cc D ad cA G H locs ls hR hS hL
    exact lv_isub G.1 G.2.1 d (hN _ _ _ k p l e R s m args below meth cc D ad cA G H locs ls hR hS hL)
  · exact k.elim
theorem v_imul {M : MD} {h pc : Nat} {L : LVs} {st : List AV} {S : ST} {Q : Option AV → ST → Prop} {N : KK} (d : decode M.2.1 pc = .ok (.imul, 1)) (hN : ∀ L st S, N L st S → V M h (pc + 1) L st S Q) (k : o_imul L st S N) : V M h pc L st S Q := by
  unfold o_imul at k
  split at k
  · intro p l e R s m args below meth cc D ad cA G H locs ls hR hS hL
    exact lv_imul G.1 G.2.1 d (hN _ _ _ k p l e R s m args below meth cc D ad cA G H locs ls hR hS hL)
  · exact k.elim
theorem v_iand {M : MD} {h pc : Nat} {L : LVs} {st : List AV} {S : ST} {Q : Option AV → ST → Prop} {N : KK} (d : decode M.2.1 pc = .ok (.iand, 1)) (hN : ∀ L st S, N L st S → V M h (pc + 1) L st S Q) (k : o_iand L st S N) : V M h pc L st S Q := by
  unfold o_iand at k
  split at k
  · intro p l e R s m args below meth cc D ad cA G H locs ls hR hS hL
    exact lv_iand G.1 G.2.1 d (hN _ _ _ k p l e R s m args below meth cc D ad cA G H locs ls hR hS hL)
  · exact k.elim
theorem v_ineg {M : MD} {h pc : Nat} {L : LVs} {st : List AV} {S : ST} {Q : Option AV → ST → Prop} {N : KK} (d : decode M.2.1 pc = .ok (.ineg, 1)) (hN : ∀ L st S, N L st S → V M h (pc + 1) L st S Q) (k : o_ineg L st S N) : V M h pc L st S Q := by
  unfold o_ineg at k
  split at k
  · intro p l e R s m args below meth cc D ad cA G H locs ls hR hS hL
    exact lv_ineg G.1 G.2.1 d (hN _ _ _ k p l e R s m args below meth cc D ad cA G H locs ls hR hS hL)
  · exact k.elim
theorem v_ladd {M : MD} {h pc : Nat} {L : LVs} {st : List AV} {S : ST} {Q : Option AV → ST → Prop} {N : KK} (d : decode M.2.1 pc = .ok (.ladd, 1)) (hN : ∀ L st S, N L st S → V M h (pc + 1) L st S Q) (k : o_ladd L st S N) : V M h pc L st S Q := by
  unfold o_ladd at k
  split at k
  · intro p l e R s m args below meth cc D ad cA G H locs ls hR hS hL
    exact lv_ladd G.1 G.2.1 d (hN _ _ _ k p l e R s m args below meth cc D ad cA G H locs ls hR hS hL)
  · exact k.elim
theorem v_lsub {M : MD} {h pc : Nat} {L : LVs} {st : List AV} {S : ST} {Q : Option AV → ST → Prop} {N : KK} (d : decode M.2.1 pc = .ok (.lsub, 1)) (hN : ∀ L st S, N L st S → V M h (pc + 1) L st S Q) (k : o_lsub L st S N) : V M h pc L st S Q := by
  unfold o_lsub at k
  split at k
  · intro p l e R s m args below meth cc D ad cA G H locs ls hR hS hL
    exact lv_lsub G.1 G.2.1 d (hN _ _ _ k p l e R s m args below meth cc D ad cA G H locs ls hR hS hL)
  · exact k.elim
theorem v_lmul {M : MD} {h pc : Nat} {L : LVs} {st : List AV} {S : ST} {Q : Option AV → ST → Prop} {N : KK} (d : decode M.2.1 pc = .ok (.lmul, 1)) (hN : ∀ L st S, N L st S → V M h (pc + 1) L st S Q) (k : o_lmul L st S N) : V M h pc L st S Q := by
  unfold o_lmul at k
  split at k
  · intro p l e R s m args below meth cc D ad cA G H locs ls hR hS hL
    exact lv_lmul G.1 G.2.1 d (hN _ _ _ k p l e R s m args below meth cc D ad cA G H locs ls hR hS hL)
  · exact k.elim
theorem v_lor {M : MD} {h pc : Nat} {L : LVs} {st : List AV} {S : ST} {Q : Option AV → ST → Prop} {N : KK} (d : decode M.2.1 pc = .ok (.lor, 1)) (hN : ∀ L st S, N L st S → V M h (pc + 1) L st S Q) (k : o_lor L st S N) : V M h pc L st S Q := by
  unfold o_lor at k
  split at k
  · intro p l e R s m args below meth cc D ad cA G H locs ls hR hS hL
    exact lv_lor G.1 G.2.1 d (hN _ _ _ k p l e R s m args below meth cc D ad cA G H locs ls hR hS hL)
  · exact k.elim
theorem v_lneg {M : MD} {h pc : Nat} {L : LVs} {st : List AV} {S : ST} {Q : Option AV → ST → Prop} {N : KK} (d : decode M.2.1 pc = .ok (.lneg, 1)) (hN : ∀ L st S, N L st S → V M h (pc + 1) L st S Q) (k : o_lneg L st S N) : V M h pc L st S Q := by
  unfold o_lneg at k
  split at k
  · intro p l e R s m args below meth cc D ad cA G H locs ls hR hS hL
    exact lv_lneg G.1 G.2.1 d (hN _ _ _ k p l e R s m args below meth cc D ad cA G H locs ls hR hS hL)
  · exact k.elim
theorem v_idiv {M : MD} {h pc : Nat} {L : LVs} {st : List AV} {S : ST} {Q : Option AV → ST → Prop} {N : KK} (d : decode M.2.1 pc = .ok (.idiv, 1)) (hN : ∀ L st S, N L st S → V M h (pc + 1) L st S Q) (k : o_idiv L st S N) : V M h pc L st S Q := by
  unfold o_idiv at k
  split at k
  · intro p l e R s m args below meth cc D ad cA G H locs ls hR hS hL
    exact lv_idiv G.1 G.2.1 d k.1 (hN _ _ _ k.2 p l e R s m args below meth cc D ad cA G H locs ls hR hS hL)
  · exact k.elim
theorem v_irem {M : MD} {h pc : Nat} {L : LVs} {st : List AV} {S : ST} {Q : Option AV → ST → Prop} {N : KK} (d : decode M.2.1 pc = .ok (.irem, 1)) (hN : ∀ L st S, N L st S → V M h (pc + 1) L st S Q) (k : o_irem L st S N) : V M h pc L st S Q := by
  unfold o_irem at k
  split at k
  · intro p l e R s m args below meth cc D ad cA G H locs ls hR hS hL
    exact lv_irem G.1 G.2.1 d k.1 (hN _ _ _ k.2 p l e R s m args below meth cc D ad cA G H locs ls hR hS hL)
  · exact k.elim
theorem v_ldiv {M : MD} {h pc : Nat} {L : LVs} {st : List AV} {S : ST} {Q : Option AV → ST → Prop} {N : KK} (d : decode M.2.1 pc = .ok (.ldiv, 1)) (hN : ∀ L st S, N L st S → V M h (pc + 1) L st S Q) (k : o_ldiv L st S N) : V M h pc L st S Q := by
  unfold o_ldiv at k
  split at k
  · intro p l e R s m args below meth cc D ad cA G H locs ls hR hS hL
    exact lv_ldiv G.1 G.2.1 d k.1 (hN _ _ _ k.2 p l e R s m args below meth cc D ad cA G H locs ls hR hS hL)
  · exact k.elim
theorem v_lshl {M : MD} {h pc : Nat} {L : LVs} {st : List AV} {S : ST} {Q : Option AV → ST → Prop} {N : KK} (d : decode M.2.1 pc = .ok (.lshl, 1)) (hN : ∀ L st S, N L st S → V M h (pc + 1) L st S Q) (k : o_lshl L st S N) : V M h pc L st S Q := by
  unfold o_lshl at k
  split at k
  · intro p l e R s m args below meth cc D ad cA G H locs ls hR hS hL
    exact lv_lshl G.1 G.2.1 d rfl (hN _ _ _ k p l e R s m args below meth cc D ad cA G H locs ls hR hS hL)
  · exact k.elim
theorem v_i2l {M : MD} {h pc : Nat} {L : LVs} {st : List AV} {S : ST} {Q : Option AV → ST → Prop} {N : KK} (d : decode M.2.1 pc = .ok (.i2l, 1)) (hN : ∀ L st S, N L st S → V M h (pc + 1) L st S Q) (k : o_i2l L st S N) : V M h pc L st S Q := by
  unfold o_i2l at k
  split at k
  · intro p l e R s m args below meth cc D ad cA G H locs ls hR hS hL
    exact lv_i2l G.1 G.2.1 d rfl (hN _ _ _ k p l e R s m args below meth cc D ad cA G H locs ls hR hS hL)
  · exact k.elim
theorem v_l2i {M : MD} {h pc : Nat} {L : LVs} {st : List AV} {S : ST} {Q : Option AV → ST → Prop} {N : KK} (d : decode M.2.1 pc = .ok (.l2i, 1)) (hN : ∀ L st S, N L st S → V M h (pc + 1) L st S Q) (k : o_l2i L st S N) : V M h pc L st S Q := by
  unfold o_l2i at k
  split at k
  · intro p l e R s m args below meth cc D ad cA G H locs ls hR hS hL
    exact lv_l2i G.1 G.2.1 d rfl (hN _ _ _ k p l e R s m args below meth cc D ad cA G H locs ls hR hS hL)
  · exact k.elim
theorem v_i2c {M : MD} {h pc : Nat} {L : LVs} {st : List AV} {S : ST} {Q : Option AV → ST → Prop} {N : KK} (d : decode M.2.1 pc = .ok (.i2c, 1)) (hN : ∀ L st S, N L st S → V M h (pc + 1) L st S Q) (k : o_i2c L st S N) : V M h pc L st S Q := by
  unfold o_i2c at k
  split at k
  · intro p l e R s m args below meth cc D ad cA G H locs ls hR hS hL
    exact lv_i2c G.1 G.2.1 d rfl (hN _ _ _ k p l e R s m args below meth cc D ad cA G H locs ls hR hS hL)
  · exact k.elim
theorem v_lcmp {M : MD} {h pc : Nat} {L : LVs} {st : List AV} {S : ST} {Q : Option AV → ST → Prop} {N : KK} (d : decode M.2.1 pc = .ok (.lcmp, 1)) (hN : ∀ L st S, N L st S → V M h (pc + 1) L st S Q) (k : o_lcmp L st S N) : V M h pc L st S Q := by
  unfold o_lcmp at k
  split at k
  · intro p l e R s m args below meth cc D ad cA G H locs ls hR hS hL
    exact W.lcmp G.1 G.2.1 d (hN _ _ _ k p l e R s m args below meth cc D ad cA G H locs ls hR hS hL)
  · exact k.elim
theorem cat1_tv {ad : Nat → Nat → Nat} {v : AV} (h : cat1 v = true) : (tv ad v).category = 1 := by
  rcases v with x | x | ⟨c, j⟩ <;> simp_all [tv, Value.category, cat1]
theorem v_dup {M : MD} {h pc : Nat} {L : LVs} {st : List AV} {S : ST} {Q : Option AV → ST → Prop} {N : KK} (d : decode M.2.1 pc = .ok (.dup, 1)) (hN : ∀ L st S, N L st S → V M h (pc + 1) L st S Q) (k : o_dup L st S N) : V M h pc L st S Q := by
  unfold o_dup at k
  split at k
  · intro p l e R s m args below meth cc D ad cA G H locs ls hR hS hL
    exact lv_dup G.1 G.2.1 d (cat1_tv k.1) (hN _ _ _ k.2 p l e R s m args below meth cc D ad cA G H locs ls hR hS hL)
  · exact k.elim
theorem v_pop {M : MD} {h pc : Nat} {L : LVs} {st : List AV} {S : ST} {Q : Option AV → ST → Prop} {N : KK} (d : decode M.2.1 pc = .ok (.pop, 1)) (hN : ∀ L st S, N L st S → V M h (pc + 1) L st S Q) (k : o_pop L st S N) : V M h pc L st S Q := by
  unfold o_pop at k
  split at k
  · intro p l e R s m args below meth cc D ad cA G H locs ls hR hS hL
    exact lv_pop G.1 G.2.1 d (cat1_tv k.1) (hN _ _ _ k.2 p l e R s m args below meth cc D ad cA G H locs ls hR hS hL)
  · exact k.elim
theorem v_dup2 {M : MD} {h pc : Nat} {L : LVs} {st : List AV} {S : ST} {Q : Option AV → ST → Prop} {N : KK} (d : decode M.2.1 pc = .ok (.dup2, 1)) (hN : ∀ L st S, N L st S → V M h (pc + 1) L st S Q) (k : o_dup2 L st S N) : V M h pc L st S Q := by
  unfold o_dup2 at k
  split at k
  · intro p l e R s m args below meth cc D ad cA G H locs ls hR hS hL
    exact lv_dup2_11 G.1 G.2.1 d (cat1_tv k.1) (cat1_tv k.2.1) (hN _ _ _ k.2.2 p l e R s m args below meth cc D ad cA G H locs ls hR hS hL)
  · exact k.elim
