-- a method's start
def lsl : List AV → LVs
  | [] => []
  | .inr (.inl x) :: vs => some (vL x) :: none :: lsl vs
  | v :: vs => some v :: lsl vs
theorem lsl_args (ad : Nat → Nat → Nat) : ∀ (As : List AV) (k i : Nat) (v : AV), (lsl As)[i]? = some (some v) → (k + i, tv ad v) ∈ lv_args k (As.map (tv ad))
  | [], _, i, v, h => by simp [lsl] at h
  | .inl x :: vs, k, i, v, h => by
    simp only [lsl] at h
    cases i with
    | zero =>
      simp at h
      subst h
      exact List.mem_cons_self
    | succ i =>
      have h' : (lsl vs)[i]? = some (some v) := by simpa using h
      have := lsl_args ad vs (k + 1) i v h'
      refine List.mem_cons_of_mem _ ?_
      rw [show k + (i + 1) = k + 1 + i by omega]
      exact this
  | .inr (.inl x) :: vs, k, i, v, h => by
    simp only [lsl] at h
    match i, h with
    | 0, h =>
      simp at h
      subst h
      exact List.mem_cons_self
    | 1, h => simp at h
    | i + 2, h =>
      have h' : (lsl vs)[i]? = some (some v) := by simpa using h
      have := lsl_args ad vs (k + 2) i v h'
      refine List.mem_cons_of_mem _ ?_
      rw [show k + (i + 2) = k + 2 + i by omega]
      exact this
  | .inr (.inr (c, j)) :: vs, k, i, v, h => by
    simp only [lsl] at h
    cases i with
    | zero =>
      simp at h
      subst h
      exact List.mem_cons_self
    | succ i =>
      have h' : (lsl vs)[i]? = some (some v) := by simpa using h
      have := lsl_args ad vs (k + 1) i v h'
      refine List.mem_cons_of_mem _ ?_
      rw [show k + (i + 1) = k + 1 + i by omega]
      exact this
theorem lsl_len (ad : Nat → Nat → Nat) : ∀ As : List AV, (lg_sl (As.map (tv ad))).length = (lsl As).length
  | [] => rfl
  | .inl x :: vs => by have := lsl_len ad vs; simp [lg_sl, lsl, tv, Value.category] at this ⊢; omega
  | .inr (.inl x) :: vs => by have := lsl_len ad vs; simp [lg_sl, lsl, tv, Value.category] at this ⊢; omega
  | .inr (.inr (c, j)) :: vs => by have := lsl_len ad vs; simp [lg_sl, lsl, tv, Value.category] at this ⊢; omega
def L0 (As : List AV) (n : Nat) : LVs := lsl As ++ List.replicate (n - (lsl As).length) none
theorem L0_at {As : List AV} {n i : Nat} {v : AV} (h : (L0 As n)[i]? = some (some v)) : (lsl As)[i]? = some (some v) := by
  unfold L0 at h
  by_cases hi : i < (lsl As).length
  · rwa [List.getElem?_append_left hi] at h
  · rw [List.getElem?_append_right (by omega)] at h
    have := List.eq_of_mem_replicate (List.mem_of_getElem? h)
    cases this
theorem ct_of {M : MD} {h : Nat} {As : List AV} {S : ST} {Q : Option AV → ST → Prop} (hp : plainName M.1.cls = true) (hl : (lsl As).length ≤ M.2.2.1) (k : V M h 0 (L0 As M.2.2.1) [] S Q) : Ct M h As S Q := by
  intro l D ad cA hi
  refine Met.ofW (cc := M.2.1) (maxL := M.2.2.1) (ret := M.2.2.2) hp rfl ?_
  intro p e s m args below meth c s₁ B hml hv
  obtain ⟨rfl, hK, hR, hks⟩ := hv
  have hts := atoms_spec (ws := wsM M) B.pre
  have hown : s.vm.findClass M.1.cls = some m.cls := findClass_of_methodNamed B.named
  have hle : (lg_sl (As.map (tv ad))).length ≤ M.2.2.1 := by rw [lsl_len]; exact hl
  have hlv := lv_entry (As.map (tv ad)) (n := M.2.2.1) hle
  rw [lg_entry_eq]
  refine k p l e _ s m _ below meth c D ad cA ⟨B.exec, B.bytes, B.returns, hml, hown, fun w hw => hts w (List.mem_cons_of_mem _ hw), hK, B.notSynchronized, rfl, hi, hks⟩ s.heap [] _ hR va_S.rf ⟨hlv.1, hlv.2.1, fun i v hv => ?_⟩
  have := lsl_args ad As 0 i v (L0_at hv)
  rw [Nat.zero_add] at this
  exact hlv.2.2 _ this
-- calls
def wid (st : List AV) : Nat := (st.map fun v => if cat1 v = true then 1 else 2).sum
theorem wid_tv (ad : Nat → Nat → Nat) (st : List AV) : ((st.map (tv ad)).map fun v => v.category).sum = wid st := by
  induction st with
  | nil => rfl
  | cons v st ih =>
    simp only [List.map_cons, List.sum_cons, wid] at ih ⊢
    rw [ih]
    congr 1
    rcases v with x | x | ⟨c, j⟩ <;> simp [tv, Value.category, cat1]
theorem pc_blind {D : va_G} {ad : Nat → Nat → Nat} {cA : Nat → ClassId} {S : ST} {av : List Value} : FrameBlind (va_Pc av (fun U => va_K D vwCl (tyl cA) U ∧ Rep D ad cA S U.heap ∧ KS ad U)) :=
  fun a U g mk q => ⟨q.1, va_K.moved (u := U) (U := U.calling g mk a) (Vm.Alike.refl U.vm) q.2.1, q.2.2.1, KS_same (u := U) (U := U.calling g mk a) rfl rfl q.2.2.2⟩
/-- behind a call -/
theorem v_back {M M' : MD} {h pc : Nat} {L : LVs} {st stk : List AV} {S : ST} {Q Q' : Option AV → ST → Prop}
    (hr : ∀ (p : Program) (l : Launch) (e : Env) (R : Jvm.Room) (s : State) (m : MethodId) (args : Array Value) (below : List Frame) (meth : Method) (c : Code) (D : va_G) (ad : Nat → Nat → Nat) (cA : Nat → ClassId), Gd M h p R s m args meth c D ad cA → ∀ (H : Heap) (locs : List Loc) (ls : Array Slot), Rep D ad cA S H → va_S (fr ad) s.heap H locs → LH ad ls M.2.2.1 L → ∃ aa : Array Value, va_Run p l e R s m args below meth c H locs 0 0 0 0 (F0 m pc ls (stk.map (tv ad))) (st.map (tv ad)) (Qp D ad cA Q' aa) (fr ad))
    (k : ∀ (r : Option AV) (S' : ST), Q' r S' → V M h (pc + 3) L (r.toList ++ st) S' Q) : V M h pc L stk S Q := by
  intro p l e R s m args below meth cc D ad cA G H locs ls hR hS hL
  obtain ⟨aa, hrun⟩ := hr p l e R s m args below meth cc D ad cA G H locs ls hR hS hL
  intro T hT X
  obtain ⟨v, st₀, t, T', L1, h0, X', hL1, e1, e2, ⟨r, S', hv, hq, hR', hz, hk⟩, go⟩ := hrun T hT X
  have hv : v = r.map (tv ad) := by simpa using hv
  subst hv
  rw [h0] at hz hk
  obtain ⟨t2, a1, b1⟩ := k r S' hq p l e R s m args below meth cc D ad cA G T'.heap (locs ++ L1) ls (by rw [e1]; exact hR') ⟨Nat.le_trans hS.1 (by rw [e1]; exact hz), fun q h1 h2 => by rw [e1, hk q (Nat.lt_of_lt_of_le h1 hS.1) h2]; exact hS.2.1 q h1 h2, fun q hq => by
      rcases List.mem_append.mp hq with h | h
      · exact hS.2.2 q h
      · exact hL1 q h⟩ hL T' rfl X'
  refine ⟨t2, go t2 ?_, b1⟩
  have e3 : (r.toList ++ st).map (tv ad) = (r.map (tv ad)).toList ++ st.map (tv ad) := by cases r <;> simp
  rw [e3] at a1
  exact a1
theorem v_callV {M M' : MD} {h pc : Nat} {L : LVs} {st : List AV} {S : ST} {Q Q' : Option AV → ST → Prop} {idx c j n : Nat} {As : List AV} {T : u_T} (d : decode M.2.1 pc = .ok (.invokevirtual idx, 3)) (hl : Cond.methodLink M.1.cls idx M'.1 ∈ wT) (him : Cond.instanceMethod M'.1 ∈ wT) (hse : Cond.selects M'.1.cls M'.1 M'.1 ∈ wT) (hni : Cond.initialized M'.1.cls ∈ wT) (hcd : Cond.code M'.1 M'.2.1 M'.2.2.1 M'.2.2.2 ∈ wT)
    (hc : vwCl[c]? = some (M'.1.cls, T, n)) (hly : LY c = some (.inl (c, n))) (hd : M'.1.cls ≠ "java/lang/invoke/MethodHandle" ∧ M'.1.cls ≠ "java/lang/invoke/VarHandle" ∧ (parseMethodDescriptor M'.1.desc).map (fun d => d.parameters.length) = some As.length) (hml : M'.2.2.1 ≤ 40) (hw : wid st ≤ 8)
    (hj : j < NI c) (hC : Ct M' h (vR c j :: As) S Q') (k : ∀ (r : Option AV) (S' : ST), Q' r S' → V M (h + 1) (pc + 3) L (r.toList ++ st) S' Q) : V M (h + 1) pc L (As.reverse ++ vR c j :: st) S Q := by
  refine v_back (M' := M') (st := st) (Q' := Q') ?_ k
  intro p l e R s m args below meth cc D ad cA G H locs ls hR hS hL
  obtain ⟨hx, hb, hrt, hm, hown, hts, hK, hlk, rfl, hi, hks⟩ := G
  have hP := va_P1 (hR c j _ hly hj)
  refine ⟨_, va_runV (As := As.map (tv ad)) (rest := st.map (tv ad)) (b := ad c j) ⟨hx, hb, hm, hown, hts⟩ (hC l D ad cA hi) (cwV As.length hts (wT_good (fun w h => ?_)) rfl rfl rfl ⟨rfl, hd⟩ ⟨Nat.le_refl _, ?_⟩) ⟨pc_blind, va_recv hK hP hc (q0 := 0) rfl, fun U hU hW => ⟨rfl, va_K.moved hW.alike hK, by rw [hU]; exact hR, KS_at hks hW hU hS⟩⟩ rfl (by simp) hL.1 (by simp [tv]) (lv_room (by rw [wid_tv]; exact hw)) d ⟨Nat.zero_le _, Nat.zero_le _⟩⟩
  · simp only [wsV, wsM, List.mem_append, List.mem_cons, List.not_mem_nil, or_false] at h
    rcases h with (rfl | rfl | rfl | rfl) | rfl | h
    · exact hl
    · exact him
    · exact hse
    · exact hni
    · exact hcd
    · exact h
  · show 8 + (M'.2.2.1 + 11) + 64 * h ≤ 64 * (h + 1)
    omega
theorem v_callS {M M' : MD} {h pc : Nat} {L : LVs} {st : List AV} {S : ST} {Q Q' : Option AV → ST → Prop} {idx : Nat} {As : List AV} (d : decode M.2.1 pc = .ok (.invokestatic idx, 3)) (hl : Cond.methodLink M.1.cls idx M'.1 ∈ wT) (hsm : Cond.static M'.1 ∈ wT) (hni : Cond.initialized M.1.cls ∈ wT) (hcd : Cond.code M'.1 M'.2.1 M'.2.2.1 M'.2.2.2 ∈ wT)
    (hd : M'.1.cls = M.1.cls ∧ M'.1.cls ≠ "java/lang/invoke/MethodHandle" ∧ M'.1.cls ≠ "java/lang/invoke/VarHandle" ∧ (parseMethodDescriptor M'.1.desc).map (fun d => d.parameters.length) = some As.length) (hml : M'.2.2.1 ≤ 40) (hw : wid st ≤ 8)
    (hC : Ct M' h As S Q') (k : ∀ (r : Option AV) (S' : ST), Q' r S' → V M (h + 1) (pc + 3) L (r.toList ++ st) S' Q) : V M (h + 1) pc L (As.reverse ++ st) S Q := by
  refine v_back (M' := M') (st := st) (Q' := Q') ?_ k
  intro p l e R s m args below meth cc D ad cA G H locs ls hR hS hL
  obtain ⟨hx, hb, hrt, hm, hown, hts, hK, hlk, rfl, hi, hks⟩ := G
  refine ⟨_, va_runS (As := As.map (tv ad)) (rest := st.map (tv ad)) ⟨hx, hb, hm, hown, hts⟩ (hC l D ad cA hi) (cwS As.length hts (wT_good (fun w h => ?_)) rfl rfl rfl hd ⟨Nat.le_refl _, ?_⟩) ⟨pc_blind, fun U hU hW => ⟨rfl, va_K.moved hW.alike hK, by rw [hU]; exact hR, KS_at hks hW hU hS⟩⟩ rfl (by simp) hL.1 (by simp) (lv_room (by rw [wid_tv]; exact hw)) d ⟨Nat.zero_le _, Nat.zero_le _⟩⟩
  · simp only [wsS, wsM, List.mem_append, List.mem_cons, List.not_mem_nil, or_false] at h
    rcases h with (rfl | rfl | rfl) | rfl | h
    · exact hl
    · exact hsm
    · exact hni
    · exact hcd
    · exact h
  · show 8 + (M'.2.2.1 + 11) + 64 * h ≤ 64 * (h + 1)
    omega
