-- deps: 282
-- texts: checkIndex, charAt
theorem jn_ck : MJck.1.cls ≠ "java/lang/invoke/MethodHandle" ∧ MJck.1.cls ≠ "java/lang/invoke/VarHandle" ∧ (parseMethodDescriptor MJck.1.desc).map (fun d => d.parameters.length) = some 2 := by decide +kernel
theorem jn_lc : MJlc.1.cls ≠ "java/lang/invoke/MethodHandle" ∧ MJlc.1.cls ≠ "java/lang/invoke/VarHandle" ∧ (parseMethodDescriptor MJlc.1.desc).map (fun d => d.parameters.length) = some 2 := by decide +kernel
theorem jn_pc : MJpc.1.cls ≠ "java/lang/invoke/MethodHandle" ∧ MJpc.1.cls ≠ "java/lang/invoke/VarHandle" ∧ (parseMethodDescriptor MJpc.1.desc).map (fun d => d.parameters.length) = some 3 := by decide +kernel
theorem jn_i2 : MJi2.1.cls ≠ "java/lang/invoke/MethodHandle" ∧ MJi2.1.cls ≠ "java/lang/invoke/VarHandle" ∧ (parseMethodDescriptor MJi2.1.desc).map (fun d => d.parameters.length) = some 2 := by decide +kernel
theorem jn_li : MJli.1.cls ≠ "java/lang/invoke/MethodHandle" ∧ MJli.1.cls ≠ "java/lang/invoke/VarHandle" ∧ (parseMethodDescriptor MJli.1.desc).map (fun d => d.parameters.length) = some 4 := by decide +kernel
theorem jn_ce : MJce.1.cls ≠ "java/lang/invoke/MethodHandle" ∧ MJce.1.cls ≠ "java/lang/invoke/VarHandle" ∧ (parseMethodDescriptor MJce.1.desc).map (fun d => d.parameters.length) = some 1 := by decide +kernel
theorem jn_ic : MJic.1.cls ≠ "java/lang/invoke/MethodHandle" ∧ MJic.1.cls ≠ "java/lang/invoke/VarHandle" ∧ (parseMethodDescriptor MJic.1.desc).map (fun d => d.parameters.length) = some 4 := by decide +kernel
theorem jn_ch : MJch.1.cls ≠ "java/lang/invoke/MethodHandle" ∧ MJch.1.cls ≠ "java/lang/invoke/VarHandle" ∧ (parseMethodDescriptor MJch.1.desc).map (fun d => d.parameters.length) = some 1 := by decide +kernel
theorem jn_i1 : MJi1.1.cls ≠ "java/lang/invoke/MethodHandle" ∧ MJi1.1.cls ≠ "java/lang/invoke/VarHandle" ∧ (parseMethodDescriptor MJi1.1.desc).map (fun d => d.parameters.length) = some 1 := by decide +kernel
theorem jn_ln : MJln.1.cls ≠ "java/lang/invoke/MethodHandle" ∧ MJln.1.cls ≠ "java/lang/invoke/VarHandle" ∧ (parseMethodDescriptor MJln.1.desc).map (fun d => d.parameters.length) = some 0 := by decide +kernel
theorem jn_l1 : MJl1.1.cls ≠ "java/lang/invoke/MethodHandle" ∧ MJl1.1.cls ≠ "java/lang/invoke/VarHandle" ∧ (parseMethodDescriptor MJl1.1.desc).map (fun d => d.parameters.length) = some 0 := by decide +kernel
theorem jn_cd : MJcd.1.cls ≠ "java/lang/invoke/MethodHandle" ∧ MJcd.1.cls ≠ "java/lang/invoke/VarHandle" ∧ (parseMethodDescriptor MJcd.1.desc).map (fun d => d.parameters.length) = some 0 := by decide +kernel
theorem met_pc (h : Nat) (S : ST) (a b : Nat) (hab : a < b) (hb : b < 2 ^ 31) (v : Value) (hcat : v.category = 1) (l : Launch) (D : va_G) (ad : Nat → Nat → Nat) (cA : Nat → ClassId) (hi : Inj ad) : Met l MJpc.1 (wsM MJpc) (rmH h) (va_Pc [.int (nI a), .int (nI b), v] (fun U => va_K D vwCl (tyl cA) U ∧ Rep D ad cA S U.heap ∧ KS ad U)) (Qp D ad cA (fun r S' => r = some (vI (nI a)) ∧ S' = S)) 0 0 (fr ad) := by
  refine Met.ofW (cc := MJpc.2.1) (maxL := MJpc.2.2.1) (ret := MJpc.2.2.2) (by decide +kernel) rfl ?_
  intro p e s m args below meth c s₁ B hml hv
  obtain ⟨rfl, hK, hR, hks⟩ := hv
  have hts := atoms_spec (ws := wsM MJpc) B.pre
  have hown : s.vm.findClass MJpc.1.cls = some m.cls := findClass_of_methodNamed B.named
  have hsl : (lg_sl [.int (nI a), .int (nI b), v]).length ≤ MJpc.2.2.1 := by
    cases v <;> simp_all [lg_sl, Value.category, MJpc]
  have hlv := lv_entry [.int (nI a), .int (nI b), v] (n := MJpc.2.2.1) hsl
  rw [lg_entry_eq]
  refine c_Jpc h S a b hab hb p l e _ s m _ below meth c D ad cA ⟨B.exec, B.bytes, B.returns, hml, hown, fun w hw => hts w (List.mem_cons_of_mem _ hw), hK, B.notSynchronized, rfl, hi, hks⟩ s.heap [] _ hR va_S.rf ⟨hlv.1, hlv.2.1, fun i x hx => ?_⟩
  match i, hx with
  | 0, hx =>
    simp at hx
    subst hx
    exact hlv.2.2 (0, .int (nI a)) (by simp [lv_args])
  | 1, hx =>
    simp at hx
    subst hx
    exact hlv.2.2 (1, .int (nI b)) (by simp [lv_args, Value.category])
  | 2, hx => simp at hx
  | i + 3, hx => simp at hx
theorem v_ckI {h : Nat} {L : LVs} {S : ST} {Q : Option AV → ST → Prop} (a b : Nat) (hab : a < b) (hb : b < 2 ^ 31) (k : V MJck (h + 1) 8 L [vI (nI a)] S Q) : V MJck (h + 1) 2 L [vI (nI b), vI (nI a)] S Q := by
  intro p l e R s m args below meth cc D ad cA G H locs ls hR hS hL
  have G' := G
  obtain ⟨hx, hbb, hrt, hm, hown, hts, hK, hlk, rfl, hinj, hks⟩ := G
  have call : ∀ v : Value, v.category = 1 → W p l e (rmH (h + 1)) s m args below meth cc H locs 0 0 (MQ below (Qp D ad cA Q) args s 0 0 (fr ad)) (F0 m 5 ls (v :: .int (nI b) :: .int (nI a) :: [])) := by
    intro v hcat
    have hrun := va_runS (p := p) (e := e) (R := rmH (h + 1)) (below := below) (meth := meth) (locs := locs) (cells := 0) (slots := 0) (H := H) (g := F0 m 5 ls (v :: .int (nI b) :: .int (nI a) :: [])) (As := [.int (nI a), .int (nI b), v]) (rest := []) ⟨hx, hbb, hm, hown, hts⟩ (met_pc h S a b hab hb v hcat l D ad cA hinj) (va_cwS 3 hts (wT_good (fun w h => by
      simp only [va_wsS, wsM, List.mem_append, List.mem_cons, List.not_mem_nil, or_false] at h
      rcases h with (rfl | rfl | rfl) | rfl | h
      · exact jw_pcL
      · exact jw_pcS
      · exact jw_i3
      · exact jw_pcC
      · exact h)) rfl rfl rfl jn_pc ⟨Nat.le_refl _, by show 8 + (3 + 11) + 64 * h ≤ 64 * (h + 1); omega⟩) ⟨pc_blind, fun U hU hW => ⟨rfl, va_K.moved hW.alike hK, by rw [hU]; exact hR, KS_at hks hW hU hS⟩⟩ rfl rfl hL.1 (by simp [F0]) (by simp [F0]) jd_ck_5 ⟨Nat.zero_le _, Nat.zero_le _⟩
    intro T hT X
    obtain ⟨v', st₀, t, T', L1, h0, X', hL1, e1, e2, ⟨r, S', hv, hq, hR', hz, hk⟩, go⟩ := hrun T hT X
    have hv : v' = r.map (tv ad) := by simpa using hv
    subst hv
    obtain ⟨rfl, rfl⟩ := hq
    rw [h0] at hz hk
    obtain ⟨t2, a1, b1⟩ := k p l e _ s m args below meth cc D ad cA G' T'.heap (locs ++ L1) ls (by rw [e1]; exact hR') ⟨Nat.le_trans hS.1 (by rw [e1]; exact hz), fun q h1 h2 => by rw [e1, hk q (Nat.lt_of_lt_of_le h1 hS.1) h2]; exact hS.2.1 q h1 h2, fun q hq => by
      rcases List.mem_append.mp hq with h | h
      · exact hS.2.2 q h
      · exact hL1 q h⟩ hL T' rfl X'
    exact ⟨t2, go t2 a1, b1⟩
  rcases hks.2.2.2 with hz | ⟨t, hz⟩
  · exact va_gets hx hbb hz hS hown (hts _ jw_f1053) (fun x hx => hx) jd_ck_2 (call .null rfl)
  · exact va_gets hx hbb hz hS hown (hts _ jw_f1053) (fun x hx => hx) jd_ck_2 (call (.ref t) rfl)
section
variable (h : Nat) (S : ST)
theorem c_Jck (a b : Nat) (hab : a < b) (hb : b < 2 ^ 31) : Ct MJck (h + 1) [vI (nI a), vI (nI b)] S (fun r S' => r = none ∧ S' = S) := by
  refine ct_of (by decide +kernel) (Nat.le_of_ble_eq_true rfl) ?_
  show V MJck (h + 1) 0 [some (vI (nI a)), some (vI (nI b))] [] S _
  refine v_iload_n (i := 0) (N := fun L st S => V MJck (h + 1) 1 L st S _) jd_ck_0 rfl (fun _ _ _ k => k) ?_
  show V MJck (h + 1) 1 _ [vI (nI a)] S _
  refine v_iload_n (i := 1) (N := fun L st S => V MJck (h + 1) 2 L st S _) jd_ck_1 rfl (fun _ _ _ k => k) ?_
  show V MJck (h + 1) 2 _ [vI (nI b), vI (nI a)] S _
  refine v_ckI a b hab hb ?_
  refine v_pop (N := fun L st S => V MJck (h + 1) 9 L st S _) jd_ck_8 (fun _ _ _ k => k) ?_
  simp only [o_pop, cat1]
  exact ⟨trivial, v_return jd_ck_9 rfl ⟨rfl, rfl⟩⟩
theorem c_Jlc (i k : Nat) (hi : i < 3) (hk : k < tlen i) : Ct MJlc (h + 2) [vR 1001 i, vI (nI k)] S (fun r S' => r = some (vI (tby i k)) ∧ S' = S) := by
  have hl := (tl_all i hi).1
  have hb := tby_ok hi hk
  refine ct_of (by decide +kernel) (Nat.le_of_ble_eq_true rfl) ?_
  show V MJlc (h + 2) 0 [some (vR 1001 i), some (vI (nI k))] [] S _
  refine v_iload_n (i := 1) (N := fun L st S => V MJlc (h + 2) 1 L st S _) jd_lc_0 rfl (fun _ _ _ k => k) ?_
  show V MJlc (h + 2) 1 _ [vI (nI k)] S _
  refine v_aload_n (i := 0) (N := fun L st S => V MJlc (h + 2) 2 L st S _) jd_lc_1 rfl (fun _ _ _ k => k) ?_
  show V MJlc (h + 2) 2 _ [vR 1001 i, vI (nI k)] S _
  refine v_alenT hi jd_lc_2 ?_
  refine v_callA (M' := MJck) (As := [vI (nI k), vI (nI (tlen i))]) (st := []) jd_lc_3 jw_ckL jw_ckS jw_i0 jw_ckC jn_ck (by decide) (Nat.le_of_ble_eq_true rfl) (c_Jck h S k (tlen i) hk (by omega)) ?_
  rintro r S' ⟨rfl, rfl⟩
  refine v_aload_n (i := 0) (N := fun L st S => V MJlc (h + 2) 7 L st S _) jd_lc_6 rfl (fun _ _ _ k => k) ?_
  show V MJlc (h + 2) 7 _ [vR 1001 i] _ _
  refine v_iload_n (i := 1) (N := fun L st S => V MJlc (h + 2) 8 L st S _) jd_lc_7 rfl (fun _ _ _ k => k) ?_
  show V MJlc (h + 2) 8 _ [vI (nI k), vR 1001 i] _ _
  refine v_baldT hi (vp_in_nI hk (by omega)) jd_lc_8 ?_
  rw [nI_clamp (by omega)]
  refine v_sipush (x := 255) (N := fun L st S => V MJlc (h + 2) 12 L st S _) jd_lc_9 (by decide) (fun _ _ _ k => k) ?_
  show V MJlc (h + 2) 12 _ [vI 255, vI (tby i k)] _ _
  refine v_iand (N := fun L st S => V MJlc (h + 2) 13 L st S _) jd_lc_12 (fun _ _ _ k => k) ?_
  show V MJlc (h + 2) 13 _ [vI (tby i k &&& 255)] _ _
  refine v_i2c (N := fun L st S => V MJlc (h + 2) 14 L st S _) jd_lc_13 (fun _ _ _ k => k) ?_
  show V MJlc (h + 2) 14 _ [vI ((tby i k &&& 255).toUInt32 % 65536).toInt32] _ _
  rw [sc_c2]
  refine v_nret jd_lc_14 rfl (sc_nar _) ⟨?_, rfl⟩
  rw [hb.1]
theorem c_Jch (i k : Nat) (hi : i < 3) (hk : k < tlen i) : Ct MJch (h + 3) [vR 1000 i, vI (nI k)] S (fun r S' => r = some (vI (tby i k)) ∧ S' = S) := by
  have hb := tby_ok hi hk
  refine ct_of (by decide +kernel) (Nat.le_of_ble_eq_true rfl) ?_
  show V MJch (h + 3) 0 [some (vR 1000 i), some (vI (nI k))] [] S _
  refine v_aload_n (i := 0) (N := fun L st S => V MJch (h + 3) 1 L st S _) jd_ch_0 rfl (fun _ _ _ k => k) ?_
  show V MJch (h + 3) 1 _ [vR 1000 i] S _
  refine v_callT (M' := MJl1) (As := []) (st := []) jd_ch_1 jw_l1L jw_l1I jw_l1S jw_l1C rfl (by decide +kernel) (by decide) (Nat.le_of_ble_eq_true rfl) hi (c_Jl1 (h + 2) S i hi) ?_
  rintro r S' ⟨rfl, rfl⟩
  refine w_if_eq (tgt := 16) (nx := 7) jd_ch_4 (by decide) rfl ⟨fun e => absurd e (by decide), fun _ => ?_⟩
  refine v_aload_n (i := 0) (N := fun L st S => V MJch (h + 3) 8 L st S _) jd_ch_7 rfl (fun _ _ _ k => k) ?_
  show V MJch (h + 3) 8 _ [vR 1000 i] _ _
  refine v_getV rfl hi jd_ch_8 ?_
  refine v_iload_n (i := 1) (N := fun L st S => V MJch (h + 3) 12 L st S _) jd_ch_11 rfl (fun _ _ _ k => k) ?_
  show V MJch (h + 3) 12 _ [vI (nI k), vR 1001 i] _ _
  refine v_callA (M' := MJlc) (As := [vR 1001 i, vI (nI k)]) (st := []) jd_ch_12 jw_lcL jw_lcS jw_i1 jw_lcC jn_lc (by decide) (Nat.le_of_ble_eq_true rfl) (c_Jlc h _ i k hi hk) ?_
  rintro r S' ⟨rfl, rfl⟩
  refine v_nret jd_ch_15 rfl ?_ ⟨rfl, rfl⟩
  rw [← hb.1]
  exact sc_nar _
end
