-- deps: 217
-- texts: rows of the machine for them
def MJcd : MD := (⟨"java/lang/String", "coder", "()B"⟩, prog_16_method_152_code, 1, some .byte)
def MJl1 : MD := (⟨"java/lang/String", "isLatin1", "()Z"⟩, prog_16_method_154_code, 1, some .boolean)
def MJln : MD := (⟨"java/lang/String", "length", "()I"⟩, prog_16_method_54_code, 1, some .int)
def MJch : MD := (⟨"java/lang/String", "charAt", "(I)C"⟩, prog_16_method_56_code, 2, some .char)
def MJck : MD := (⟨"java/lang/String", "checkIndex", "(II)V"⟩, prog_16_method_155_code, 2, none)
def MJlc : MD := (⟨"java/lang/StringLatin1", "charAt", "([BI)C"⟩, prog_17_method_2_code, 2, some .char)
def MJpc : MD := (⟨"jdk/internal/util/Preconditions", "checkIndex", "(IILjava/util/function/BiFunction;)I"⟩, prog_20_method_11_code, 3, some .int)
def MJi1 : MD := (⟨"java/lang/String", "indexOf", "(I)I"⟩, prog_16_method_79_code, 2, some .int)
def MJi2 : MD := (⟨"java/lang/String", "indexOf", "(II)I"⟩, prog_16_method_80_code, 3, some .int)
def MJli : MD := (⟨"java/lang/StringLatin1", "indexOf", "([BIII)I"⟩, prog_17_method_22_code, 4, some .int)
def MJce : MD := (⟨"java/lang/StringLatin1", "canEncode", "(I)Z"⟩, prog_17_method_4_code, 1, some .boolean)
def MJic : MD := (⟨"java/lang/StringLatin1", "indexOfChar", "([BIII)I"⟩, prog_17_method_23_code, 6, some .int)
theorem jw_i0 : Cond.initialized "java/lang/String" ∈ wT := wT_mem 126 (by decide +kernel) (by decide +kernel)
theorem jw_i1 : Cond.initialized "java/lang/StringLatin1" ∈ wT := wT_mem 127 (by decide +kernel) (by decide +kernel)
theorem jw_i3 : Cond.initialized "jdk/internal/util/Preconditions" ∈ wT := wT_mem 128 (by decide +kernel) (by decide +kernel)
theorem jw_9ch : Cond.methodLink RX9 74 MJch.1 ∈ wT := wT_mem 523 (by decide +kernel) (by decide +kernel)
theorem jw_11ch : Cond.methodLink RX11 117 MJch.1 ∈ wT := wT_mem 1384 (by decide +kernel) (by decide +kernel)
theorem jw_11ln : Cond.methodLink RX11 111 MJln.1 ∈ wT := wT_mem 1383 (by decide +kernel) (by decide +kernel)
theorem jw_9ix : Cond.methodLink RX9 62 MJi1.1 ∈ wT := wT_mem 588 (by decide +kernel) (by decide +kernel)
theorem jw_11ix : Cond.methodLink RX11 154 MJi1.1 ∈ wT := wT_mem 1411 (by decide +kernel) (by decide +kernel)
theorem jw_chI : Cond.instanceMethod MJch.1 ∈ wT := wT_mem 524 (by decide +kernel) (by decide +kernel)
theorem jw_chS : Cond.selects MJch.1.cls MJch.1 MJch.1 ∈ wT := wT_mem 525 (by decide +kernel) (by decide +kernel)
theorem jw_chC : Cond.code MJch.1 MJch.2.1 MJch.2.2.1 MJch.2.2.2 ∈ wT := wT_mem 526 (by decide +kernel) (by decide +kernel)
theorem jw_l1L : Cond.methodLink "java/lang/String" 492 MJl1.1 ∈ wT := wT_mem 527 (by decide +kernel) (by decide +kernel)
theorem jw_l1I : Cond.instanceMethod MJl1.1 ∈ wT := wT_mem 528 (by decide +kernel) (by decide +kernel)
theorem jw_l1S : Cond.selects MJl1.1.cls MJl1.1 MJl1.1 ∈ wT := wT_mem 529 (by decide +kernel) (by decide +kernel)
theorem jw_l1C : Cond.code MJl1.1 MJl1.2.1 MJl1.2.2.1 MJl1.2.2.2 ∈ wT := wT_mem 530 (by decide +kernel) (by decide +kernel)
theorem jw_f38 : Cond.fieldLink "java/lang/String" 38 "java/lang/String" "COMPACT_STRINGS" "Z" ∈ wT := wT_mem 531 (by decide +kernel) (by decide +kernel)
theorem jw_lcL : Cond.methodLink "java/lang/String" 495 MJlc.1 ∈ wT := wT_mem 533 (by decide +kernel) (by decide +kernel)
theorem jw_lcS : Cond.static MJlc.1 ∈ wT := wT_mem 534 (by decide +kernel) (by decide +kernel)
theorem jw_lcC : Cond.code MJlc.1 MJlc.2.1 MJlc.2.2.1 MJlc.2.2.2 ∈ wT := wT_mem 535 (by decide +kernel) (by decide +kernel)
theorem jw_ckL : Cond.methodLink "java/lang/StringLatin1" 9 MJck.1 ∈ wT := wT_mem 536 (by decide +kernel) (by decide +kernel)
theorem jw_ckS : Cond.static MJck.1 ∈ wT := wT_mem 537 (by decide +kernel) (by decide +kernel)
theorem jw_ckC : Cond.code MJck.1 MJck.2.1 MJck.2.2.1 MJck.2.2.2 ∈ wT := wT_mem 538 (by decide +kernel) (by decide +kernel)
theorem jw_f1053 : Cond.fieldLink "java/lang/String" 1053 "jdk/internal/util/Preconditions" "SIOOBE_FORMATTER" "Ljava/util/function/BiFunction;" ∈ wT := wT_mem 539 (by decide +kernel) (by decide +kernel)
theorem jw_pcL : Cond.methodLink "java/lang/String" 1059 MJpc.1 ∈ wT := wT_mem 541 (by decide +kernel) (by decide +kernel)
theorem jw_pcS : Cond.static MJpc.1 ∈ wT := wT_mem 542 (by decide +kernel) (by decide +kernel)
theorem jw_pcC : Cond.code MJpc.1 MJpc.2.1 MJpc.2.2.1 MJpc.2.2.2 ∈ wT := wT_mem 543 (by decide +kernel) (by decide +kernel)
theorem jw_i1I : Cond.instanceMethod MJi1.1 ∈ wT := wT_mem 589 (by decide +kernel) (by decide +kernel)
theorem jw_i1S : Cond.selects MJi1.1.cls MJi1.1 MJi1.1 ∈ wT := wT_mem 590 (by decide +kernel) (by decide +kernel)
theorem jw_i1C : Cond.code MJi1.1 MJi1.2.1 MJi1.2.2.1 MJi1.2.2.2 ∈ wT := wT_mem 591 (by decide +kernel) (by decide +kernel)
theorem jw_i2L : Cond.methodLink "java/lang/String" 633 MJi2.1 ∈ wT := wT_mem 592 (by decide +kernel) (by decide +kernel)
theorem jw_i2I : Cond.instanceMethod MJi2.1 ∈ wT := wT_mem 593 (by decide +kernel) (by decide +kernel)
theorem jw_i2S : Cond.selects MJi2.1.cls MJi2.1 MJi2.1 ∈ wT := wT_mem 594 (by decide +kernel) (by decide +kernel)
theorem jw_i2C : Cond.code MJi2.1 MJi2.2.1 MJi2.2.2.1 MJi2.2.2.2 ∈ wT := wT_mem 595 (by decide +kernel) (by decide +kernel)
theorem jw_lnL : Cond.methodLink "java/lang/String" 505 MJln.1 ∈ wT := wT_mem 596 (by decide +kernel) (by decide +kernel)
theorem jw_lnI : Cond.instanceMethod MJln.1 ∈ wT := wT_mem 597 (by decide +kernel) (by decide +kernel)
theorem jw_lnS : Cond.selects MJln.1.cls MJln.1 MJln.1 ∈ wT := wT_mem 598 (by decide +kernel) (by decide +kernel)
theorem jw_lnC : Cond.code MJln.1 MJln.2.1 MJln.2.2.1 MJln.2.2.2 ∈ wT := wT_mem 599 (by decide +kernel) (by decide +kernel)
theorem jw_cdL : Cond.methodLink "java/lang/String" 335 MJcd.1 ∈ wT := wT_mem 600 (by decide +kernel) (by decide +kernel)
theorem jw_cdI : Cond.instanceMethod MJcd.1 ∈ wT := wT_mem 601 (by decide +kernel) (by decide +kernel)
theorem jw_cdS : Cond.selects MJcd.1.cls MJcd.1 MJcd.1 ∈ wT := wT_mem 602 (by decide +kernel) (by decide +kernel)
theorem jw_cdC : Cond.code MJcd.1 MJcd.2.1 MJcd.2.2.1 MJcd.2.2.2 ∈ wT := wT_mem 603 (by decide +kernel) (by decide +kernel)
theorem jw_liL : Cond.methodLink "java/lang/String" 637 MJli.1 ∈ wT := wT_mem 604 (by decide +kernel) (by decide +kernel)
theorem jw_liS : Cond.static MJli.1 ∈ wT := wT_mem 605 (by decide +kernel) (by decide +kernel)
theorem jw_liC : Cond.code MJli.1 MJli.2.1 MJli.2.2.1 MJli.2.2.2 ∈ wT := wT_mem 606 (by decide +kernel) (by decide +kernel)
theorem jw_ceL : Cond.methodLink "java/lang/StringLatin1" 88 MJce.1 ∈ wT := wT_mem 607 (by decide +kernel) (by decide +kernel)
theorem jw_ceS : Cond.static MJce.1 ∈ wT := wT_mem 608 (by decide +kernel) (by decide +kernel)
theorem jw_ceC : Cond.code MJce.1 MJce.2.1 MJce.2.2.1 MJce.2.2.2 ∈ wT := wT_mem 609 (by decide +kernel) (by decide +kernel)
theorem jw_mx : Cond.methodLink "java/lang/StringLatin1" 92 Lib.Math.max.name ∈ wT := wT_mem 610 (by decide +kernel) (by decide +kernel)
theorem jw_mn : Cond.methodLink "java/lang/StringLatin1" 38 Lib.Math.min.name ∈ wT := wT_mem 613 (by decide +kernel) (by decide +kernel)
theorem jw_icL : Cond.methodLink "java/lang/StringLatin1" 95 MJic.1 ∈ wT := wT_mem 616 (by decide +kernel) (by decide +kernel)
theorem jw_icS : Cond.static MJic.1 ∈ wT := wT_mem 617 (by decide +kernel) (by decide +kernel)
theorem jw_icC : Cond.code MJic.1 MJic.2.1 MJic.2.2.1 MJic.2.2.2 ∈ wT := wT_mem 618 (by decide +kernel) (by decide +kernel)
theorem jw_f15 : Cond.fieldLink "java/lang/String" 15 "java/lang/String" "coder" "B" ∈ wT := wT_mem 1604 (by decide +kernel) (by decide +kernel)
theorem jw_f9 : Cond.fieldLink "java/lang/String" 9 "java/lang/String" "value" "[B" ∈ wT := wT_mem 1605 (by decide +kernel) (by decide +kernel)
def tlen (i : Nat) : Nat := lenL.getD i 0
def tby (i k : Nat) : Int32 := (bytL.getD i []).getD k 0
section
variable {M : MD} {h pc : Nat} {L : LVs} {st : List AV} {S : ST} {Q : Option AV → ST → Prop} {i : Nat}
theorem v_ldcT {own tx : String} {idx : Nat} (hcls : M.1.cls = own) (hk : ∀ (ad : Nat → Nat → Nat) (U : State), KS ad U → vk_R own idx tx (ad 1000 i) U) (d : decode M.2.1 pc = .ok (.ldc idx, 2)) (k : V M h (pc + 2) L (vR 1000 i :: st) S Q) : V M h pc L st S Q := by
  intro p l e R s m args below meth cc D ad cA G H locs ls hR hS hL
  have hown := G.2.2.2.2.1
  rw [hcls] at hown
  exact va_ldcS G.1 G.2.1 hown (hk ad s G.2.2.2.2.2.2.2.2.2.2) d (k p l e R s m args below meth cc D ad cA G H locs ls hR hS hL)
theorem v_getV (hcls : M.1.cls = "java/lang/String") (hi : i < 3) (d : decode M.2.1 pc = .ok (.getfield 9, 3)) (k : V M h (pc + 3) L (vR 1001 i :: st) S Q) : V M h pc L (vR 1000 i :: st) S Q := by
  intro p l e R s m args below meth cc D ad cA G H locs ls hR hS hL
  have hown := G.2.2.2.2.1
  rw [hcls] at hown
  exact vk_getf G.1 G.2.1 ((G.2.2.2.2.2.2.2.2.2.2.1.1 i hi).2.2.1) hS hown (G.2.2.2.2.2.1 _ jw_f9) (fun x hx => hx) d (k p l e R s m args below meth cc D ad cA G H locs ls hR hS hL)
theorem v_getC (hcls : M.1.cls = "java/lang/String") (hi : i < 3) (d : decode M.2.1 pc = .ok (.getfield 15, 3)) (k : V M h (pc + 3) L (vI (nI 0) :: st) S Q) : V M h pc L (vR 1000 i :: st) S Q := by
  intro p l e R s m args below meth cc D ad cA G H locs ls hR hS hL
  have hown := G.2.2.2.2.1
  rw [hcls] at hown
  exact vk_getf G.1 G.2.1 ((G.2.2.2.2.2.2.2.2.2.2.1.1 i hi).2.1) hS hown (G.2.2.2.2.2.1 _ jw_f15) (fun x hx => hx) d (k p l e R s m args below meth cc D ad cA G H locs ls hR hS hL)
theorem v_getK (hcls : M.1.cls = "java/lang/String") (d : decode M.2.1 pc = .ok (.getstatic 38, 3)) (k : V M h (pc + 3) L (vI (nI 1) :: st) S Q) : V M h pc L st S Q := by
  intro p l e R s m args below meth cc D ad cA G H locs ls hR hS hL
  have hown := G.2.2.2.2.1
  rw [hcls] at hown
  exact va_gets G.1 G.2.1 (G.2.2.2.2.2.2.2.2.2.2.2.2.1) hS hown (G.2.2.2.2.2.1 _ jw_f38) (fun x hx => hx) d (k p l e R s m args below meth cc D ad cA G H locs ls hR hS hL)
theorem v_alenT (hi : i < 3) (d : decode M.2.1 pc = .ok (.arraylength, 1)) (k : V M h (pc + 1) L (vI (nI (tlen i)) :: st) S Q) : V M h pc L (vR 1001 i :: st) S Q := by
  intro p l e R s m args below meth cc D ad cA G H locs ls hR hS hL
  exact va_tlen G.1 G.2.1 ((G.2.2.2.2.2.2.2.2.2.2.1.1 i hi).2.2.2) hS rfl d (k p l e R s m args below meth cc D ad cA G H locs ls hR hS hL)
theorem v_baldT {x : Int32} (hi : i < 3) (hx : vp_in x (tlen i)) (d : decode M.2.1 pc = .ok (.baload, 1)) (k : V M h (pc + 1) L (vI (tby i x.toNatClampNeg) :: st) S Q) : V M h pc L (vI x :: vR 1001 i :: st) S Q := by
  intro p l e R s m args below meth cc D ad cA G H locs ls hR hS hL
  exact va_tb G.1 G.2.1 ((G.2.2.2.2.2.2.2.2.2.2.1.1 i hi).2.2.2) hS hx rfl d (k p l e R s m args below meth cc D ad cA G H locs ls hR hS hL)
theorem v_ishr {x y : Int32} (d : decode M.2.1 pc = .ok (.ishr, 1)) (k : V M h (pc + 1) L (vI (x >>> (y &&& 31)) :: st) S Q) : V M h pc L (vI y :: vI x :: st) S Q := by
  intro p l e R s m args below meth cc D ad cA G H locs ls hR hS hL
  exact lv_ishr G.1 G.2.1 d (k p l e R s m args below meth cc D ad cA G H locs ls hR hS hL)
theorem v_i2b {x : Int32} (d : decode M.2.1 pc = .ok (.i2b, 1)) (k : V M h (pc + 1) L (vI x.toInt8.toInt32 :: st) S Q) : V M h pc L (vI x :: st) S Q := by
  intro p l e R s m args below meth cc D ad cA G H locs ls hR hS hL
  exact lv_i2b G.1 G.2.1 d rfl (k p l e R s m args below meth cc D ad cA G H locs ls hR hS hL)
theorem v_callT {M' : MD} {Q' : Option AV → ST → Prop} {idx : Nat} {As : List AV} (d : decode M.2.1 pc = .ok (.invokevirtual idx, 3)) (hl : Cond.methodLink M.1.cls idx M'.1 ∈ wT) (him : Cond.instanceMethod M'.1 ∈ wT) (hse : Cond.selects M'.1.cls M'.1 M'.1 ∈ wT) (hcd : Cond.code M'.1 M'.2.1 M'.2.2.1 M'.2.2.2 ∈ wT) (hcls : M'.1.cls = "java/lang/String")
    (hd : M'.1.cls ≠ "java/lang/invoke/MethodHandle" ∧ M'.1.cls ≠ "java/lang/invoke/VarHandle" ∧ (parseMethodDescriptor M'.1.desc).map (fun d => d.parameters.length) = some As.length) (hml : M'.2.2.1 ≤ 40) (hw : wid st ≤ 8)
    (hi : i < 3) (hC : Ct M' h (vR 1000 i :: As) S Q') (k : ∀ (r : Option AV) (S' : ST), Q' r S' → V M (h + 1) (pc + 3) L (r.toList ++ st) S' Q) : V M (h + 1) pc L (As.reverse ++ vR 1000 i :: st) S Q := by
  refine v_back (M' := M') (st := st) (Q' := Q') ?_ k
  intro p l e R s m args below meth cc D ad cA G H locs ls hR hS hL
  obtain ⟨hx, hb, hrt, hm, hown, hts, hK, hlk, rfl, hinj, hks⟩ := G
  refine ⟨_, va_runV (As := As.map (tv ad)) (rest := st.map (tv ad)) (b := ad 1000 i) ⟨hx, hb, hm, hown, hts⟩ (hC l D ad cA hinj) (cwV (C := M'.1.cls) As.length hts (wT_good (fun w h => ?_)) rfl rfl rfl ⟨rfl, hd⟩ ⟨Nat.le_refl _, ?_⟩) ⟨pc_blind, ?_, fun U hU hW => ⟨rfl, va_K.moved hW.alike hK, by rw [hU]; exact hR, KS_at hks hW hU hS⟩⟩ rfl (by simp) hL.1 (by simp [tv]) (lv_room (by rw [wid_tv]; exact hw)) d ⟨Nat.zero_le _, Nat.zero_le _⟩⟩
  · simp only [wsV, wsM, List.mem_append, List.mem_cons, List.not_mem_nil, or_false] at h
    rcases h with (rfl | rfl | rfl | rfl) | rfl | h
    · exact hl
    · exact him
    · exact hse
    · rw [hcls]; exact jw_i0
    · exact hcd
    · exact h
  · show 8 + (M'.2.2.1 + 11) + 64 * h ≤ 64 * (h + 1)
    omega
  · rw [hcls]
    exact vk_recv hks.1 hi hS
theorem v_callA {M' : MD} {Q' : Option AV → ST → Prop} {idx : Nat} {As : List AV} (d : decode M.2.1 pc = .ok (.invokestatic idx, 3)) (hl : Cond.methodLink M.1.cls idx M'.1 ∈ wT) (hsm : Cond.static M'.1 ∈ wT) (hni : Cond.initialized M'.1.cls ∈ wT) (hcd : Cond.code M'.1 M'.2.1 M'.2.2.1 M'.2.2.2 ∈ wT)
    (hd : M'.1.cls ≠ "java/lang/invoke/MethodHandle" ∧ M'.1.cls ≠ "java/lang/invoke/VarHandle" ∧ (parseMethodDescriptor M'.1.desc).map (fun d => d.parameters.length) = some As.length) (hml : M'.2.2.1 ≤ 40) (hw : wid st ≤ 8)
    (hC : Ct M' h As S Q') (k : ∀ (r : Option AV) (S' : ST), Q' r S' → V M (h + 1) (pc + 3) L (r.toList ++ st) S' Q) : V M (h + 1) pc L (As.reverse ++ st) S Q := by
  refine v_back (M' := M') (st := st) (Q' := Q') ?_ k
  intro p l e R s m args below meth cc D ad cA G H locs ls hR hS hL
  obtain ⟨hx, hb, hrt, hm, hown, hts, hK, hlk, rfl, hinj, hks⟩ := G
  refine ⟨_, va_runS (As := As.map (tv ad)) (rest := st.map (tv ad)) ⟨hx, hb, hm, hown, hts⟩ (hC l D ad cA hinj) (va_cwS As.length hts (wT_good (fun w h => ?_)) rfl rfl rfl hd ⟨Nat.le_refl _, ?_⟩) ⟨pc_blind, fun U hU hW => ⟨rfl, va_K.moved hW.alike hK, by rw [hU]; exact hR, KS_at hks hW hU hS⟩⟩ rfl (by simp) hL.1 (by simp) (lv_room (by rw [wid_tv]; exact hw)) d ⟨Nat.zero_le _, Nat.zero_le _⟩⟩
  · simp only [va_wsS, wsM, List.mem_append, List.mem_cons, List.not_mem_nil, or_false] at h
    rcases h with (rfl | rfl | rfl) | rfl | h
    · exact hl
    · exact hsm
    · exact hni
    · exact hcd
    · exact h
  · show 8 + (M'.2.2.1 + 11) + 64 * h ≤ 64 * (h + 1)
    omega
end
