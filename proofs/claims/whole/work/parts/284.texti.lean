-- deps: 283
-- texts: indexOf
/-- the first place from k on where the sign c stands, or -1 -/
def ixN (i c : Nat) : Nat → Nat → Int32
  | 0, _ => -1
  | n + 1, k => if tby i k = nI c then nI k else ixN i c n (k + 1)
theorem i2b_128 : ∀ c, c < 128 → (nI c).toInt8.toInt32 = nI c := by decide +kernel
section
variable (h : Nat) (S : ST) (i c : Nat)
theorem c_Jce (hc0 : c < 128) : Ct MJce h [vI (nI c)] S (fun r S' => r = some (vI (nI 1)) ∧ S' = S) := by
  refine ct_of (by decide +kernel) (Nat.le_of_ble_eq_true rfl) ?_
  show V MJce h 0 [some (vI (nI c))] [] S _
  refine v_iload_n (i := 0) (N := fun L st S => V MJce h 1 L st S _) jd_ce_0 rfl (fun _ _ _ k => k) ?_
  show V MJce h 1 _ [vI (nI c)] S _
  refine w_if_lt (tgt := 15) (nx := 4) jd_ce_1 (by decide) rfl ⟨fun e => absurd e (nI_nlt (by omega) (by omega)), fun _ => ?_⟩
  refine v_iload_n (i := 0) (N := fun L st S => V MJce h 5 L st S _) jd_ce_4 rfl (fun _ _ _ k => k) ?_
  show V MJce h 5 _ [vI (nI c)] S _
  refine v_sipush (x := nI 255) (N := fun L st S => V MJce h 8 L st S _) jd_ce_5 (by decide) (fun _ _ _ k => k) ?_
  show V MJce h 8 _ [vI (nI 255), vI (nI c)] S _
  refine w_icmp_gt (tgt := 15) (nx := 11) jd_ce_8 (by decide) rfl ⟨fun e => absurd e (nI_nlt (by omega) (by omega)), fun _ => ?_⟩
  refine v_iconst (x := nI 1) (N := fun L st S => V MJce h 12 L st S _) jd_ce_11 (by decide) (fun _ _ _ k => k) ?_
  show V MJce h 12 _ [vI (nI 1)] S _
  refine v_goto (tgt := 16) jd_ce_12 (by decide) ?_
  exact v_zreturn jd_ce_16 rfl (Or.inr rfl) ⟨rfl, rfl⟩
theorem c_Jic (hi : i < 3) (hc0 : c < 128) : Ct MJic h [vR 1001 i, vI (nI c), vI (nI 0), vI (nI (tlen i))] S (fun r S' => r = some (vI (ixN i c (tlen i) 0)) ∧ S' = S) := by
  have hl := (tl_all i hi).1
  have loop : ∀ (n k : Nat), k + n = tlen i → V MJic h 7 [some (vR 1001 i), some (vI (nI c)), some (vI (nI 0)), some (vI (nI (tlen i))), some (vI (nI c)), some (vI (nI k))] [] S (fun r S' => r = some (vI (ixN i c n k)) ∧ S' = S) := by
    intro n
    induction n with
    | zero =>
      intro k hk
      refine v_iload (i := 5) (N := fun L st S => V MJic h 9 L st S _) jd_ic_7 (fun _ _ _ k => k) ?_
      show V MJic h 9 _ [vI (nI k)] S _
      refine v_iload_n (i := 3) (N := fun L st S => V MJic h 10 L st S _) jd_ic_9 rfl (fun _ _ _ k => k) ?_
      show V MJic h 10 _ [vI (nI (tlen i)), vI (nI k)] S _
      refine w_icmp_ge (tgt := 31) (nx := 13) jd_ic_10 (by decide) rfl ⟨fun _ => ?_, fun e => absurd (nI_le (by omega) (by omega)) e⟩
      refine v_iconst (x := -1) (N := fun L st S => V MJic h 32 L st S _) jd_ic_31 (by decide) (fun _ _ _ k => k) ?_
      show V MJic h 32 _ [vI (-1)] S _
      exact v_ireturn jd_ic_32 rfl ⟨rfl, rfl⟩
    | succ n ih =>
      intro k hk
      have hb := tby_ok hi (show k < tlen i by omega)
      refine v_iload (i := 5) (N := fun L st S => V MJic h 9 L st S _) jd_ic_7 (fun _ _ _ k => k) ?_
      show V MJic h 9 _ [vI (nI k)] S _
      refine v_iload_n (i := 3) (N := fun L st S => V MJic h 10 L st S _) jd_ic_9 rfl (fun _ _ _ k => k) ?_
      show V MJic h 10 _ [vI (nI (tlen i)), vI (nI k)] S _
      refine w_icmp_ge (tgt := 31) (nx := 13) jd_ic_10 (by decide) rfl ⟨fun e => absurd e (nI_ge (by omega) (by omega)), fun _ => ?_⟩
      refine v_aload_n (i := 0) (N := fun L st S => V MJic h 14 L st S _) jd_ic_13 rfl (fun _ _ _ k => k) ?_
      show V MJic h 14 _ [vR 1001 i] S _
      refine v_iload (i := 5) (N := fun L st S => V MJic h 16 L st S _) jd_ic_14 (fun _ _ _ k => k) ?_
      show V MJic h 16 _ [vI (nI k), vR 1001 i] S _
      refine v_baldT hi (vp_in_nI (by omega) (by omega)) jd_ic_16 ?_
      rw [nI_clamp (by omega)]
      refine v_iload (i := 4) (N := fun L st S => V MJic h 19 L st S _) jd_ic_17 (fun _ _ _ k => k) ?_
      show V MJic h 19 _ [vI (nI c), vI (tby i k)] S _
      rw [ixN]
      refine w_icmp_ne (tgt := 25) (nx := 22) jd_ic_19 (by decide) rfl ⟨fun e => ?_, fun e => ?_⟩
      · rw [if_pos e]
        refine v_iload (i := 5) (N := fun L st S => V MJic h 24 L st S _) jd_ic_22 (fun _ _ _ k => k) ?_
        show V MJic h 24 _ [vI (nI k)] S _
        exact v_ireturn jd_ic_24 rfl ⟨rfl, rfl⟩
      · rw [if_neg e]
        refine v_iinc (i := 5) (x := nI 1) (N := fun L st S => V MJic h 28 L st S _) jd_ic_25 (by decide) (by decide) (fun _ _ _ k => k) ?_
        simp only [o_inc, List.getElem?_cons_zero, List.getElem?_cons_succ, List.set_cons_zero, List.set_cons_succ]
        rw [nI_add]
        refine v_goto (tgt := 7) jd_ic_28 (by decide) ?_
        exact ih (k + 1) (by omega)
  refine ct_of (by decide +kernel) (Nat.le_of_ble_eq_true rfl) ?_
  show V MJic h 0 [some (vR 1001 i), some (vI (nI c)), some (vI (nI 0)), some (vI (nI (tlen i))), none, none] [] S _
  refine v_iload_n (i := 1) (N := fun L st S => V MJic h 1 L st S _) jd_ic_0 rfl (fun _ _ _ k => k) ?_
  show V MJic h 1 _ [vI (nI c)] S _
  refine v_i2b jd_ic_1 ?_
  rw [i2b_128 c hc0]
  refine v_istore (i := 4) (N := fun L st S => V MJic h 4 L st S _) jd_ic_2 (by decide) (fun _ _ _ k => k) ?_
  simp only [o_is, st1, kl, List.getElem?_cons_zero, List.getElem?_cons_succ, List.set_cons_zero, List.set_cons_succ]
  refine ⟨Nat.le_of_ble_eq_true rfl, ?_⟩
  refine v_iload_n (i := 2) (N := fun L st S => V MJic h 5 L st S _) jd_ic_4 rfl (fun _ _ _ k => k) ?_
  show V MJic h 5 _ [vI (nI 0)] S _
  refine v_istore (i := 5) (N := fun L st S => V MJic h 7 L st S _) jd_ic_5 (by decide) (fun _ _ _ k => k) ?_
  simp only [o_is, st1, kl, List.getElem?_cons_zero, List.getElem?_cons_succ, List.set_cons_zero, List.set_cons_succ]
  refine ⟨Nat.le_of_ble_eq_true rfl, ?_⟩
  exact loop (tlen i) 0 (by omega)
theorem c_Jli (hi : i < 3) (hl0 : 0 < tlen i) (hc0 : c < 128) : Ct MJli (h + 1) [vR 1001 i, vI (nI c), vI (nI 0), vI (nI (tlen i))] S (fun r S' => r = some (vI (ixN i c (tlen i) 0)) ∧ S' = S) := by
  have hl := (tl_all i hi).1
  refine ct_of (by decide +kernel) (Nat.le_of_ble_eq_true rfl) ?_
  show V MJli (h + 1) 0 [some (vR 1001 i), some (vI (nI c)), some (vI (nI 0)), some (vI (nI (tlen i)))] [] S _
  refine v_iload_n (i := 1) (N := fun L st S => V MJli (h + 1) 1 L st S _) jd_li_0 rfl (fun _ _ _ k => k) ?_
  show V MJli (h + 1) 1 _ [vI (nI c)] S _
  refine v_callA (M' := MJce) (As := [vI (nI c)]) (st := []) jd_li_1 jw_ceL jw_ceS jw_i1 jw_ceC jn_ce (by decide) (Nat.le_of_ble_eq_true rfl) (c_Jce h S c hc0) ?_
  rintro r S' ⟨rfl, rfl⟩
  refine w_if_ne (tgt := 9) (nx := 7) jd_li_4 (by decide) rfl ⟨fun e => absurd e (by decide), fun _ => ?_⟩
  refine v_iload_n (i := 2) (N := fun L st S => V MJli (h + 1) 10 L st S _) jd_li_9 rfl (fun _ _ _ k => k) ?_
  show V MJli (h + 1) 10 _ [vI (nI 0)] _ _
  refine v_iconst (x := nI 0) (N := fun L st S => V MJli (h + 1) 11 L st S _) jd_li_10 (by decide) (fun _ _ _ k => k) ?_
  show V MJli (h + 1) 11 _ [vI (nI 0), vI (nI 0)] _ _
  refine v_max (N := fun L st S => V MJli (h + 1) 14 L st S _) jd_li_11 jw_mx (fun _ _ _ k => k) ⟨by decide, ?_⟩
  have e0 : (if nI 0 < nI 0 then nI 0 else nI 0) = nI 0 := by decide
  rw [e0]
  refine v_istore_n (i := 2) (N := fun L st S => V MJli (h + 1) 15 L st S _) jd_li_14 rfl (by decide) (fun _ _ _ k => k) ?_
  simp only [o_is, st1, kl, List.getElem?_cons_zero, List.getElem?_cons_succ, List.set_cons_zero, List.set_cons_succ]
  refine ⟨Nat.le_of_ble_eq_true rfl, ?_⟩
  refine v_iload_n (i := 3) (N := fun L st S => V MJli (h + 1) 16 L st S _) jd_li_15 rfl (fun _ _ _ k => k) ?_
  show V MJli (h + 1) 16 _ [vI (nI (tlen i))] _ _
  refine v_aload_n (i := 0) (N := fun L st S => V MJli (h + 1) 17 L st S _) jd_li_16 rfl (fun _ _ _ k => k) ?_
  show V MJli (h + 1) 17 _ [vR 1001 i, vI (nI (tlen i))] _ _
  refine v_alenT hi jd_li_17 ?_
  refine v_min (N := fun L st S => V MJli (h + 1) 21 L st S _) jd_li_18 jw_mn (fun _ _ _ k => k) ⟨by decide, ?_⟩
  have e1 : (if nI (tlen i) < nI (tlen i) then nI (tlen i) else nI (tlen i)) = nI (tlen i) := by split <;> rfl
  rw [e1]
  refine v_istore_n (i := 3) (N := fun L st S => V MJli (h + 1) 22 L st S _) jd_li_21 rfl (by decide) (fun _ _ _ k => k) ?_
  simp only [o_is, st1, kl, List.getElem?_cons_zero, List.getElem?_cons_succ, List.set_cons_zero, List.set_cons_succ]
  refine ⟨Nat.le_of_ble_eq_true rfl, ?_⟩
  refine v_iload_n (i := 2) (N := fun L st S => V MJli (h + 1) 23 L st S _) jd_li_22 rfl (fun _ _ _ k => k) ?_
  show V MJli (h + 1) 23 _ [vI (nI 0)] _ _
  refine v_iload_n (i := 3) (N := fun L st S => V MJli (h + 1) 24 L st S _) jd_li_23 rfl (fun _ _ _ k => k) ?_
  show V MJli (h + 1) 24 _ [vI (nI (tlen i)), vI (nI 0)] _ _
  refine w_icmp_lt (tgt := 29) (nx := 27) jd_li_24 (by decide) rfl ⟨fun _ => ?_, fun e => absurd (show nI 0 < nI (tlen i) by rw [n_ltE (by decide) (by omega)]; exact hl0) e⟩
  refine v_aload_n (i := 0) (N := fun L st S => V MJli (h + 1) 30 L st S _) jd_li_29 rfl (fun _ _ _ k => k) ?_
  show V MJli (h + 1) 30 _ [vR 1001 i] _ _
  refine v_iload_n (i := 1) (N := fun L st S => V MJli (h + 1) 31 L st S _) jd_li_30 rfl (fun _ _ _ k => k) ?_
  show V MJli (h + 1) 31 _ [vI (nI c), vR 1001 i] _ _
  refine v_iload_n (i := 2) (N := fun L st S => V MJli (h + 1) 32 L st S _) jd_li_31 rfl (fun _ _ _ k => k) ?_
  show V MJli (h + 1) 32 _ [vI (nI 0), vI (nI c), vR 1001 i] _ _
  refine v_iload_n (i := 3) (N := fun L st S => V MJli (h + 1) 33 L st S _) jd_li_32 rfl (fun _ _ _ k => k) ?_
  show V MJli (h + 1) 33 _ [vI (nI (tlen i)), vI (nI 0), vI (nI c), vR 1001 i] _ _
  refine v_callA (M' := MJic) (As := [vR 1001 i, vI (nI c), vI (nI 0), vI (nI (tlen i))]) (st := []) jd_li_33 jw_icL jw_icS jw_i1 jw_icC jn_ic (by decide) (Nat.le_of_ble_eq_true rfl) (c_Jic h _ i c hi hc0) ?_
  rintro r S' ⟨rfl, rfl⟩
  exact v_ireturn jd_li_36 rfl ⟨rfl, rfl⟩
theorem c_Ji2 (hi : i < 3) (hl0 : 0 < tlen i) (hc0 : c < 128) : Ct MJi2 (h + 2) [vR 1000 i, vI (nI c), vI (nI 0)] S (fun r S' => r = some (vI (ixN i c (tlen i) 0)) ∧ S' = S) := by
  refine ct_of (by decide +kernel) (Nat.le_of_ble_eq_true rfl) ?_
  show V MJi2 (h + 2) 0 [some (vR 1000 i), some (vI (nI c)), some (vI (nI 0))] [] S _
  refine v_aload_n (i := 0) (N := fun L st S => V MJi2 (h + 2) 1 L st S _) jd_i2_0 rfl (fun _ _ _ k => k) ?_
  show V MJi2 (h + 2) 1 _ [vR 1000 i] S _
  refine v_callT (M' := MJl1) (As := []) (st := []) jd_i2_1 jw_l1L jw_l1I jw_l1S jw_l1C rfl jn_l1 (by decide) (Nat.le_of_ble_eq_true rfl) hi (c_Jl1 (h + 1) S i hi) ?_
  rintro r S' ⟨rfl, rfl⟩
  refine w_if_eq (tgt := 23) (nx := 7) jd_i2_4 (by decide) rfl ⟨fun e => absurd e (by decide), fun _ => ?_⟩
  refine v_aload_n (i := 0) (N := fun L st S => V MJi2 (h + 2) 8 L st S _) jd_i2_7 rfl (fun _ _ _ k => k) ?_
  show V MJi2 (h + 2) 8 _ [vR 1000 i] _ _
  refine v_getV rfl hi jd_i2_8 ?_
  refine v_iload_n (i := 1) (N := fun L st S => V MJi2 (h + 2) 12 L st S _) jd_i2_11 rfl (fun _ _ _ k => k) ?_
  show V MJi2 (h + 2) 12 _ [vI (nI c), vR 1001 i] _ _
  refine v_iload_n (i := 2) (N := fun L st S => V MJi2 (h + 2) 13 L st S _) jd_i2_12 rfl (fun _ _ _ k => k) ?_
  show V MJi2 (h + 2) 13 _ [vI (nI 0), vI (nI c), vR 1001 i] _ _
  refine v_aload_n (i := 0) (N := fun L st S => V MJi2 (h + 2) 14 L st S _) jd_i2_13 rfl (fun _ _ _ k => k) ?_
  show V MJi2 (h + 2) 14 _ [vR 1000 i, vI (nI 0), vI (nI c), vR 1001 i] _ _
  refine v_callT (M' := MJln) (As := []) (st := [vI (nI 0), vI (nI c), vR 1001 i]) jd_i2_14 jw_lnL jw_lnI jw_lnS jw_lnC rfl jn_ln (by decide) (Nat.le_of_ble_eq_true rfl) hi (c_Jln h _ i hi) ?_
  rintro r S' ⟨rfl, rfl⟩
  refine v_callA (M' := MJli) (As := [vR 1001 i, vI (nI c), vI (nI 0), vI (nI (tlen i))]) (st := []) jd_i2_17 jw_liL jw_liS jw_i1 jw_liC jn_li (by decide) (Nat.le_of_ble_eq_true rfl) (c_Jli h _ i c hi hl0 hc0) ?_
  rintro r S' ⟨rfl, rfl⟩
  refine v_goto (tgt := 36) jd_i2_20 (by decide) ?_
  exact v_ireturn jd_i2_36 rfl ⟨rfl, rfl⟩
theorem c_Ji1 (hi : i < 3) (hl0 : 0 < tlen i) (hc0 : c < 128) : Ct MJi1 (h + 3) [vR 1000 i, vI (nI c)] S (fun r S' => r = some (vI (ixN i c (tlen i) 0)) ∧ S' = S) := by
  refine ct_of (by decide +kernel) (Nat.le_of_ble_eq_true rfl) ?_
  show V MJi1 (h + 3) 0 [some (vR 1000 i), some (vI (nI c))] [] S _
  refine v_aload_n (i := 0) (N := fun L st S => V MJi1 (h + 3) 1 L st S _) jd_i1_0 rfl (fun _ _ _ k => k) ?_
  show V MJi1 (h + 3) 1 _ [vR 1000 i] S _
  refine v_iload_n (i := 1) (N := fun L st S => V MJi1 (h + 3) 2 L st S _) jd_i1_1 rfl (fun _ _ _ k => k) ?_
  show V MJi1 (h + 3) 2 _ [vI (nI c), vR 1000 i] S _
  refine v_iconst (x := nI 0) (N := fun L st S => V MJi1 (h + 3) 3 L st S _) jd_i1_2 (by decide) (fun _ _ _ k => k) ?_
  show V MJi1 (h + 3) 3 _ [vI (nI 0), vI (nI c), vR 1000 i] S _
  refine v_callT (M' := MJi2) (As := [vI (nI c), vI (nI 0)]) (st := []) jd_i1_3 jw_i2L jw_i2I jw_i2S jw_i2C rfl jn_i2 (by decide) (Nat.le_of_ble_eq_true rfl) hi (c_Ji2 h S i c hi hl0 hc0) ?_
  rintro r S' ⟨rfl, rfl⟩
  exact v_ireturn jd_i1_6 rfl ⟨rfl, rfl⟩
end
