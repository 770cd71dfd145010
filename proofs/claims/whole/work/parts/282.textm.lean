-- deps: 281
-- texts: the methods
theorem v_nret {M : MD} {h pc : Nat} {L : LVs} {S : ST} {Q : Option AV → ST → Prop} {x : Int32} {ty : FieldType} (d : decode M.2.1 pc = .ok (.ireturn, 1)) (hr : M.2.2.2 = some ty) (hx : narrow ty (.int x) = .int x) (k : Q (some (vI x)) S) : V M h pc L [vI x] S Q := by
  intro p l e R s m args below meth cc D ad cA G H locs ls hR hS hL
  exact W.zret (hlocks := G.2.2.2.2.2.2.2.1) G.1 G.2.1 (G.2.2.1.trans hr) hx (fun t ht hw => ⟨some (vI x), S, rfl, k, by rw [ht]; exact hR, hS.F ht⟩) hS.2.2 d
theorem tl_all : ∀ i, i < 3 → tlen i < 200 ∧ (bytL.getD i []).length = tlen i ∧ ∀ b ∈ bytL.getD i [], b &&& 255 = b ∧ b.toInt8.toInt32 = b ∧ (∃ n, n < 128 ∧ b = nI n) := by
  have h1 : ∀ i, i < 3 → tlen i < 200 ∧ (bytL.getD i []).length = tlen i ∧ ∀ b ∈ bytL.getD i [], b &&& 255 = b ∧ b.toInt8.toInt32 = b ∧ (b.toNatClampNeg < 128 ∧ b = nI b.toNatClampNeg) := by decide +kernel
  intro i hi
  obtain ⟨a, b, c⟩ := h1 i hi
  exact ⟨a, b, fun x hx => ⟨(c x hx).1, (c x hx).2.1, _, (c x hx).2.2.1, (c x hx).2.2.2⟩⟩
theorem tby_ok {i k : Nat} (hi : i < 3) (hk : k < tlen i) : tby i k &&& 255 = tby i k ∧ (tby i k).toInt8.toInt32 = tby i k ∧ ∃ n, n < 128 ∧ tby i k = nI n := by
  obtain ⟨_, h2, h3⟩ := tl_all i hi
  have hl : k < (bytL.getD i []).length := by omega
  have : tby i k ∈ bytL.getD i [] := by
    unfold tby
    generalize bytL.getD i [] = l at hl
    have e : l.getD k 0 = l[k] := by simp [List.getD, hl]
    rw [e]
    exact List.getElem_mem hl
  exact h3 _ this
section
variable (h : Nat) (S : ST) (i : Nat)
theorem c_Jcd (hi : i < 3) : Ct MJcd h [vR 1000 i] S (fun r S' => r = some (vI (nI 0)) ∧ S' = S) := by
  refine ct_of (by decide +kernel) (Nat.le_of_ble_eq_true rfl) ?_
  show V MJcd h 0 [some (vR 1000 i)] [] S _
  refine v_getK rfl jd_cd_0 ?_
  refine w_if_eq (tgt := 13) (nx := 6) jd_cd_3 (by decide) rfl ⟨fun e => absurd e (by decide), fun _ => ?_⟩
  refine v_aload_n (i := 0) (N := fun L st S => V MJcd h 7 L st S _) jd_cd_6 rfl (fun _ _ _ k => k) ?_
  show V MJcd h 7 [some (vR 1000 i)] [vR 1000 i] S _
  refine v_getC rfl hi jd_cd_7 ?_
  refine v_goto (tgt := 14) jd_cd_10 (by decide) ?_
  exact v_nret jd_cd_14 rfl (by decide) ⟨rfl, rfl⟩
theorem c_Jl1 (hi : i < 3) : Ct MJl1 h [vR 1000 i] S (fun r S' => r = some (vI (nI 1)) ∧ S' = S) := by
  refine ct_of (by decide +kernel) (Nat.le_of_ble_eq_true rfl) ?_
  show V MJl1 h 0 [some (vR 1000 i)] [] S _
  refine v_getK rfl jd_l1_0 ?_
  refine w_if_eq (tgt := 17) (nx := 6) jd_l1_3 (by decide) rfl ⟨fun e => absurd e (by decide), fun _ => ?_⟩
  refine v_aload_n (i := 0) (N := fun L st S => V MJl1 h 7 L st S _) jd_l1_6 rfl (fun _ _ _ k => k) ?_
  show V MJl1 h 7 [some (vR 1000 i)] [vR 1000 i] S _
  refine v_getC rfl hi jd_l1_7 ?_
  refine w_if_ne (tgt := 17) (nx := 13) jd_l1_10 (by decide) rfl ⟨fun _ => ?_, fun e => absurd rfl e⟩
  refine v_iconst (x := nI 1) (N := fun L st S => V MJl1 h 14 L st S _) jd_l1_13 (by decide) (fun _ _ _ k => k) ?_
  show V MJl1 h 14 [some (vR 1000 i)] [vI (nI 1)] S _
  refine v_goto (tgt := 18) jd_l1_14 (by decide) ?_
  exact v_zreturn jd_l1_18 rfl (Or.inr rfl) ⟨rfl, rfl⟩
theorem c_Jln (hi : i < 3) : Ct MJln (h + 1) [vR 1000 i] S (fun r S' => r = some (vI (nI (tlen i))) ∧ S' = S) := by
  have hl := (tl_all i hi).1
  refine ct_of (by decide +kernel) (Nat.le_of_ble_eq_true rfl) ?_
  show V MJln (h + 1) 0 [some (vR 1000 i)] [] S _
  refine v_aload_n (i := 0) (N := fun L st S => V MJln (h + 1) 1 L st S _) jd_ln_0 rfl (fun _ _ _ k => k) ?_
  show V MJln (h + 1) 1 [some (vR 1000 i)] [vR 1000 i] S _
  refine v_getV rfl hi jd_ln_1 ?_
  refine v_alenT hi jd_ln_4 ?_
  refine v_aload_n (i := 0) (N := fun L st S => V MJln (h + 1) 6 L st S _) jd_ln_5 rfl (fun _ _ _ k => k) ?_
  show V MJln (h + 1) 6 [some (vR 1000 i)] [vR 1000 i, vI (nI (tlen i))] S _
  refine v_callT (M' := MJcd) (As := []) jd_ln_6 jw_cdL jw_cdI jw_cdS jw_cdC rfl (by decide +kernel) (by decide) (Nat.le_of_ble_eq_true rfl) hi (c_Jcd h S i hi) ?_
  rintro r S' ⟨rfl, rfl⟩
  refine v_ishr jd_ln_9 ?_
  have e : nI (tlen i) >>> (nI 0 &&& 31) = nI (tlen i) := sc_shr0 (by omega)
  rw [e]
  exact v_ireturn jd_ln_10 rfl ⟨rfl, rfl⟩
theorem c_Jpc (a b : Nat) (hab : a < b) (hb : b < 2 ^ 31) : V MJpc h 0 [some (vI (nI a)), some (vI (nI b)), none] [] S (fun r S' => r = some (vI (nI a)) ∧ S' = S) := by
  refine v_iload_n (i := 0) (N := fun L st S => V MJpc h 1 L st S _) jd_pc_0 rfl (fun _ _ _ k => k) ?_
  show V MJpc h 1 _ [vI (nI a)] S _
  refine w_if_lt (tgt := 9) (nx := 4) jd_pc_1 (by decide) rfl ⟨fun e => absurd e (nI_nlt (by omega) (by omega)), fun _ => ?_⟩
  refine v_iload_n (i := 0) (N := fun L st S => V MJpc h 5 L st S _) jd_pc_4 rfl (fun _ _ _ k => k) ?_
  show V MJpc h 5 _ [vI (nI a)] S _
  refine v_iload_n (i := 1) (N := fun L st S => V MJpc h 6 L st S _) jd_pc_5 rfl (fun _ _ _ k => k) ?_
  show V MJpc h 6 _ [vI (nI b), vI (nI a)] S _
  refine w_icmp_lt (tgt := 16) (nx := 9) jd_pc_6 (by decide) rfl ⟨fun _ => ?_, fun e => absurd (show nI a < nI b by rw [n_ltE (by omega) hb]; exact hab) e⟩
  refine v_iload_n (i := 0) (N := fun L st S => V MJpc h 17 L st S _) jd_pc_16 rfl (fun _ _ _ k => k) ?_
  show V MJpc h 17 _ [vI (nI a)] S _
  exact v_ireturn jd_pc_17 rfl ⟨rfl, rfl⟩
end
