-- QueryForge.unit(I)Z
theorem dX10_unit_0 : decode cX10_unit 0 = .ok (.iload_n 1, 1) := by decide +kernel
theorem dX10_unit_1 : decode cX10_unit 1 = .ok (.bipush 32, 2) := by decide +kernel
theorem dX10_unit_3 : decode cX10_unit 3 = .ok (.if_icmp .lt 19, 3) := by decide +kernel
theorem dX10_unit_6 : decode cX10_unit 6 = .ok (.iload_n 1, 1) := by decide +kernel
theorem dX10_unit_7 : decode cX10_unit 7 = .ok (.bipush 126, 2) := by decide +kernel
theorem dX10_unit_9 : decode cX10_unit 9 = .ok (.if_icmp .gt 13, 3) := by decide +kernel
theorem dX10_unit_12 : decode cX10_unit 12 = .ok (.aload_n 0, 1) := by decide +kernel
theorem dX10_unit_13 : decode cX10_unit 13 = .ok (.getfield 13, 3) := by decide +kernel
theorem dX10_unit_16 : decode cX10_unit 16 = .ok (.sipush 200, 3) := by decide +kernel
theorem dX10_unit_19 : decode cX10_unit 19 = .ok (.if_icmp .lt 5, 3) := by decide +kernel
theorem dX10_unit_22 : decode cX10_unit 22 = .ok (.iconst 0, 1) := by decide +kernel
theorem dX10_unit_23 : decode cX10_unit 23 = .ok (.ireturn, 1) := by decide +kernel
theorem dX10_unit_24 : decode cX10_unit 24 = .ok (.aload_n 0, 1) := by decide +kernel
theorem dX10_unit_25 : decode cX10_unit 25 = .ok (.getfield 9, 3) := by decide +kernel
theorem dX10_unit_28 : decode cX10_unit 28 = .ok (.aload_n 0, 1) := by decide +kernel
theorem dX10_unit_29 : decode cX10_unit 29 = .ok (.getfield 13, 3) := by decide +kernel
theorem dX10_unit_32 : decode cX10_unit 32 = .ok (.iload_n 1, 1) := by decide +kernel
theorem dX10_unit_33 : decode cX10_unit 33 = .ok (.i2c, 1) := by decide +kernel
theorem dX10_unit_34 : decode cX10_unit 34 = .ok (.castore, 1) := by decide +kernel
theorem dX10_unit_35 : decode cX10_unit 35 = .ok (.aload_n 0, 1) := by decide +kernel
theorem dX10_unit_36 : decode cX10_unit 36 = .ok (.dup, 1) := by decide +kernel
theorem dX10_unit_37 : decode cX10_unit 37 = .ok (.getfield 13, 3) := by decide +kernel
theorem dX10_unit_40 : decode cX10_unit 40 = .ok (.iconst 1, 1) := by decide +kernel
theorem dX10_unit_41 : decode cX10_unit 41 = .ok (.iadd, 1) := by decide +kernel
theorem dX10_unit_42 : decode cX10_unit 42 = .ok (.putfield 13, 3) := by decide +kernel
theorem dX10_unit_45 : decode cX10_unit 45 = .ok (.iconst 1, 1) := by decide +kernel
theorem dX10_unit_46 : decode cX10_unit 46 = .ok (.ireturn, 1) := by decide +kernel
theorem b_X10_unit_0 {h : Nat} {L : LVs} {st : List AV} {S : ST} {Q : Option AV → ST → Prop} (k : o_il L st S (fun L st S => o_c L st S (fun L st S => t_2 L st S (fun x y => x < y) (fun L st S => V MX10_unit h 22 L st S Q) (fun L st S => V MX10_unit h 6 L st S Q)) (nI 32)) 1) : V MX10_unit h 0 L st S Q :=
  v_iload_n dX10_unit_0 rfl (fun L st S k => v_bipush dX10_unit_1 (by decide) (fun L st S k => w_icmp_lt dX10_unit_3 (by decide) rfl k) k) k
theorem b_X10_unit_6 {h : Nat} {L : LVs} {st : List AV} {S : ST} {Q : Option AV → ST → Prop} (k : o_il L st S (fun L st S => o_c L st S (fun L st S => t_2 L st S (fun x y => y < x) (fun L st S => V MX10_unit h 22 L st S Q) (fun L st S => V MX10_unit h 12 L st S Q)) (nI 126)) 1) : V MX10_unit h 6 L st S Q :=
  v_iload_n dX10_unit_6 rfl (fun L st S k => v_bipush dX10_unit_7 (by decide) (fun L st S k => w_icmp_gt dX10_unit_9 (by decide) rfl k) k) k
theorem b_X10_unit_12 {h : Nat} {L : LVs} {st : List AV} {S : ST} {Q : Option AV → ST → Prop} (k : o_al L st S (fun L st S => o_get L st S (fun L st S => o_c L st S (fun L st S => t_2 L st S (fun x y => x < y) (fun L st S => V MX10_unit h 24 L st S Q) (fun L st S => V MX10_unit h 22 L st S Q)) (nI 200)) 10 1 (0, 0, 0)) 0) : V MX10_unit h 12 L st S Q :=
  v_aload_n dX10_unit_12 rfl (fun L st S k => v_get dX10_unit_13 rfl iX10 LY_10 rfl (by decide) rfl fl_X10_13 (fun L st S k => v_sipush dX10_unit_16 (by decide) (fun L st S k => w_icmp_lt dX10_unit_19 (by decide) rfl k) k) k) k
theorem b_X10_unit_22 {h : Nat} {L : LVs} {st : List AV} {S : ST} {Q : Option AV → ST → Prop} (k : o_c L st S (fun L st S => t_zr st S Q) (nI 0)) : V MX10_unit h 22 L st S Q :=
  v_iconst dX10_unit_22 (by decide) (fun L st S k => w_zr dX10_unit_23 rfl k) k
theorem b_X10_unit_24 {h : Nat} {L : LVs} {st : List AV} {S : ST} {Q : Option AV → ST → Prop} (k : o_al L st S (fun L st S => o_get L st S (fun L st S => o_al L st S (fun L st S => o_get L st S (fun L st S => o_il L st S (fun L st S => o_i2c L st S (fun L st S => o_cast L st S (fun L st S => o_al L st S (fun L st S => o_dup L st S (fun L st S => o_get L st S (fun L st S => o_c L st S (fun L st S => o_iadd L st S (fun L st S => o_puti L st S (fun L st S => o_c L st S (fun L st S => t_zr st S Q) (nI 1)) 10 1)) (nI 1)) 10 1 (0, 0, 0))) 0))) 1) 10 1 (0, 0, 0)) 0) 10 0 (3, 39, 0)) 0) : V MX10_unit h 24 L st S Q :=
  v_aload_n dX10_unit_24 rfl (fun L st S k => v_get dX10_unit_25 rfl iX10 LY_10 rfl (by decide) rfl fl_X10_9 (fun L st S k => v_aload_n dX10_unit_28 rfl (fun L st S k => v_get dX10_unit_29 rfl iX10 LY_10 rfl (by decide) rfl fl_X10_13 (fun L st S k => v_iload_n dX10_unit_32 rfl (fun L st S k => v_i2c dX10_unit_33 (fun L st S k => v_castore dX10_unit_34 (fun L st S k => v_aload_n dX10_unit_35 rfl (fun L st S k => v_dup dX10_unit_36 (fun L st S k => v_get dX10_unit_37 rfl iX10 LY_10 rfl (by decide) rfl fl_X10_13 (fun L st S k => v_iconst dX10_unit_40 (by decide) (fun L st S k => v_iadd dX10_unit_41 (fun L st S k => v_puti dX10_unit_42 rfl iX10 tyX10_ok nmX10 LY_10 rfl (by decide) rfl fl_X10_13 rfl rfl (fun L st S k => v_iconst dX10_unit_45 (by decide) (fun L st S k => w_zr dX10_unit_46 rfl k) k) k) k) k) k) k) k) k) k) k) k) k) k) k
-- QueryForge.act()I
theorem dX10_act_0 : decode cX10_act 0 = .ok (.aload_n 0, 1) := by decide +kernel
theorem dX10_act_1 : decode cX10_act 1 = .ok (.getfield 20, 3) := by decide +kernel
theorem dX10_act_4 : decode cX10_act 4 = .ok (.aload_n 0, 1) := by decide +kernel
theorem dX10_act_5 : decode cX10_act 5 = .ok (.getfield 9, 3) := by decide +kernel
theorem dX10_act_8 : decode cX10_act 8 = .ok (.aload_n 0, 1) := by decide +kernel
theorem dX10_act_9 : decode cX10_act 9 = .ok (.getfield 13, 3) := by decide +kernel
theorem dX10_act_12 : decode cX10_act 12 = .ok (.invokevirtual 73, 3) := by decide +kernel
theorem dX10_act_15 : decode cX10_act 15 = .ok (.aload_n 0, 1) := by decide +kernel
theorem dX10_act_16 : decode cX10_act 16 = .ok (.iconst 0, 1) := by decide +kernel
theorem dX10_act_17 : decode cX10_act 17 = .ok (.putfield 13, 3) := by decide +kernel
theorem dX10_act_20 : decode cX10_act 20 = .ok (.aload_n 0, 1) := by decide +kernel
theorem dX10_act_21 : decode cX10_act 21 = .ok (.getfield 42, 3) := by decide +kernel
theorem dX10_act_24 : decode cX10_act 24 = .ok (.invokevirtual 77, 3) := by decide +kernel
theorem dX10_act_27 : decode cX10_act 27 = .ok (.istore_n 1, 1) := by decide +kernel
theorem dX10_act_28 : decode cX10_act 28 = .ok (.iload_n 1, 1) := by decide +kernel
theorem dX10_act_29 : decode cX10_act 29 = .ok (.ifCond .ne 11, 3) := by decide +kernel
theorem dX10_act_32 : decode cX10_act 32 = .ok (.aload_n 0, 1) := by decide +kernel
theorem dX10_act_33 : decode cX10_act 33 = .ok (.getfield 51, 3) := by decide +kernel
theorem dX10_act_36 : decode cX10_act 36 = .ok (.invokevirtual 81, 3) := by decide +kernel
theorem dX10_act_39 : decode cX10_act 39 = .ok (.istore_n 1, 1) := by decide +kernel
theorem dX10_act_40 : decode cX10_act 40 = .ok (.iload_n 1, 1) := by decide +kernel
theorem dX10_act_41 : decode cX10_act 41 = .ok (.ifCond .eq 5, 3) := by decide +kernel
theorem dX10_act_44 : decode cX10_act 44 = .ok (.iload_n 1, 1) := by decide +kernel
theorem dX10_act_45 : decode cX10_act 45 = .ok (.ireturn, 1) := by decide +kernel
theorem dX10_act_46 : decode cX10_act 46 = .ok (.aload_n 0, 1) := by decide +kernel
theorem dX10_act_47 : decode cX10_act 47 = .ok (.getfield 60, 3) := by decide +kernel
theorem dX10_act_50 : decode cX10_act 50 = .ok (.invokevirtual 84, 3) := by decide +kernel
theorem dX10_act_53 : decode cX10_act 53 = .ok (.aload_n 0, 1) := by decide +kernel
theorem dX10_act_54 : decode cX10_act 54 = .ok (.getfield 69, 3) := by decide +kernel
theorem dX10_act_57 : decode cX10_act 57 = .ok (.aload_n 0, 1) := by decide +kernel
theorem dX10_act_58 : decode cX10_act 58 = .ok (.getfield 20, 3) := by decide +kernel
theorem dX10_act_61 : decode cX10_act 61 = .ok (.invokevirtual 87, 3) := by decide +kernel
theorem dX10_act_64 : decode cX10_act 64 = .ok (.invokevirtual 90, 3) := by decide +kernel
theorem dX10_act_67 : decode cX10_act 67 = .ok (.ireturn, 1) := by decide +kernel
theorem b_X10_act_0 {h : Nat} {L : LVs} {st : List AV} {S : ST} {Q : Option AV → ST → Prop} (k : o_al L st S (fun L st S => o_get L st S (fun L st S => o_al L st S (fun L st S => o_get L st S (fun L st S => o_al L st S (fun L st S => o_get L st S (fun L st S => V MX10_act h 12 L st S Q) 10 1 (0, 0, 0)) 0) 10 0 (3, 39, 0)) 0) 10 2 (4, 9, 0)) 0) : V MX10_act h 0 L st S Q :=
  v_aload_n dX10_act_0 rfl (fun L st S k => v_get dX10_act_1 rfl iX10 LY_10 rfl (by decide) rfl fl_X10_20 (fun L st S k => v_aload_n dX10_act_4 rfl (fun L st S k => v_get dX10_act_5 rfl iX10 LY_10 rfl (by decide) rfl fl_X10_9 (fun L st S k => v_aload_n dX10_act_8 rfl (fun L st S k => v_get dX10_act_9 rfl iX10 LY_10 rfl (by decide) rfl fl_X10_13 (fun L st S k => k) k) k) k) k) k) k
theorem k_X10_act_12 {h : Nat} {L : LVs} {st : List AV} {S : ST} {Q Q' : Option AV → ST → Prop} {j : Nat} {a0 a1 : AV} (hC : Ct MX9_split h [vR 9 j, a0, a1] S Q') (k : ∀ (r : Option AV) (S' : ST), Q' r S' → V MX10_act (h + 1) 15 L (r.toList ++ st) S' Q) (hj : j < NI 9) (hw : wid st ≤ 8) : V MX10_act (h + 1) 12 L (a1 :: a0 :: vR 9 j :: st) S Q :=
  v_callV (M' := MX9_split) (c := 9) (As := [a0, a1]) dX10_act_12 ml_X10_73 im_X9_split se_X9_split in_X9 cd_X9_split rfl LY_9 np_X9_split (by decide) hw hj hC k
theorem b_X10_act_15 {h : Nat} {L : LVs} {st : List AV} {S : ST} {Q : Option AV → ST → Prop} (k : o_al L st S (fun L st S => o_c L st S (fun L st S => o_puti L st S (fun L st S => o_al L st S (fun L st S => o_get L st S (fun L st S => V MX10_act h 24 L st S Q) 10 4 (4, 4, 0)) 0) 10 1) (nI 0)) 0) : V MX10_act h 15 L st S Q :=
  v_aload_n dX10_act_15 rfl (fun L st S k => v_iconst dX10_act_16 (by decide) (fun L st S k => v_puti dX10_act_17 rfl iX10 tyX10_ok nmX10 LY_10 rfl (by decide) rfl fl_X10_13 rfl rfl (fun L st S k => v_aload_n dX10_act_20 rfl (fun L st S k => v_get dX10_act_21 rfl iX10 LY_10 rfl (by decide) rfl fl_X10_42 (fun L st S k => k) k) k) k) k) k
theorem k_X10_act_24 {h : Nat} {L : LVs} {st : List AV} {S : ST} {Q Q' : Option AV → ST → Prop} {j : Nat} (hC : Ct MX4_read h [vR 4 j] S Q') (k : ∀ (r : Option AV) (S' : ST), Q' r S' → V MX10_act (h + 1) 27 L (r.toList ++ st) S' Q) (hj : j < NI 4) (hw : wid st ≤ 8) : V MX10_act (h + 1) 24 L (vR 4 j :: st) S Q :=
  v_callV (M' := MX4_read) (c := 4) (As := []) dX10_act_24 ml_X10_77 im_X4_read se_X4_read in_X4 cd_X4_read rfl LY_4 np_X4_read (by decide) hw hj hC k
theorem b_X10_act_27 {h : Nat} {L : LVs} {st : List AV} {S : ST} {Q : Option AV → ST → Prop} (k : o_is L st S (fun L st S => o_il L st S (fun L st S => t_1 L st S (fun x => x = nI 0) (fun L st S => V MX10_act h 32 L st S Q) (fun L st S => V MX10_act h 40 L st S Q)) 1) 1) : V MX10_act h 27 L st S Q :=
  v_istore_n dX10_act_27 rfl (by decide) (fun L st S k => v_iload_n dX10_act_28 rfl (fun L st S k => w_if_ne dX10_act_29 (by decide) rfl k) k) k
theorem b_X10_act_32 {h : Nat} {L : LVs} {st : List AV} {S : ST} {Q : Option AV → ST → Prop} (k : o_al L st S (fun L st S => o_get L st S (fun L st S => V MX10_act h 36 L st S Q) 10 5 (4, 0, 0)) 0) : V MX10_act h 32 L st S Q :=
  v_aload_n dX10_act_32 rfl (fun L st S k => v_get dX10_act_33 rfl iX10 LY_10 rfl (by decide) rfl fl_X10_51 (fun L st S k => k) k) k
theorem k_X10_act_36 {h : Nat} {L : LVs} {st : List AV} {S : ST} {Q Q' : Option AV → ST → Prop} {j : Nat} (hC : Ct MX0_check h [vR 0 j] S Q') (k : ∀ (r : Option AV) (S' : ST), Q' r S' → V MX10_act (h + 1) 39 L (r.toList ++ st) S' Q) (hj : j < NI 0) (hw : wid st ≤ 8) : V MX10_act (h + 1) 36 L (vR 0 j :: st) S Q :=
  v_callV (M' := MX0_check) (c := 0) (As := []) dX10_act_36 ml_X10_81 im_X0_check se_X0_check in_X0 cd_X0_check rfl LY_0 np_X0_check (by decide) hw hj hC k
theorem b_X10_act_39 {h : Nat} {L : LVs} {st : List AV} {S : ST} {Q : Option AV → ST → Prop} (k : o_is L st S (fun L st S => V MX10_act h 40 L st S Q) 1) : V MX10_act h 39 L st S Q :=
  v_istore_n dX10_act_39 rfl (by decide) (fun L st S k => k) k
theorem b_X10_act_40 {h : Nat} {L : LVs} {st : List AV} {S : ST} {Q : Option AV → ST → Prop} (k : o_il L st S (fun L st S => t_1 L st S (fun x => x = nI 0) (fun L st S => V MX10_act h 46 L st S Q) (fun L st S => V MX10_act h 44 L st S Q)) 1) : V MX10_act h 40 L st S Q :=
  v_iload_n dX10_act_40 rfl (fun L st S k => w_if_eq dX10_act_41 (by decide) rfl k) k
theorem b_X10_act_44 {h : Nat} {L : LVs} {st : List AV} {S : ST} {Q : Option AV → ST → Prop} (k : o_il L st S (fun L st S => t_ir st S Q) 1) : V MX10_act h 44 L st S Q :=
  v_iload_n dX10_act_44 rfl (fun L st S k => w_ir dX10_act_45 rfl k) k
theorem b_X10_act_46 {h : Nat} {L : LVs} {st : List AV} {S : ST} {Q : Option AV → ST → Prop} (k : o_al L st S (fun L st S => o_get L st S (fun L st S => V MX10_act h 50 L st S Q) 10 6 (4, 3, 0)) 0) : V MX10_act h 46 L st S Q :=
  v_aload_n dX10_act_46 rfl (fun L st S k => v_get dX10_act_47 rfl iX10 LY_10 rfl (by decide) rfl fl_X10_60 (fun L st S k => k) k) k
theorem k_X10_act_50 {h : Nat} {L : LVs} {st : List AV} {S : ST} {Q Q' : Option AV → ST → Prop} {j : Nat} (hC : Ct MX3_make h [vR 3 j] S Q') (k : ∀ (r : Option AV) (S' : ST), Q' r S' → V MX10_act (h + 1) 53 L (r.toList ++ st) S' Q) (hj : j < NI 3) (hw : wid st ≤ 8) : V MX10_act (h + 1) 50 L (vR 3 j :: st) S Q :=
  v_callV (M' := MX3_make) (c := 3) (As := []) dX10_act_50 ml_X10_84 im_X3_make se_X3_make in_X3 cd_X3_make rfl LY_3 np_X3_make (by decide) hw hj hC k
theorem b_X10_act_53 {h : Nat} {L : LVs} {st : List AV} {S : ST} {Q : Option AV → ST → Prop} (k : o_al L st S (fun L st S => o_get L st S (fun L st S => o_al L st S (fun L st S => o_get L st S (fun L st S => V MX10_act h 61 L st S Q) 10 2 (4, 9, 0)) 0) 10 7 (4, 2, 0)) 0) : V MX10_act h 53 L st S Q :=
  v_aload_n dX10_act_53 rfl (fun L st S k => v_get dX10_act_54 rfl iX10 LY_10 rfl (by decide) rfl fl_X10_69 (fun L st S k => v_aload_n dX10_act_57 rfl (fun L st S k => v_get dX10_act_58 rfl iX10 LY_10 rfl (by decide) rfl fl_X10_20 (fun L st S k => k) k) k) k) k
theorem k_X10_act_61 {h : Nat} {L : LVs} {st : List AV} {S : ST} {Q Q' : Option AV → ST → Prop} {j : Nat} (hC : Ct MX9_wordCount h [vR 9 j] S Q') (k : ∀ (r : Option AV) (S' : ST), Q' r S' → V MX10_act (h + 1) 64 L (r.toList ++ st) S' Q) (hj : j < NI 9) (hw : wid st ≤ 8) : V MX10_act (h + 1) 61 L (vR 9 j :: st) S Q :=
  v_callV (M' := MX9_wordCount) (c := 9) (As := []) dX10_act_61 ml_X10_87 im_X9_wordCount se_X9_wordCount in_X9 cd_X9_wordCount rfl LY_9 np_X9_wordCount (by decide) hw hj hC k
theorem k_X10_act_64 {h : Nat} {L : LVs} {st : List AV} {S : ST} {Q Q' : Option AV → ST → Prop} {j : Nat} {a0 : AV} (hC : Ct MX2_run h [vR 2 j, a0] S Q') (k : ∀ (r : Option AV) (S' : ST), Q' r S' → V MX10_act (h + 1) 67 L (r.toList ++ st) S' Q) (hj : j < NI 2) (hw : wid st ≤ 8) : V MX10_act (h + 1) 64 L (a0 :: vR 2 j :: st) S Q :=
  v_callV (M' := MX2_run) (c := 2) (As := [a0]) dX10_act_64 ml_X10_90 im_X2_run se_X2_run in_X2 cd_X2_run rfl LY_2 np_X2_run (by decide) hw hj hC k
theorem b_X10_act_67 {h : Nat} {L : LVs} {st : List AV} {S : ST} {Q : Option AV → ST → Prop} (k : t_ir st S Q) : V MX10_act h 67 L st S Q :=
  w_ir dX10_act_67 rfl k
-- QueryForge.rows()I
theorem dX10_rows_0 : decode cX10_rows 0 = .ok (.aload_n 0, 1) := by decide +kernel
theorem dX10_rows_1 : decode cX10_rows 1 = .ok (.getfield 69, 3) := by decide +kernel
theorem dX10_rows_4 : decode cX10_rows 4 = .ok (.invokevirtual 94, 3) := by decide +kernel
theorem dX10_rows_7 : decode cX10_rows 7 = .ok (.invokevirtual 98, 3) := by decide +kernel
theorem dX10_rows_10 : decode cX10_rows 10 = .ok (.ireturn, 1) := by decide +kernel
theorem b_X10_rows_0 {h : Nat} {L : LVs} {st : List AV} {S : ST} {Q : Option AV → ST → Prop} (k : o_al L st S (fun L st S => o_get L st S (fun L st S => V MX10_rows h 4 L st S Q) 10 7 (4, 2, 0)) 0) : V MX10_rows h 0 L st S Q :=
  v_aload_n dX10_rows_0 rfl (fun L st S k => v_get dX10_rows_1 rfl iX10 LY_10 rfl (by decide) rfl fl_X10_69 (fun L st S k => k) k) k
theorem k_X10_rows_4 {h : Nat} {L : LVs} {st : List AV} {S : ST} {Q Q' : Option AV → ST → Prop} {j : Nat} (hC : Ct MX2_result h [vR 2 j] S Q') (k : ∀ (r : Option AV) (S' : ST), Q' r S' → V MX10_rows (h + 1) 7 L (r.toList ++ st) S' Q) (hj : j < NI 2) (hw : wid st ≤ 8) : V MX10_rows (h + 1) 4 L (vR 2 j :: st) S Q :=
  v_callV (M' := MX2_result) (c := 2) (As := []) dX10_rows_4 ml_X10_94 im_X2_result se_X2_result in_X2 cd_X2_result rfl LY_2 np_X2_result (by decide) hw hj hC k
theorem k_X10_rows_7 {h : Nat} {L : LVs} {st : List AV} {S : ST} {Q Q' : Option AV → ST → Prop} {j : Nat} (hC : Ct MX5_rowCount h [vR 5 j] S Q') (k : ∀ (r : Option AV) (S' : ST), Q' r S' → V MX10_rows (h + 1) 10 L (r.toList ++ st) S' Q) (hj : j < NI 5) (hw : wid st ≤ 8) : V MX10_rows (h + 1) 7 L (vR 5 j :: st) S Q :=
  v_callV (M' := MX5_rowCount) (c := 5) (As := []) dX10_rows_7 ml_X10_98 im_X5_rowCount se_X5_rowCount in_X5 cd_X5_rowCount rfl LY_5 np_X5_rowCount (by decide) hw hj hC k
theorem b_X10_rows_10 {h : Nat} {L : LVs} {st : List AV} {S : ST} {Q : Option AV → ST → Prop} (k : t_ir st S Q) : V MX10_rows h 10 L st S Q :=
  w_ir dX10_rows_10 rfl k
-- QueryForge.items()I
theorem dX10_items_0 : decode cX10_items 0 = .ok (.aload_n 0, 1) := by decide +kernel
theorem dX10_items_1 : decode cX10_items 1 = .ok (.getfield 69, 3) := by decide +kernel
theorem dX10_items_4 : decode cX10_items 4 = .ok (.invokevirtual 94, 3) := by decide +kernel
theorem dX10_items_7 : decode cX10_items 7 = .ok (.invokevirtual 103, 3) := by decide +kernel
theorem dX10_items_10 : decode cX10_items 10 = .ok (.ireturn, 1) := by decide +kernel
theorem b_X10_items_0 {h : Nat} {L : LVs} {st : List AV} {S : ST} {Q : Option AV → ST → Prop} (k : o_al L st S (fun L st S => o_get L st S (fun L st S => V MX10_items h 4 L st S Q) 10 7 (4, 2, 0)) 0) : V MX10_items h 0 L st S Q :=
  v_aload_n dX10_items_0 rfl (fun L st S k => v_get dX10_items_1 rfl iX10 LY_10 rfl (by decide) rfl fl_X10_69 (fun L st S k => k) k) k
theorem k_X10_items_4 {h : Nat} {L : LVs} {st : List AV} {S : ST} {Q Q' : Option AV → ST → Prop} {j : Nat} (hC : Ct MX2_result h [vR 2 j] S Q') (k : ∀ (r : Option AV) (S' : ST), Q' r S' → V MX10_items (h + 1) 7 L (r.toList ++ st) S' Q) (hj : j < NI 2) (hw : wid st ≤ 8) : V MX10_items (h + 1) 4 L (vR 2 j :: st) S Q :=
  v_callV (M' := MX2_result) (c := 2) (As := []) dX10_items_4 ml_X10_94 im_X2_result se_X2_result in_X2 cd_X2_result rfl LY_2 np_X2_result (by decide) hw hj hC k
theorem k_X10_items_7 {h : Nat} {L : LVs} {st : List AV} {S : ST} {Q Q' : Option AV → ST → Prop} {j : Nat} (hC : Ct MX5_itemCount h [vR 5 j] S Q') (k : ∀ (r : Option AV) (S' : ST), Q' r S' → V MX10_items (h + 1) 10 L (r.toList ++ st) S' Q) (hj : j < NI 5) (hw : wid st ≤ 8) : V MX10_items (h + 1) 7 L (vR 5 j :: st) S Q :=
  v_callV (M' := MX5_itemCount) (c := 5) (As := []) dX10_items_7 ml_X10_103 im_X5_itemCount se_X5_itemCount in_X5 cd_X5_itemCount rfl LY_5 np_X5_itemCount (by decide) hw hj hC k
theorem b_X10_items_10 {h : Nat} {L : LVs} {st : List AV} {S : ST} {Q : Option AV → ST → Prop} (k : t_ir st S Q) : V MX10_items h 10 L st S Q :=
  w_ir dX10_items_10 rfl k
-- QueryForge.value(II)I
theorem dX10_value_0 : decode cX10_value 0 = .ok (.aload_n 0, 1) := by decide +kernel
theorem dX10_value_1 : decode cX10_value 1 = .ok (.getfield 69, 3) := by decide +kernel
theorem dX10_value_4 : decode cX10_value 4 = .ok (.invokevirtual 94, 3) := by decide +kernel
theorem dX10_value_7 : decode cX10_value 7 = .ok (.astore_n 3, 1) := by decide +kernel
theorem dX10_value_8 : decode cX10_value 8 = .ok (.aload_n 3, 1) := by decide +kernel
theorem dX10_value_9 : decode cX10_value 9 = .ok (.iload_n 1, 1) := by decide +kernel
theorem dX10_value_10 : decode cX10_value 10 = .ok (.iload_n 2, 1) := by decide +kernel
theorem dX10_value_11 : decode cX10_value 11 = .ok (.invokevirtual 106, 3) := by decide +kernel
theorem dX10_value_14 : decode cX10_value 14 = .ok (.ifCond .eq 15, 3) := by decide +kernel
theorem dX10_value_17 : decode cX10_value 17 = .ok (.aload_n 3, 1) := by decide +kernel
theorem dX10_value_18 : decode cX10_value 18 = .ok (.iload_n 1, 1) := by decide +kernel
theorem dX10_value_19 : decode cX10_value 19 = .ok (.iload_n 2, 1) := by decide +kernel
theorem dX10_value_20 : decode cX10_value 20 = .ok (.invokevirtual 110, 3) := by decide +kernel
theorem dX10_value_23 : decode cX10_value 23 = .ok (.invokestatic 114, 3) := by decide +kernel
theorem dX10_value_26 : decode cX10_value 26 = .ok (.goto 4, 3) := by decide +kernel
theorem dX10_value_29 : decode cX10_value 29 = .ok (.iconst (-1), 1) := by decide +kernel
theorem dX10_value_30 : decode cX10_value 30 = .ok (.ireturn, 1) := by decide +kernel
theorem b_X10_value_0 {h : Nat} {L : LVs} {st : List AV} {S : ST} {Q : Option AV → ST → Prop} (k : o_al L st S (fun L st S => o_get L st S (fun L st S => V MX10_value h 4 L st S Q) 10 7 (4, 2, 0)) 0) : V MX10_value h 0 L st S Q :=
  v_aload_n dX10_value_0 rfl (fun L st S k => v_get dX10_value_1 rfl iX10 LY_10 rfl (by decide) rfl fl_X10_69 (fun L st S k => k) k) k
theorem k_X10_value_4 {h : Nat} {L : LVs} {st : List AV} {S : ST} {Q Q' : Option AV → ST → Prop} {j : Nat} (hC : Ct MX2_result h [vR 2 j] S Q') (k : ∀ (r : Option AV) (S' : ST), Q' r S' → V MX10_value (h + 1) 7 L (r.toList ++ st) S' Q) (hj : j < NI 2) (hw : wid st ≤ 8) : V MX10_value (h + 1) 4 L (vR 2 j :: st) S Q :=
  v_callV (M' := MX2_result) (c := 2) (As := []) dX10_value_4 ml_X10_94 im_X2_result se_X2_result in_X2 cd_X2_result rfl LY_2 np_X2_result (by decide) hw hj hC k
theorem b_X10_value_7 {h : Nat} {L : LVs} {st : List AV} {S : ST} {Q : Option AV → ST → Prop} (k : o_as L st S (fun L st S => o_al L st S (fun L st S => o_il L st S (fun L st S => o_il L st S (fun L st S => V MX10_value h 11 L st S Q) 2) 1) 3) 3) : V MX10_value h 7 L st S Q :=
  v_astore_n dX10_value_7 rfl (by decide) (fun L st S k => v_aload_n dX10_value_8 rfl (fun L st S k => v_iload_n dX10_value_9 rfl (fun L st S k => v_iload_n dX10_value_10 rfl (fun L st S k => k) k) k) k) k
theorem k_X10_value_11 {h : Nat} {L : LVs} {st : List AV} {S : ST} {Q Q' : Option AV → ST → Prop} {j : Nat} {a0 a1 : AV} (hC : Ct MX5_has h [vR 5 j, a0, a1] S Q') (k : ∀ (r : Option AV) (S' : ST), Q' r S' → V MX10_value (h + 1) 14 L (r.toList ++ st) S' Q) (hj : j < NI 5) (hw : wid st ≤ 8) : V MX10_value (h + 1) 11 L (a1 :: a0 :: vR 5 j :: st) S Q :=
  v_callV (M' := MX5_has) (c := 5) (As := [a0, a1]) dX10_value_11 ml_X10_106 im_X5_has se_X5_has in_X5 cd_X5_has rfl LY_5 np_X5_has (by decide) hw hj hC k
theorem b_X10_value_14 {h : Nat} {L : LVs} {st : List AV} {S : ST} {Q : Option AV → ST → Prop} (k : t_1 L st S (fun x => x = nI 0) (fun L st S => V MX10_value h 29 L st S Q) (fun L st S => V MX10_value h 17 L st S Q)) : V MX10_value h 14 L st S Q :=
  w_if_eq dX10_value_14 (by decide) rfl k
theorem b_X10_value_17 {h : Nat} {L : LVs} {st : List AV} {S : ST} {Q : Option AV → ST → Prop} (k : o_al L st S (fun L st S => o_il L st S (fun L st S => o_il L st S (fun L st S => V MX10_value h 20 L st S Q) 2) 1) 3) : V MX10_value h 17 L st S Q :=
  v_aload_n dX10_value_17 rfl (fun L st S k => v_iload_n dX10_value_18 rfl (fun L st S k => v_iload_n dX10_value_19 rfl (fun L st S k => k) k) k) k
theorem k_X10_value_20 {h : Nat} {L : LVs} {st : List AV} {S : ST} {Q Q' : Option AV → ST → Prop} {j : Nat} {a0 a1 : AV} (hC : Ct MX5_heldAt h [vR 5 j, a0, a1] S Q') (k : ∀ (r : Option AV) (S' : ST), Q' r S' → V MX10_value (h + 1) 23 L (r.toList ++ st) S' Q) (hj : j < NI 5) (hw : wid st ≤ 8) : V MX10_value (h + 1) 20 L (a1 :: a0 :: vR 5 j :: st) S Q :=
  v_callV (M' := MX5_heldAt) (c := 5) (As := [a0, a1]) dX10_value_20 ml_X10_110 im_X5_heldAt se_X5_heldAt in_X5 cd_X5_heldAt rfl LY_5 np_X5_heldAt (by decide) hw hj hC k
theorem k_X10_value_23 {h : Nat} {L : LVs} {st : List AV} {S : ST} {Q Q' : Option AV → ST → Prop} {a0 : AV} (hC : Ct MX10_shown h [a0] S Q') (k : ∀ (r : Option AV) (S' : ST), Q' r S' → V MX10_value (h + 1) 26 L (r.toList ++ st) S' Q) (hw : wid st ≤ 8) : V MX10_value (h + 1) 23 L (a0 :: st) S Q :=
  v_callS (M' := MX10_shown) (As := [a0]) dX10_value_23 ml_X10_114 sm_X10_shown in_X10 cd_X10_shown ⟨rfl, np_X10_shown⟩ (by decide) hw hC k
theorem b_X10_value_26 {h : Nat} {L : LVs} {st : List AV} {S : ST} {Q : Option AV → ST → Prop} (k : V MX10_value h 30 L st S Q) : V MX10_value h 26 L st S Q :=
  v_goto dX10_value_26 (by decide) k
theorem b_X10_value_29 {h : Nat} {L : LVs} {st : List AV} {S : ST} {Q : Option AV → ST → Prop} (k : o_c L st S (fun L st S => V MX10_value h 30 L st S Q) (-1)) : V MX10_value h 29 L st S Q :=
  v_iconst dX10_value_29 (by decide) (fun L st S k => k) k
theorem b_X10_value_30 {h : Nat} {L : LVs} {st : List AV} {S : ST} {Q : Option AV → ST → Prop} (k : t_ir st S Q) : V MX10_value h 30 L st S Q :=
  w_ir dX10_value_30 rfl k
-- QueryForge.isNull(II)Z
theorem dX10_isNull_0 : decode cX10_isNull 0 = .ok (.aload_n 0, 1) := by decide +kernel
theorem dX10_isNull_1 : decode cX10_isNull 1 = .ok (.getfield 69, 3) := by decide +kernel
theorem dX10_isNull_4 : decode cX10_isNull 4 = .ok (.invokevirtual 94, 3) := by decide +kernel
theorem dX10_isNull_7 : decode cX10_isNull 7 = .ok (.astore_n 3, 1) := by decide +kernel
theorem dX10_isNull_8 : decode cX10_isNull 8 = .ok (.aload_n 3, 1) := by decide +kernel
theorem dX10_isNull_9 : decode cX10_isNull 9 = .ok (.iload_n 1, 1) := by decide +kernel
theorem dX10_isNull_10 : decode cX10_isNull 10 = .ok (.iload_n 2, 1) := by decide +kernel
theorem dX10_isNull_11 : decode cX10_isNull 11 = .ok (.invokevirtual 106, 3) := by decide +kernel
theorem dX10_isNull_14 : decode cX10_isNull 14 = .ok (.ifCond .eq 20, 3) := by decide +kernel
theorem dX10_isNull_17 : decode cX10_isNull 17 = .ok (.aload_n 3, 1) := by decide +kernel
theorem dX10_isNull_18 : decode cX10_isNull 18 = .ok (.iload_n 1, 1) := by decide +kernel
theorem dX10_isNull_19 : decode cX10_isNull 19 = .ok (.iload_n 2, 1) := by decide +kernel
theorem dX10_isNull_20 : decode cX10_isNull 20 = .ok (.invokevirtual 110, 3) := by decide +kernel
theorem dX10_isNull_23 : decode cX10_isNull 23 = .ok (.ldc2_w 118, 3) := by decide +kernel
theorem dX10_isNull_26 : decode cX10_isNull 26 = .ok (.lcmp, 1) := by decide +kernel
theorem dX10_isNull_27 : decode cX10_isNull 27 = .ok (.ifCond .ne 7, 3) := by decide +kernel
theorem dX10_isNull_30 : decode cX10_isNull 30 = .ok (.iconst 1, 1) := by decide +kernel
theorem dX10_isNull_31 : decode cX10_isNull 31 = .ok (.goto 4, 3) := by decide +kernel
theorem dX10_isNull_34 : decode cX10_isNull 34 = .ok (.iconst 0, 1) := by decide +kernel
theorem dX10_isNull_35 : decode cX10_isNull 35 = .ok (.ireturn, 1) := by decide +kernel
theorem b_X10_isNull_0 {h : Nat} {L : LVs} {st : List AV} {S : ST} {Q : Option AV → ST → Prop} (k : o_al L st S (fun L st S => o_get L st S (fun L st S => V MX10_isNull h 4 L st S Q) 10 7 (4, 2, 0)) 0) : V MX10_isNull h 0 L st S Q :=
  v_aload_n dX10_isNull_0 rfl (fun L st S k => v_get dX10_isNull_1 rfl iX10 LY_10 rfl (by decide) rfl fl_X10_69 (fun L st S k => k) k) k
theorem k_X10_isNull_4 {h : Nat} {L : LVs} {st : List AV} {S : ST} {Q Q' : Option AV → ST → Prop} {j : Nat} (hC : Ct MX2_result h [vR 2 j] S Q') (k : ∀ (r : Option AV) (S' : ST), Q' r S' → V MX10_isNull (h + 1) 7 L (r.toList ++ st) S' Q) (hj : j < NI 2) (hw : wid st ≤ 8) : V MX10_isNull (h + 1) 4 L (vR 2 j :: st) S Q :=
  v_callV (M' := MX2_result) (c := 2) (As := []) dX10_isNull_4 ml_X10_94 im_X2_result se_X2_result in_X2 cd_X2_result rfl LY_2 np_X2_result (by decide) hw hj hC k
theorem b_X10_isNull_7 {h : Nat} {L : LVs} {st : List AV} {S : ST} {Q : Option AV → ST → Prop} (k : o_as L st S (fun L st S => o_al L st S (fun L st S => o_il L st S (fun L st S => o_il L st S (fun L st S => V MX10_isNull h 11 L st S Q) 2) 1) 3) 3) : V MX10_isNull h 7 L st S Q :=
  v_astore_n dX10_isNull_7 rfl (by decide) (fun L st S k => v_aload_n dX10_isNull_8 rfl (fun L st S k => v_iload_n dX10_isNull_9 rfl (fun L st S k => v_iload_n dX10_isNull_10 rfl (fun L st S k => k) k) k) k) k
theorem k_X10_isNull_11 {h : Nat} {L : LVs} {st : List AV} {S : ST} {Q Q' : Option AV → ST → Prop} {j : Nat} {a0 a1 : AV} (hC : Ct MX5_has h [vR 5 j, a0, a1] S Q') (k : ∀ (r : Option AV) (S' : ST), Q' r S' → V MX10_isNull (h + 1) 14 L (r.toList ++ st) S' Q) (hj : j < NI 5) (hw : wid st ≤ 8) : V MX10_isNull (h + 1) 11 L (a1 :: a0 :: vR 5 j :: st) S Q :=
  v_callV (M' := MX5_has) (c := 5) (As := [a0, a1]) dX10_isNull_11 ml_X10_106 im_X5_has se_X5_has in_X5 cd_X5_has rfl LY_5 np_X5_has (by decide) hw hj hC k
theorem b_X10_isNull_14 {h : Nat} {L : LVs} {st : List AV} {S : ST} {Q : Option AV → ST → Prop} (k : t_1 L st S (fun x => x = nI 0) (fun L st S => V MX10_isNull h 34 L st S Q) (fun L st S => V MX10_isNull h 17 L st S Q)) : V MX10_isNull h 14 L st S Q :=
  w_if_eq dX10_isNull_14 (by decide) rfl k
theorem b_X10_isNull_17 {h : Nat} {L : LVs} {st : List AV} {S : ST} {Q : Option AV → ST → Prop} (k : o_al L st S (fun L st S => o_il L st S (fun L st S => o_il L st S (fun L st S => V MX10_isNull h 20 L st S Q) 2) 1) 3) : V MX10_isNull h 17 L st S Q :=
  v_aload_n dX10_isNull_17 rfl (fun L st S k => v_iload_n dX10_isNull_18 rfl (fun L st S k => v_iload_n dX10_isNull_19 rfl (fun L st S k => k) k) k) k
theorem k_X10_isNull_20 {h : Nat} {L : LVs} {st : List AV} {S : ST} {Q Q' : Option AV → ST → Prop} {j : Nat} {a0 a1 : AV} (hC : Ct MX5_heldAt h [vR 5 j, a0, a1] S Q') (k : ∀ (r : Option AV) (S' : ST), Q' r S' → V MX10_isNull (h + 1) 23 L (r.toList ++ st) S' Q) (hj : j < NI 5) (hw : wid st ≤ 8) : V MX10_isNull (h + 1) 20 L (a1 :: a0 :: vR 5 j :: st) S Q :=
  v_callV (M' := MX5_heldAt) (c := 5) (As := [a0, a1]) dX10_isNull_20 ml_X10_110 im_X5_heldAt se_X5_heldAt in_X5 cd_X5_heldAt rfl LY_5 np_X5_heldAt (by decide) hw hj hC k
theorem b_X10_isNull_23 {h : Nat} {L : LVs} {st : List AV} {S : ST} {Q : Option AV → ST → Prop} (k : o_lc L st S (fun L st S => o_lcmp L st S (fun L st S => t_1 L st S (fun x => x = nI 0) (fun L st S => V MX10_isNull h 30 L st S Q) (fun L st S => V MX10_isNull h 34 L st S Q))) (-4611686018427387904)) : V MX10_isNull h 23 L st S Q :=
  v_ldc2 dX10_isNull_23 kl_X10_118 (fun L st S k => v_lcmp dX10_isNull_26 (fun L st S k => w_if_ne dX10_isNull_27 (by decide) rfl k) k) k
theorem b_X10_isNull_30 {h : Nat} {L : LVs} {st : List AV} {S : ST} {Q : Option AV → ST → Prop} (k : o_c L st S (fun L st S => V MX10_isNull h 35 L st S Q) (nI 1)) : V MX10_isNull h 30 L st S Q :=
  v_iconst dX10_isNull_30 (by decide) (fun L st S k => v_goto dX10_isNull_31 (by decide) k) k
theorem b_X10_isNull_34 {h : Nat} {L : LVs} {st : List AV} {S : ST} {Q : Option AV → ST → Prop} (k : o_c L st S (fun L st S => V MX10_isNull h 35 L st S Q) (nI 0)) : V MX10_isNull h 34 L st S Q :=
  v_iconst dX10_isNull_34 (by decide) (fun L st S k => k) k
theorem b_X10_isNull_35 {h : Nat} {L : LVs} {st : List AV} {S : ST} {Q : Option AV → ST → Prop} (k : t_zr st S Q) : V MX10_isNull h 35 L st S Q :=
  w_zr dX10_isNull_35 rfl k
-- QueryForge.size(I)I
theorem dX10_size_0 : decode cX10_size 0 = .ok (.aload_n 0, 1) := by decide +kernel
theorem dX10_size_1 : decode cX10_size 1 = .ok (.getfield 27, 3) := by decide +kernel
theorem dX10_size_4 : decode cX10_size 4 = .ok (.iload_n 1, 1) := by decide +kernel
theorem dX10_size_5 : decode cX10_size 5 = .ok (.invokevirtual 120, 3) := by decide +kernel
theorem dX10_size_8 : decode cX10_size 8 = .ok (.ifCond .eq 17, 3) := by decide +kernel
theorem dX10_size_11 : decode cX10_size 11 = .ok (.aload_n 0, 1) := by decide +kernel
theorem dX10_size_12 : decode cX10_size 12 = .ok (.getfield 27, 3) := by decide +kernel
theorem dX10_size_15 : decode cX10_size 15 = .ok (.iload_n 1, 1) := by decide +kernel
theorem dX10_size_16 : decode cX10_size 16 = .ok (.invokevirtual 123, 3) := by decide +kernel
theorem dX10_size_19 : decode cX10_size 19 = .ok (.invokevirtual 127, 3) := by decide +kernel
theorem dX10_size_22 : decode cX10_size 22 = .ok (.goto 4, 3) := by decide +kernel
theorem dX10_size_25 : decode cX10_size 25 = .ok (.iconst (-1), 1) := by decide +kernel
theorem dX10_size_26 : decode cX10_size 26 = .ok (.ireturn, 1) := by decide +kernel
theorem b_X10_size_0 {h : Nat} {L : LVs} {st : List AV} {S : ST} {Q : Option AV → ST → Prop} (k : o_al L st S (fun L st S => o_get L st S (fun L st S => o_il L st S (fun L st S => V MX10_size h 5 L st S Q) 1) 10 3 (4, 8, 0)) 0) : V MX10_size h 0 L st S Q :=
  v_aload_n dX10_size_0 rfl (fun L st S k => v_get dX10_size_1 rfl iX10 LY_10 rfl (by decide) rfl fl_X10_27 (fun L st S k => v_iload_n dX10_size_4 rfl (fun L st S k => k) k) k) k
theorem k_X10_size_5 {h : Nat} {L : LVs} {st : List AV} {S : ST} {Q Q' : Option AV → ST → Prop} {j : Nat} {a0 : AV} (hC : Ct MX8_has h [vR 8 j, a0] S Q') (k : ∀ (r : Option AV) (S' : ST), Q' r S' → V MX10_size (h + 1) 8 L (r.toList ++ st) S' Q) (hj : j < NI 8) (hw : wid st ≤ 8) : V MX10_size (h + 1) 5 L (a0 :: vR 8 j :: st) S Q :=
  v_callV (M' := MX8_has) (c := 8) (As := [a0]) dX10_size_5 ml_X10_120 im_X8_has se_X8_has in_X8 cd_X8_has rfl LY_8 np_X8_has (by decide) hw hj hC k
theorem b_X10_size_8 {h : Nat} {L : LVs} {st : List AV} {S : ST} {Q : Option AV → ST → Prop} (k : t_1 L st S (fun x => x = nI 0) (fun L st S => V MX10_size h 25 L st S Q) (fun L st S => V MX10_size h 11 L st S Q)) : V MX10_size h 8 L st S Q :=
  w_if_eq dX10_size_8 (by decide) rfl k
theorem b_X10_size_11 {h : Nat} {L : LVs} {st : List AV} {S : ST} {Q : Option AV → ST → Prop} (k : o_al L st S (fun L st S => o_get L st S (fun L st S => o_il L st S (fun L st S => V MX10_size h 16 L st S Q) 1) 10 3 (4, 8, 0)) 0) : V MX10_size h 11 L st S Q :=
  v_aload_n dX10_size_11 rfl (fun L st S k => v_get dX10_size_12 rfl iX10 LY_10 rfl (by decide) rfl fl_X10_27 (fun L st S k => v_iload_n dX10_size_15 rfl (fun L st S k => k) k) k) k
theorem k_X10_size_16 {h : Nat} {L : LVs} {st : List AV} {S : ST} {Q Q' : Option AV → ST → Prop} {j : Nat} {a0 : AV} (hC : Ct MX8_tableAt h [vR 8 j, a0] S Q') (k : ∀ (r : Option AV) (S' : ST), Q' r S' → V MX10_size (h + 1) 19 L (r.toList ++ st) S' Q) (hj : j < NI 8) (hw : wid st ≤ 8) : V MX10_size (h + 1) 16 L (a0 :: vR 8 j :: st) S Q :=
  v_callV (M' := MX8_tableAt) (c := 8) (As := [a0]) dX10_size_16 ml_X10_123 im_X8_tableAt se_X8_tableAt in_X8 cd_X8_tableAt rfl LY_8 np_X8_tableAt (by decide) hw hj hC k
theorem k_X10_size_19 {h : Nat} {L : LVs} {st : List AV} {S : ST} {Q Q' : Option AV → ST → Prop} {j : Nat} (hC : Ct MX7_rowCount h [vR 7 j] S Q') (k : ∀ (r : Option AV) (S' : ST), Q' r S' → V MX10_size (h + 1) 22 L (r.toList ++ st) S' Q) (hj : j < NI 7) (hw : wid st ≤ 8) : V MX10_size (h + 1) 19 L (vR 7 j :: st) S Q :=
  v_callV (M' := MX7_rowCount) (c := 7) (As := []) dX10_size_19 ml_X10_127 im_X7_rowCount se_X7_rowCount in_X7 cd_X7_rowCount rfl LY_7 np_X7_rowCount (by decide) hw hj hC k
theorem b_X10_size_22 {h : Nat} {L : LVs} {st : List AV} {S : ST} {Q : Option AV → ST → Prop} (k : V MX10_size h 26 L st S Q) : V MX10_size h 22 L st S Q :=
  v_goto dX10_size_22 (by decide) k
theorem b_X10_size_25 {h : Nat} {L : LVs} {st : List AV} {S : ST} {Q : Option AV → ST → Prop} (k : o_c L st S (fun L st S => V MX10_size h 26 L st S Q) (-1)) : V MX10_size h 25 L st S Q :=
  v_iconst dX10_size_25 (by decide) (fun L st S k => k) k
theorem b_X10_size_26 {h : Nat} {L : LVs} {st : List AV} {S : ST} {Q : Option AV → ST → Prop} (k : t_ir st S Q) : V MX10_size h 26 L st S Q :=
  w_ir dX10_size_26 rfl k
-- QueryForge.cell(III)I
theorem dX10_cell_0 : decode cX10_cell 0 = .ok (.aload_n 0, 1) := by decide +kernel
theorem dX10_cell_1 : decode cX10_cell 1 = .ok (.getfield 27, 3) := by decide +kernel
theorem dX10_cell_4 : decode cX10_cell 4 = .ok (.iload_n 1, 1) := by decide +kernel
theorem dX10_cell_5 : decode cX10_cell 5 = .ok (.invokevirtual 120, 3) := by decide +kernel
theorem dX10_cell_8 : decode cX10_cell 8 = .ok (.ifCond .ne 5, 3) := by decide +kernel
theorem dX10_cell_11 : decode cX10_cell 11 = .ok (.iconst (-1), 1) := by decide +kernel
theorem dX10_cell_12 : decode cX10_cell 12 = .ok (.ireturn, 1) := by decide +kernel
theorem dX10_cell_13 : decode cX10_cell 13 = .ok (.aload_n 0, 1) := by decide +kernel
theorem dX10_cell_14 : decode cX10_cell 14 = .ok (.getfield 27, 3) := by decide +kernel
theorem dX10_cell_17 : decode cX10_cell 17 = .ok (.iload_n 1, 1) := by decide +kernel
theorem dX10_cell_18 : decode cX10_cell 18 = .ok (.invokevirtual 123, 3) := by decide +kernel
theorem dX10_cell_21 : decode cX10_cell 21 = .ok (.astore 4, 2) := by decide +kernel
theorem dX10_cell_23 : decode cX10_cell 23 = .ok (.aload 4, 2) := by decide +kernel
theorem dX10_cell_25 : decode cX10_cell 25 = .ok (.iload_n 2, 1) := by decide +kernel
theorem dX10_cell_26 : decode cX10_cell 26 = .ok (.iload_n 3, 1) := by decide +kernel
theorem dX10_cell_27 : decode cX10_cell 27 = .ok (.invokevirtual 130, 3) := by decide +kernel
theorem dX10_cell_30 : decode cX10_cell 30 = .ok (.ifCond .eq 16, 3) := by decide +kernel
theorem dX10_cell_33 : decode cX10_cell 33 = .ok (.aload 4, 2) := by decide +kernel
theorem dX10_cell_35 : decode cX10_cell 35 = .ok (.iload_n 2, 1) := by decide +kernel
theorem dX10_cell_36 : decode cX10_cell 36 = .ok (.iload_n 3, 1) := by decide +kernel
theorem dX10_cell_37 : decode cX10_cell 37 = .ok (.invokevirtual 131, 3) := by decide +kernel
theorem dX10_cell_40 : decode cX10_cell 40 = .ok (.invokestatic 114, 3) := by decide +kernel
theorem dX10_cell_43 : decode cX10_cell 43 = .ok (.goto 4, 3) := by decide +kernel
theorem dX10_cell_46 : decode cX10_cell 46 = .ok (.iconst (-1), 1) := by decide +kernel
theorem dX10_cell_47 : decode cX10_cell 47 = .ok (.ireturn, 1) := by decide +kernel
theorem b_X10_cell_0 {h : Nat} {L : LVs} {st : List AV} {S : ST} {Q : Option AV → ST → Prop} (k : o_al L st S (fun L st S => o_get L st S (fun L st S => o_il L st S (fun L st S => V MX10_cell h 5 L st S Q) 1) 10 3 (4, 8, 0)) 0) : V MX10_cell h 0 L st S Q :=
  v_aload_n dX10_cell_0 rfl (fun L st S k => v_get dX10_cell_1 rfl iX10 LY_10 rfl (by decide) rfl fl_X10_27 (fun L st S k => v_iload_n dX10_cell_4 rfl (fun L st S k => k) k) k) k
theorem k_X10_cell_5 {h : Nat} {L : LVs} {st : List AV} {S : ST} {Q Q' : Option AV → ST → Prop} {j : Nat} {a0 : AV} (hC : Ct MX8_has h [vR 8 j, a0] S Q') (k : ∀ (r : Option AV) (S' : ST), Q' r S' → V MX10_cell (h + 1) 8 L (r.toList ++ st) S' Q) (hj : j < NI 8) (hw : wid st ≤ 8) : V MX10_cell (h + 1) 5 L (a0 :: vR 8 j :: st) S Q :=
  v_callV (M' := MX8_has) (c := 8) (As := [a0]) dX10_cell_5 ml_X10_120 im_X8_has se_X8_has in_X8 cd_X8_has rfl LY_8 np_X8_has (by decide) hw hj hC k
theorem b_X10_cell_8 {h : Nat} {L : LVs} {st : List AV} {S : ST} {Q : Option AV → ST → Prop} (k : t_1 L st S (fun x => x = nI 0) (fun L st S => V MX10_cell h 11 L st S Q) (fun L st S => V MX10_cell h 13 L st S Q)) : V MX10_cell h 8 L st S Q :=
  w_if_ne dX10_cell_8 (by decide) rfl k
theorem b_X10_cell_11 {h : Nat} {L : LVs} {st : List AV} {S : ST} {Q : Option AV → ST → Prop} (k : o_c L st S (fun L st S => t_ir st S Q) (-1)) : V MX10_cell h 11 L st S Q :=
  v_iconst dX10_cell_11 (by decide) (fun L st S k => w_ir dX10_cell_12 rfl k) k
theorem b_X10_cell_13 {h : Nat} {L : LVs} {st : List AV} {S : ST} {Q : Option AV → ST → Prop} (k : o_al L st S (fun L st S => o_get L st S (fun L st S => o_il L st S (fun L st S => V MX10_cell h 18 L st S Q) 1) 10 3 (4, 8, 0)) 0) : V MX10_cell h 13 L st S Q :=
  v_aload_n dX10_cell_13 rfl (fun L st S k => v_get dX10_cell_14 rfl iX10 LY_10 rfl (by decide) rfl fl_X10_27 (fun L st S k => v_iload_n dX10_cell_17 rfl (fun L st S k => k) k) k) k
theorem k_X10_cell_18 {h : Nat} {L : LVs} {st : List AV} {S : ST} {Q Q' : Option AV → ST → Prop} {j : Nat} {a0 : AV} (hC : Ct MX8_tableAt h [vR 8 j, a0] S Q') (k : ∀ (r : Option AV) (S' : ST), Q' r S' → V MX10_cell (h + 1) 21 L (r.toList ++ st) S' Q) (hj : j < NI 8) (hw : wid st ≤ 8) : V MX10_cell (h + 1) 18 L (a0 :: vR 8 j :: st) S Q :=
  v_callV (M' := MX8_tableAt) (c := 8) (As := [a0]) dX10_cell_18 ml_X10_123 im_X8_tableAt se_X8_tableAt in_X8 cd_X8_tableAt rfl LY_8 np_X8_tableAt (by decide) hw hj hC k
theorem b_X10_cell_21 {h : Nat} {L : LVs} {st : List AV} {S : ST} {Q : Option AV → ST → Prop} (k : o_as L st S (fun L st S => o_al L st S (fun L st S => o_il L st S (fun L st S => o_il L st S (fun L st S => V MX10_cell h 27 L st S Q) 3) 2) 4) 4) : V MX10_cell h 21 L st S Q :=
  v_astore dX10_cell_21 (by decide) (fun L st S k => v_aload dX10_cell_23 (fun L st S k => v_iload_n dX10_cell_25 rfl (fun L st S k => v_iload_n dX10_cell_26 rfl (fun L st S k => k) k) k) k) k
theorem k_X10_cell_27 {h : Nat} {L : LVs} {st : List AV} {S : ST} {Q Q' : Option AV → ST → Prop} {j : Nat} {a0 a1 : AV} (hC : Ct MX7_has h [vR 7 j, a0, a1] S Q') (k : ∀ (r : Option AV) (S' : ST), Q' r S' → V MX10_cell (h + 1) 30 L (r.toList ++ st) S' Q) (hj : j < NI 7) (hw : wid st ≤ 8) : V MX10_cell (h + 1) 27 L (a1 :: a0 :: vR 7 j :: st) S Q :=
  v_callV (M' := MX7_has) (c := 7) (As := [a0, a1]) dX10_cell_27 ml_X10_130 im_X7_has se_X7_has in_X7 cd_X7_has rfl LY_7 np_X7_has (by decide) hw hj hC k
theorem b_X10_cell_30 {h : Nat} {L : LVs} {st : List AV} {S : ST} {Q : Option AV → ST → Prop} (k : t_1 L st S (fun x => x = nI 0) (fun L st S => V MX10_cell h 46 L st S Q) (fun L st S => V MX10_cell h 33 L st S Q)) : V MX10_cell h 30 L st S Q :=
  w_if_eq dX10_cell_30 (by decide) rfl k
theorem b_X10_cell_33 {h : Nat} {L : LVs} {st : List AV} {S : ST} {Q : Option AV → ST → Prop} (k : o_al L st S (fun L st S => o_il L st S (fun L st S => o_il L st S (fun L st S => V MX10_cell h 37 L st S Q) 3) 2) 4) : V MX10_cell h 33 L st S Q :=
  v_aload dX10_cell_33 (fun L st S k => v_iload_n dX10_cell_35 rfl (fun L st S k => v_iload_n dX10_cell_36 rfl (fun L st S k => k) k) k) k
theorem k_X10_cell_37 {h : Nat} {L : LVs} {st : List AV} {S : ST} {Q Q' : Option AV → ST → Prop} {j : Nat} {a0 a1 : AV} (hC : Ct MX7_heldAt h [vR 7 j, a0, a1] S Q') (k : ∀ (r : Option AV) (S' : ST), Q' r S' → V MX10_cell (h + 1) 40 L (r.toList ++ st) S' Q) (hj : j < NI 7) (hw : wid st ≤ 8) : V MX10_cell (h + 1) 37 L (a1 :: a0 :: vR 7 j :: st) S Q :=
  v_callV (M' := MX7_heldAt) (c := 7) (As := [a0, a1]) dX10_cell_37 ml_X10_131 im_X7_heldAt se_X7_heldAt in_X7 cd_X7_heldAt rfl LY_7 np_X7_heldAt (by decide) hw hj hC k
theorem k_X10_cell_40 {h : Nat} {L : LVs} {st : List AV} {S : ST} {Q Q' : Option AV → ST → Prop} {a0 : AV} (hC : Ct MX10_shown h [a0] S Q') (k : ∀ (r : Option AV) (S' : ST), Q' r S' → V MX10_cell (h + 1) 43 L (r.toList ++ st) S' Q) (hw : wid st ≤ 8) : V MX10_cell (h + 1) 40 L (a0 :: st) S Q :=
  v_callS (M' := MX10_shown) (As := [a0]) dX10_cell_40 ml_X10_114 sm_X10_shown in_X10 cd_X10_shown ⟨rfl, np_X10_shown⟩ (by decide) hw hC k
theorem b_X10_cell_43 {h : Nat} {L : LVs} {st : List AV} {S : ST} {Q : Option AV → ST → Prop} (k : V MX10_cell h 47 L st S Q) : V MX10_cell h 43 L st S Q :=
  v_goto dX10_cell_43 (by decide) k
theorem b_X10_cell_46 {h : Nat} {L : LVs} {st : List AV} {S : ST} {Q : Option AV → ST → Prop} (k : o_c L st S (fun L st S => V MX10_cell h 47 L st S Q) (-1)) : V MX10_cell h 46 L st S Q :=
  v_iconst dX10_cell_46 (by decide) (fun L st S k => k) k
theorem b_X10_cell_47 {h : Nat} {L : LVs} {st : List AV} {S : ST} {Q : Option AV → ST → Prop} (k : t_ir st S Q) : V MX10_cell h 47 L st S Q :=
  w_ir dX10_cell_47 rfl k
-- QueryForge.bounded()Z
theorem dX10_bounded_0 : decode cX10_bounded 0 = .ok (.aload_n 0, 1) := by decide +kernel
theorem dX10_bounded_1 : decode cX10_bounded 1 = .ok (.getfield 69, 3) := by decide +kernel
theorem dX10_bounded_4 : decode cX10_bounded 4 = .ok (.invokevirtual 132, 3) := by decide +kernel
theorem dX10_bounded_7 : decode cX10_bounded 7 = .ok (.ireturn, 1) := by decide +kernel
theorem b_X10_bounded_0 {h : Nat} {L : LVs} {st : List AV} {S : ST} {Q : Option AV → ST → Prop} (k : o_al L st S (fun L st S => o_get L st S (fun L st S => V MX10_bounded h 4 L st S Q) 10 7 (4, 2, 0)) 0) : V MX10_bounded h 0 L st S Q :=
  v_aload_n dX10_bounded_0 rfl (fun L st S k => v_get dX10_bounded_1 rfl iX10 LY_10 rfl (by decide) rfl fl_X10_69 (fun L st S k => k) k) k
theorem k_X10_bounded_4 {h : Nat} {L : LVs} {st : List AV} {S : ST} {Q Q' : Option AV → ST → Prop} {j : Nat} (hC : Ct MX2_keptBound h [vR 2 j] S Q') (k : ∀ (r : Option AV) (S' : ST), Q' r S' → V MX10_bounded (h + 1) 7 L (r.toList ++ st) S' Q) (hj : j < NI 2) (hw : wid st ≤ 8) : V MX10_bounded (h + 1) 4 L (vR 2 j :: st) S Q :=
  v_callV (M' := MX2_keptBound) (c := 2) (As := []) dX10_bounded_4 ml_X10_132 im_X2_keptBound se_X2_keptBound in_X2 cd_X2_keptBound rfl LY_2 np_X2_keptBound (by decide) hw hj hC k
theorem b_X10_bounded_7 {h : Nat} {L : LVs} {st : List AV} {S : ST} {Q : Option AV → ST → Prop} (k : t_zr st S Q) : V MX10_bounded h 7 L st S Q :=
  w_zr dX10_bounded_7 rfl k
-- QueryForge.sound()Z
theorem dX10_sound_0 : decode cX10_sound 0 = .ok (.aload_n 0, 1) := by decide +kernel
theorem dX10_sound_1 : decode cX10_sound 1 = .ok (.getfield 69, 3) := by decide +kernel
theorem dX10_sound_4 : decode cX10_sound 4 = .ok (.invokevirtual 136, 3) := by decide +kernel
theorem dX10_sound_7 : decode cX10_sound 7 = .ok (.ireturn, 1) := by decide +kernel
theorem b_X10_sound_0 {h : Nat} {L : LVs} {st : List AV} {S : ST} {Q : Option AV → ST → Prop} (k : o_al L st S (fun L st S => o_get L st S (fun L st S => V MX10_sound h 4 L st S Q) 10 7 (4, 2, 0)) 0) : V MX10_sound h 0 L st S Q :=
  v_aload_n dX10_sound_0 rfl (fun L st S k => v_get dX10_sound_1 rfl iX10 LY_10 rfl (by decide) rfl fl_X10_69 (fun L st S k => k) k) k
theorem k_X10_sound_4 {h : Nat} {L : LVs} {st : List AV} {S : ST} {Q Q' : Option AV → ST → Prop} {j : Nat} (hC : Ct MX2_knewAll h [vR 2 j] S Q') (k : ∀ (r : Option AV) (S' : ST), Q' r S' → V MX10_sound (h + 1) 7 L (r.toList ++ st) S' Q) (hj : j < NI 2) (hw : wid st ≤ 8) : V MX10_sound (h + 1) 4 L (vR 2 j :: st) S Q :=
  v_callV (M' := MX2_knewAll) (c := 2) (As := []) dX10_sound_4 ml_X10_136 im_X2_knewAll se_X2_knewAll in_X2 cd_X2_knewAll rfl LY_2 np_X2_knewAll (by decide) hw hj hC k
theorem b_X10_sound_7 {h : Nat} {L : LVs} {st : List AV} {S : ST} {Q : Option AV → ST → Prop} (k : t_zr st S Q) : V MX10_sound h 7 L st S Q :=
  w_zr dX10_sound_7 rfl k
-- QueryForge.shown(J)I
theorem dX10_shown_0 : decode cX10_shown 0 = .ok (.lload_n 0, 1) := by decide +kernel
theorem dX10_shown_1 : decode cX10_shown 1 = .ok (.ldc2_w 118, 3) := by decide +kernel
theorem dX10_shown_4 : decode cX10_shown 4 = .ok (.lcmp, 1) := by decide +kernel
theorem dX10_shown_5 : decode cX10_shown 5 = .ok (.ifCond .ne 7, 3) := by decide +kernel
theorem dX10_shown_8 : decode cX10_shown 8 = .ok (.iconst 0, 1) := by decide +kernel
theorem dX10_shown_9 : decode cX10_shown 9 = .ok (.goto 5, 3) := by decide +kernel
theorem dX10_shown_12 : decode cX10_shown 12 = .ok (.lload_n 0, 1) := by decide +kernel
theorem dX10_shown_13 : decode cX10_shown 13 = .ok (.l2i, 1) := by decide +kernel
theorem dX10_shown_14 : decode cX10_shown 14 = .ok (.ireturn, 1) := by decide +kernel
theorem b_X10_shown_0 {h : Nat} {L : LVs} {st : List AV} {S : ST} {Q : Option AV → ST → Prop} (k : o_ll L st S (fun L st S => o_lc L st S (fun L st S => o_lcmp L st S (fun L st S => t_1 L st S (fun x => x = nI 0) (fun L st S => V MX10_shown h 8 L st S Q) (fun L st S => V MX10_shown h 12 L st S Q))) (-4611686018427387904)) 0) : V MX10_shown h 0 L st S Q :=
  v_lload_n dX10_shown_0 rfl (fun L st S k => v_ldc2 dX10_shown_1 kl_X10_118 (fun L st S k => v_lcmp dX10_shown_4 (fun L st S k => w_if_ne dX10_shown_5 (by decide) rfl k) k) k) k
theorem b_X10_shown_8 {h : Nat} {L : LVs} {st : List AV} {S : ST} {Q : Option AV → ST → Prop} (k : o_c L st S (fun L st S => V MX10_shown h 14 L st S Q) (nI 0)) : V MX10_shown h 8 L st S Q :=
  v_iconst dX10_shown_8 (by decide) (fun L st S k => v_goto dX10_shown_9 (by decide) k) k
theorem b_X10_shown_12 {h : Nat} {L : LVs} {st : List AV} {S : ST} {Q : Option AV → ST → Prop} (k : o_ll L st S (fun L st S => o_l2i L st S (fun L st S => V MX10_shown h 14 L st S Q)) 0) : V MX10_shown h 12 L st S Q :=
  v_lload_n dX10_shown_12 rfl (fun L st S k => v_l2i dX10_shown_13 (fun L st S k => k) k) k
theorem b_X10_shown_14 {h : Nat} {L : LVs} {st : List AV} {S : ST} {Q : Option AV → ST → Prop} (k : t_ir st S Q) : V MX10_shown h 14 L st S Q :=
  w_ir dX10_shown_14 rfl k
