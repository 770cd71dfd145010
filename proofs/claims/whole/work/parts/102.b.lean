-- QueryForge$Machine.result()LQueryForge$Result;
theorem dX2_result_0 : decode cX2_result 0 = .ok (.aload_n 0, 1) := by decide +kernel
theorem dX2_result_1 : decode cX2_result 1 = .ok (.getfield 34, 3) := by decide +kernel
theorem dX2_result_4 : decode cX2_result 4 = .ok (.areturn, 1) := by decide +kernel
theorem b_X2_result_0 {h : Nat} {L : LVs} {st : List AV} {S : ST} {Q : Option AV → ST → Prop} (k : o_al L st S (fun L st S => o_get L st S (fun L st S => t_ar st S Q) 2 5 (5, 5, 0)) 0) : V MX2_result h 0 L st S Q :=
  v_aload_n dX2_result_0 rfl (fun L st S k => v_get dX2_result_1 rfl iX2 LY_2 rfl (by decide) rfl fl_X2_34 (fun L st S k => w_ar dX2_result_4 rfl k) k) k
-- QueryForge$Machine.keptBound()Z
theorem dX2_keptBound_0 : decode cX2_keptBound 0 = .ok (.aload_n 0, 1) := by decide +kernel
theorem dX2_keptBound_1 : decode cX2_keptBound 1 = .ok (.getfield 58, 3) := by decide +kernel
theorem dX2_keptBound_4 : decode cX2_keptBound 4 = .ok (.aload_n 0, 1) := by decide +kernel
theorem dX2_keptBound_5 : decode cX2_keptBound 5 = .ok (.getfield 62, 3) := by decide +kernel
theorem dX2_keptBound_8 : decode cX2_keptBound 8 = .ok (.lcmp, 1) := by decide +kernel
theorem dX2_keptBound_9 : decode cX2_keptBound 9 = .ok (.ifCond .gt 7, 3) := by decide +kernel
theorem dX2_keptBound_12 : decode cX2_keptBound 12 = .ok (.iconst 1, 1) := by decide +kernel
theorem dX2_keptBound_13 : decode cX2_keptBound 13 = .ok (.goto 4, 3) := by decide +kernel
theorem dX2_keptBound_16 : decode cX2_keptBound 16 = .ok (.iconst 0, 1) := by decide +kernel
theorem dX2_keptBound_17 : decode cX2_keptBound 17 = .ok (.ireturn, 1) := by decide +kernel
theorem b_X2_keptBound_0 {h : Nat} {L : LVs} {st : List AV} {S : ST} {Q : Option AV → ST → Prop} (k : o_al L st S (fun L st S => o_get L st S (fun L st S => o_al L st S (fun L st S => o_get L st S (fun L st S => o_lcmp L st S (fun L st S => t_1 L st S (fun x => nI 0 < x) (fun L st S => V MX2_keptBound h 16 L st S Q) (fun L st S => V MX2_keptBound h 12 L st S Q))) 2 19 (1, 0, 0)) 0) 2 17 (1, 0, 0)) 0) : V MX2_keptBound h 0 L st S Q :=
  v_aload_n dX2_keptBound_0 rfl (fun L st S k => v_get dX2_keptBound_1 rfl iX2 LY_2 rfl (by decide) rfl fl_X2_58 (fun L st S k => v_aload_n dX2_keptBound_4 rfl (fun L st S k => v_get dX2_keptBound_5 rfl iX2 LY_2 rfl (by decide) rfl fl_X2_62 (fun L st S k => v_lcmp dX2_keptBound_8 (fun L st S k => w_if_gt dX2_keptBound_9 (by decide) rfl k) k) k) k) k) k
theorem b_X2_keptBound_12 {h : Nat} {L : LVs} {st : List AV} {S : ST} {Q : Option AV → ST → Prop} (k : o_c L st S (fun L st S => V MX2_keptBound h 17 L st S Q) (nI 1)) : V MX2_keptBound h 12 L st S Q :=
  v_iconst dX2_keptBound_12 (by decide) (fun L st S k => v_goto dX2_keptBound_13 (by decide) k) k
theorem b_X2_keptBound_16 {h : Nat} {L : LVs} {st : List AV} {S : ST} {Q : Option AV → ST → Prop} (k : o_c L st S (fun L st S => V MX2_keptBound h 17 L st S Q) (nI 0)) : V MX2_keptBound h 16 L st S Q :=
  v_iconst dX2_keptBound_16 (by decide) (fun L st S k => k) k
theorem b_X2_keptBound_17 {h : Nat} {L : LVs} {st : List AV} {S : ST} {Q : Option AV → ST → Prop} (k : t_zr st S Q) : V MX2_keptBound h 17 L st S Q :=
  w_zr dX2_keptBound_17 rfl k
-- QueryForge$Machine.knewAll()Z
theorem dX2_knewAll_0 : decode cX2_knewAll 0 = .ok (.aload_n 0, 1) := by decide +kernel
theorem dX2_knewAll_1 : decode cX2_knewAll 1 = .ok (.getfield 54, 3) := by decide +kernel
theorem dX2_knewAll_4 : decode cX2_knewAll 4 = .ok (.ireturn, 1) := by decide +kernel
theorem b_X2_knewAll_0 {h : Nat} {L : LVs} {st : List AV} {S : ST} {Q : Option AV → ST → Prop} (k : o_al L st S (fun L st S => o_get L st S (fun L st S => t_zr st S Q) 2 16 (2, 0, 0)) 0) : V MX2_knewAll h 0 L st S Q :=
  v_aload_n dX2_knewAll_0 rfl (fun L st S k => v_get dX2_knewAll_1 rfl iX2 LY_2 rfl (by decide) rfl fl_X2_54 (fun L st S k => w_zr dX2_knewAll_4 rfl k) k) k
-- QueryForge$Machine.run(I)I
theorem dX2_run_0 : decode cX2_run 0 = .ok (.aload_n 0, 1) := by decide +kernel
theorem dX2_run_1 : decode cX2_run 1 = .ok (.getfield 38, 3) := by decide +kernel
theorem dX2_run_4 : decode cX2_run 4 = .ok (.invokevirtual 65, 3) := by decide +kernel
theorem dX2_run_7 : decode cX2_run 7 = .ok (.aload_n 0, 1) := by decide +kernel
theorem dX2_run_8 : decode cX2_run 8 = .ok (.iconst 0, 1) := by decide +kernel
theorem dX2_run_9 : decode cX2_run 9 = .ok (.putfield 68, 3) := by decide +kernel
theorem dX2_run_12 : decode cX2_run 12 = .ok (.aload_n 0, 1) := by decide +kernel
theorem dX2_run_13 : decode cX2_run 13 = .ok (.iconst 0, 1) := by decide +kernel
theorem dX2_run_14 : decode cX2_run 14 = .ok (.putfield 72, 3) := by decide +kernel
theorem dX2_run_17 : decode cX2_run 17 = .ok (.aload_n 0, 1) := by decide +kernel
theorem dX2_run_18 : decode cX2_run 18 = .ok (.iconst 0, 1) := by decide +kernel
theorem dX2_run_19 : decode cX2_run 19 = .ok (.putfield 75, 3) := by decide +kernel
theorem dX2_run_22 : decode cX2_run 22 = .ok (.aload_n 0, 1) := by decide +kernel
theorem dX2_run_23 : decode cX2_run 23 = .ok (.iconst 0, 1) := by decide +kernel
theorem dX2_run_24 : decode cX2_run 24 = .ok (.putfield 78, 3) := by decide +kernel
theorem dX2_run_27 : decode cX2_run 27 = .ok (.aload_n 0, 1) := by decide +kernel
theorem dX2_run_28 : decode cX2_run 28 = .ok (.lconst 0, 1) := by decide +kernel
theorem dX2_run_29 : decode cX2_run 29 = .ok (.putfield 58, 3) := by decide +kernel
theorem dX2_run_32 : decode cX2_run 32 = .ok (.aload_n 0, 1) := by decide +kernel
theorem dX2_run_33 : decode cX2_run 33 = .ok (.lconst 0, 1) := by decide +kernel
theorem dX2_run_34 : decode cX2_run 34 = .ok (.putfield 81, 3) := by decide +kernel
theorem dX2_run_37 : decode cX2_run 37 = .ok (.aload_n 0, 1) := by decide +kernel
theorem dX2_run_38 : decode cX2_run 38 = .ok (.iconst 1, 1) := by decide +kernel
theorem dX2_run_39 : decode cX2_run 39 = .ok (.putfield 54, 3) := by decide +kernel
theorem dX2_run_42 : decode cX2_run 42 = .ok (.aload_n 0, 1) := by decide +kernel
theorem dX2_run_43 : decode cX2_run 43 = .ok (.iconst 1, 1) := by decide +kernel
theorem dX2_run_44 : decode cX2_run 44 = .ok (.putfield 84, 3) := by decide +kernel
theorem dX2_run_47 : decode cX2_run 47 = .ok (.iconst 0, 1) := by decide +kernel
theorem dX2_run_48 : decode cX2_run 48 = .ok (.istore_n 2, 1) := by decide +kernel
theorem dX2_run_49 : decode cX2_run 49 = .ok (.iload_n 2, 1) := by decide +kernel
theorem dX2_run_50 : decode cX2_run 50 = .ok (.ldc 87, 2) := by decide +kernel
theorem dX2_run_52 : decode cX2_run 52 = .ok (.if_icmp .ge 61, 3) := by decide +kernel
theorem dX2_run_55 : decode cX2_run 55 = .ok (.aload_n 0, 1) := by decide +kernel
theorem dX2_run_56 : decode cX2_run 56 = .ok (.getfield 84, 3) := by decide +kernel
theorem dX2_run_59 : decode cX2_run 59 = .ok (.ifCond .eq 54, 3) := by decide +kernel
theorem dX2_run_62 : decode cX2_run 62 = .ok (.aload_n 0, 1) := by decide +kernel
theorem dX2_run_63 : decode cX2_run 63 = .ok (.getfield 75, 3) := by decide +kernel
theorem dX2_run_66 : decode cX2_run 66 = .ok (.istore_n 3, 1) := by decide +kernel
theorem dX2_run_67 : decode cX2_run 67 = .ok (.aload_n 0, 1) := by decide +kernel
theorem dX2_run_68 : decode cX2_run 68 = .ok (.dup, 1) := by decide +kernel
theorem dX2_run_69 : decode cX2_run 69 = .ok (.getfield 75, 3) := by decide +kernel
theorem dX2_run_72 : decode cX2_run 72 = .ok (.iconst 1, 1) := by decide +kernel
theorem dX2_run_73 : decode cX2_run 73 = .ok (.iadd, 1) := by decide +kernel
theorem dX2_run_74 : decode cX2_run 74 = .ok (.putfield 75, 3) := by decide +kernel
theorem dX2_run_77 : decode cX2_run 77 = .ok (.aload_n 0, 1) := by decide +kernel
theorem dX2_run_78 : decode cX2_run 78 = .ok (.dup, 1) := by decide +kernel
theorem dX2_run_79 : decode cX2_run 79 = .ok (.getfield 58, 3) := by decide +kernel
theorem dX2_run_82 : decode cX2_run 82 = .ok (.lconst 1, 1) := by decide +kernel
theorem dX2_run_83 : decode cX2_run 83 = .ok (.ladd, 1) := by decide +kernel
theorem dX2_run_84 : decode cX2_run 84 = .ok (.putfield 58, 3) := by decide +kernel
theorem dX2_run_87 : decode cX2_run 87 = .ok (.aload_n 0, 1) := by decide +kernel
theorem dX2_run_88 : decode cX2_run 88 = .ok (.aload_n 0, 1) := by decide +kernel
theorem dX2_run_89 : decode cX2_run 89 = .ok (.getfield 9, 3) := by decide +kernel
theorem dX2_run_92 : decode cX2_run 92 = .ok (.iload_n 3, 1) := by decide +kernel
theorem dX2_run_93 : decode cX2_run 93 = .ok (.invokevirtual 88, 3) := by decide +kernel
theorem dX2_run_96 : decode cX2_run 96 = .ok (.aload_n 0, 1) := by decide +kernel
theorem dX2_run_97 : decode cX2_run 97 = .ok (.getfield 9, 3) := by decide +kernel
theorem dX2_run_100 : decode cX2_run 100 = .ok (.iload_n 3, 1) := by decide +kernel
theorem dX2_run_101 : decode cX2_run 101 = .ok (.invokevirtual 94, 3) := by decide +kernel
theorem dX2_run_104 : decode cX2_run 104 = .ok (.invokevirtual 97, 3) := by decide +kernel
theorem dX2_run_107 : decode cX2_run 107 = .ok (.iinc 2 1, 3) := by decide +kernel
theorem dX2_run_110 : decode cX2_run 110 = .ok (.goto (-61), 3) := by decide +kernel
theorem dX2_run_113 : decode cX2_run 113 = .ok (.aload_n 0, 1) := by decide +kernel
theorem dX2_run_114 : decode cX2_run 114 = .ok (.ldc2_w 101, 3) := by decide +kernel
theorem dX2_run_117 : decode cX2_run 117 = .ok (.iload_n 1, 1) := by decide +kernel
theorem dX2_run_118 : decode cX2_run 118 = .ok (.i2l, 1) := by decide +kernel
theorem dX2_run_119 : decode cX2_run 119 = .ok (.lmul, 1) := by decide +kernel
theorem dX2_run_120 : decode cX2_run 120 = .ok (.aload_n 0, 1) := by decide +kernel
theorem dX2_run_121 : decode cX2_run 121 = .ok (.getfield 81, 3) := by decide +kernel
theorem dX2_run_124 : decode cX2_run 124 = .ok (.lconst 1, 1) := by decide +kernel
theorem dX2_run_125 : decode cX2_run 125 = .ok (.ladd, 1) := by decide +kernel
theorem dX2_run_126 : decode cX2_run 126 = .ok (.lmul, 1) := by decide +kernel
theorem dX2_run_127 : decode cX2_run 127 = .ok (.putfield 62, 3) := by decide +kernel
theorem dX2_run_130 : decode cX2_run 130 = .ok (.aload_n 0, 1) := by decide +kernel
theorem dX2_run_131 : decode cX2_run 131 = .ok (.getfield 78, 3) := by decide +kernel
theorem dX2_run_134 : decode cX2_run 134 = .ok (.ireturn, 1) := by decide +kernel
theorem b_X2_run_0 {h : Nat} {L : LVs} {st : List AV} {S : ST} {Q : Option AV → ST → Prop} (k : o_al L st S (fun L st S => o_get L st S (fun L st S => V MX2_run h 4 L st S Q) 2 6 (5, 5, 0)) 0) : V MX2_run h 0 L st S Q :=
  v_aload_n dX2_run_0 rfl (fun L st S k => v_get dX2_run_1 rfl iX2 LY_2 rfl (by decide) rfl fl_X2_38 (fun L st S k => k) k) k
theorem k_X2_run_4 {h : Nat} {L : LVs} {st : List AV} {S : ST} {Q Q' : Option AV → ST → Prop} {j : Nat} (hC : Ct MX5_clear h [vR 5 j] S Q') (k : ∀ (r : Option AV) (S' : ST), Q' r S' → V MX2_run (h + 1) 7 L (r.toList ++ st) S' Q) (hj : j < NI 5) (hw : wid st ≤ 8) : V MX2_run (h + 1) 4 L (vR 5 j :: st) S Q :=
  v_callV (M' := MX5_clear) (c := 5) (As := []) dX2_run_4 ml_X2_65 im_X5_clear se_X5_clear in_X5 cd_X5_clear rfl LY_5 np_X5_clear (by decide) hw hj hC k
theorem b_X2_run_7 {h : Nat} {L : LVs} {st : List AV} {S : ST} {Q : Option AV → ST → Prop} (k : o_al L st S (fun L st S => o_c L st S (fun L st S => o_puti L st S (fun L st S => o_al L st S (fun L st S => o_c L st S (fun L st S => o_puti L st S (fun L st S => o_al L st S (fun L st S => o_c L st S (fun L st S => o_puti L st S (fun L st S => o_al L st S (fun L st S => o_c L st S (fun L st S => o_puti L st S (fun L st S => o_al L st S (fun L st S => o_lc L st S (fun L st S => o_putl L st S (fun L st S => o_al L st S (fun L st S => o_lc L st S (fun L st S => o_putl L st S (fun L st S => o_al L st S (fun L st S => o_c L st S (fun L st S => o_putz L st S (fun L st S => o_al L st S (fun L st S => o_c L st S (fun L st S => o_putz L st S (fun L st S => o_c L st S (fun L st S => o_is L st S (fun L st S => V MX2_run h 49 L st S Q) 2) (nI 0)) 2 15) (nI 1)) 0) 2 16) (nI 1)) 0) 2 18) (lN 0)) 0) 2 17) (lN 0)) 0) 2 14) (nI 0)) 0) 2 13) (nI 0)) 0) 2 12) (nI 0)) 0) 2 11) (nI 0)) 0) : V MX2_run h 7 L st S Q :=
  v_aload_n dX2_run_7 rfl (fun L st S k => v_iconst dX2_run_8 (by decide) (fun L st S k => v_puti dX2_run_9 rfl iX2 tyX2_ok nmX2 LY_2 rfl (by decide) rfl fl_X2_68 rfl rfl (fun L st S k => v_aload_n dX2_run_12 rfl (fun L st S k => v_iconst dX2_run_13 (by decide) (fun L st S k => v_puti dX2_run_14 rfl iX2 tyX2_ok nmX2 LY_2 rfl (by decide) rfl fl_X2_72 rfl rfl (fun L st S k => v_aload_n dX2_run_17 rfl (fun L st S k => v_iconst dX2_run_18 (by decide) (fun L st S k => v_puti dX2_run_19 rfl iX2 tyX2_ok nmX2 LY_2 rfl (by decide) rfl fl_X2_75 rfl rfl (fun L st S k => v_aload_n dX2_run_22 rfl (fun L st S k => v_iconst dX2_run_23 (by decide) (fun L st S k => v_puti dX2_run_24 rfl iX2 tyX2_ok nmX2 LY_2 rfl (by decide) rfl fl_X2_78 rfl rfl (fun L st S k => v_aload_n dX2_run_27 rfl (fun L st S k => v_lconst dX2_run_28 (by decide) (fun L st S k => v_putl dX2_run_29 rfl iX2 tyX2_ok nmX2 LY_2 rfl (by decide) rfl fl_X2_58 rfl rfl (fun L st S k => v_aload_n dX2_run_32 rfl (fun L st S k => v_lconst dX2_run_33 (by decide) (fun L st S k => v_putl dX2_run_34 rfl iX2 tyX2_ok nmX2 LY_2 rfl (by decide) rfl fl_X2_81 rfl rfl (fun L st S k => v_aload_n dX2_run_37 rfl (fun L st S k => v_iconst dX2_run_38 (by decide) (fun L st S k => v_putz dX2_run_39 rfl iX2 tyX2_ok nmX2 LY_2 rfl (by decide) rfl fl_X2_54 rfl rfl (fun L st S k => v_aload_n dX2_run_42 rfl (fun L st S k => v_iconst dX2_run_43 (by decide) (fun L st S k => v_putz dX2_run_44 rfl iX2 tyX2_ok nmX2 LY_2 rfl (by decide) rfl fl_X2_84 rfl rfl (fun L st S k => v_iconst dX2_run_47 (by decide) (fun L st S k => v_istore_n dX2_run_48 rfl (by decide) (fun L st S k => k) k) k) k) k) k) k) k) k) k) k) k) k) k) k) k) k) k) k) k) k) k) k) k) k) k) k
theorem b_X2_run_49 {h : Nat} {L : LVs} {st : List AV} {S : ST} {Q : Option AV → ST → Prop} (k : o_il L st S (fun L st S => o_c L st S (fun L st S => t_2 L st S (fun x y => y ≤ x) (fun L st S => V MX2_run h 113 L st S Q) (fun L st S => V MX2_run h 55 L st S Q)) (nI 1000000)) 2) : V MX2_run h 49 L st S Q :=
  v_iload_n dX2_run_49 rfl (fun L st S k => v_ldc dX2_run_50 ki_X2_87 (fun L st S k => w_icmp_ge dX2_run_52 (by decide) rfl k) k) k
theorem b_X2_run_55 {h : Nat} {L : LVs} {st : List AV} {S : ST} {Q : Option AV → ST → Prop} (k : o_al L st S (fun L st S => o_get L st S (fun L st S => t_1 L st S (fun x => x = nI 0) (fun L st S => V MX2_run h 113 L st S Q) (fun L st S => V MX2_run h 62 L st S Q)) 2 15 (2, 0, 0)) 0) : V MX2_run h 55 L st S Q :=
  v_aload_n dX2_run_55 rfl (fun L st S k => v_get dX2_run_56 rfl iX2 LY_2 rfl (by decide) rfl fl_X2_84 (fun L st S k => w_if_eq dX2_run_59 (by decide) rfl k) k) k
theorem b_X2_run_62 {h : Nat} {L : LVs} {st : List AV} {S : ST} {Q : Option AV → ST → Prop} (k : o_al L st S (fun L st S => o_get L st S (fun L st S => o_is L st S (fun L st S => o_al L st S (fun L st S => o_dup L st S (fun L st S => o_get L st S (fun L st S => o_c L st S (fun L st S => o_iadd L st S (fun L st S => o_puti L st S (fun L st S => o_al L st S (fun L st S => o_dup L st S (fun L st S => o_get L st S (fun L st S => o_lc L st S (fun L st S => o_ladd L st S (fun L st S => o_putl L st S (fun L st S => o_al L st S (fun L st S => o_al L st S (fun L st S => o_get L st S (fun L st S => o_il L st S (fun L st S => V MX2_run h 93 L st S Q) 3) 2 0 (4, 1, 1)) 0) 0) 2 17)) (lN 1)) 2 17 (1, 0, 0))) 0) 2 13)) (nI 1)) 2 13 (0, 0, 0))) 0) 3) 2 13 (0, 0, 0)) 0) : V MX2_run h 62 L st S Q :=
  v_aload_n dX2_run_62 rfl (fun L st S k => v_get dX2_run_63 rfl iX2 LY_2 rfl (by decide) rfl fl_X2_75 (fun L st S k => v_istore_n dX2_run_66 rfl (by decide) (fun L st S k => v_aload_n dX2_run_67 rfl (fun L st S k => v_dup dX2_run_68 (fun L st S k => v_get dX2_run_69 rfl iX2 LY_2 rfl (by decide) rfl fl_X2_75 (fun L st S k => v_iconst dX2_run_72 (by decide) (fun L st S k => v_iadd dX2_run_73 (fun L st S k => v_puti dX2_run_74 rfl iX2 tyX2_ok nmX2 LY_2 rfl (by decide) rfl fl_X2_75 rfl rfl (fun L st S k => v_aload_n dX2_run_77 rfl (fun L st S k => v_dup dX2_run_78 (fun L st S k => v_get dX2_run_79 rfl iX2 LY_2 rfl (by decide) rfl fl_X2_58 (fun L st S k => v_lconst dX2_run_82 (by decide) (fun L st S k => v_ladd dX2_run_83 (fun L st S k => v_putl dX2_run_84 rfl iX2 tyX2_ok nmX2 LY_2 rfl (by decide) rfl fl_X2_58 rfl rfl (fun L st S k => v_aload_n dX2_run_87 rfl (fun L st S k => v_aload_n dX2_run_88 rfl (fun L st S k => v_get dX2_run_89 rfl iX2 LY_2 rfl (by decide) rfl fl_X2_9 (fun L st S k => v_iload_n dX2_run_92 rfl (fun L st S k => k) k) k) k) k) k) k) k) k) k) k) k) k) k) k) k) k) k) k) k
theorem k_X2_run_93 {h : Nat} {L : LVs} {st : List AV} {S : ST} {Q Q' : Option AV → ST → Prop} {j : Nat} {a0 : AV} (hC : Ct MX1_operationAt h [vR 1 j, a0] S Q') (k : ∀ (r : Option AV) (S' : ST), Q' r S' → V MX2_run (h + 1) 96 L (r.toList ++ st) S' Q) (hj : j < NI 1) (hw : wid st ≤ 8) : V MX2_run (h + 1) 93 L (a0 :: vR 1 j :: st) S Q :=
  v_callV (M' := MX1_operationAt) (c := 1) (As := [a0]) dX2_run_93 ml_X2_88 im_X1_operationAt se_X1_operationAt in_X1 cd_X1_operationAt rfl LY_1 np_X1_operationAt (by decide) hw hj hC k
theorem b_X2_run_96 {h : Nat} {L : LVs} {st : List AV} {S : ST} {Q : Option AV → ST → Prop} (k : o_al L st S (fun L st S => o_get L st S (fun L st S => o_il L st S (fun L st S => V MX2_run h 101 L st S Q) 3) 2 0 (4, 1, 1)) 0) : V MX2_run h 96 L st S Q :=
  v_aload_n dX2_run_96 rfl (fun L st S k => v_get dX2_run_97 rfl iX2 LY_2 rfl (by decide) rfl fl_X2_9 (fun L st S k => v_iload_n dX2_run_100 rfl (fun L st S k => k) k) k) k
theorem k_X2_run_101 {h : Nat} {L : LVs} {st : List AV} {S : ST} {Q Q' : Option AV → ST → Prop} {j : Nat} {a0 : AV} (hC : Ct MX1_argumentAt h [vR 1 j, a0] S Q') (k : ∀ (r : Option AV) (S' : ST), Q' r S' → V MX2_run (h + 1) 104 L (r.toList ++ st) S' Q) (hj : j < NI 1) (hw : wid st ≤ 8) : V MX2_run (h + 1) 101 L (a0 :: vR 1 j :: st) S Q :=
  v_callV (M' := MX1_argumentAt) (c := 1) (As := [a0]) dX2_run_101 ml_X2_94 im_X1_argumentAt se_X1_argumentAt in_X1 cd_X1_argumentAt rfl LY_1 np_X1_argumentAt (by decide) hw hj hC k
theorem k_X2_run_104 {h : Nat} {L : LVs} {st : List AV} {S : ST} {Q Q' : Option AV → ST → Prop} {j : Nat} {a0 a1 : AV} (hC : Ct MX2_step h [vR 2 j, a0, a1] S Q') (k : ∀ (r : Option AV) (S' : ST), Q' r S' → V MX2_run (h + 1) 107 L (r.toList ++ st) S' Q) (hj : j < NI 2) (hw : wid st ≤ 8) : V MX2_run (h + 1) 104 L (a1 :: a0 :: vR 2 j :: st) S Q :=
  v_callV (M' := MX2_step) (c := 2) (As := [a0, a1]) dX2_run_104 ml_X2_97 im_X2_step se_X2_step in_X2 cd_X2_step rfl LY_2 np_X2_step (by decide) hw hj hC k
theorem b_X2_run_107 {h : Nat} {L : LVs} {st : List AV} {S : ST} {Q : Option AV → ST → Prop} (k : o_inc L st S (fun L st S => V MX2_run h 49 L st S Q) 2 (nI 1)) : V MX2_run h 107 L st S Q :=
  v_iinc dX2_run_107 (by decide) (by decide) (fun L st S k => v_goto dX2_run_110 (by decide) k) k
theorem b_X2_run_113 {h : Nat} {L : LVs} {st : List AV} {S : ST} {Q : Option AV → ST → Prop} (k : o_al L st S (fun L st S => o_lc L st S (fun L st S => o_il L st S (fun L st S => o_i2l L st S (fun L st S => o_lmul L st S (fun L st S => o_al L st S (fun L st S => o_get L st S (fun L st S => o_lc L st S (fun L st S => o_ladd L st S (fun L st S => o_lmul L st S (fun L st S => o_putl L st S (fun L st S => o_al L st S (fun L st S => o_get L st S (fun L st S => t_ir st S Q) 2 14 (0, 0, 0)) 0) 2 19))) (lN 1)) 2 18 (1, 0, 0)) 0))) 1) (lN 400)) 0) : V MX2_run h 113 L st S Q :=
  v_aload_n dX2_run_113 rfl (fun L st S k => v_ldc2 dX2_run_114 kl_X2_101 (fun L st S k => v_iload_n dX2_run_117 rfl (fun L st S k => v_i2l dX2_run_118 (fun L st S k => v_lmul dX2_run_119 (fun L st S k => v_aload_n dX2_run_120 rfl (fun L st S k => v_get dX2_run_121 rfl iX2 LY_2 rfl (by decide) rfl fl_X2_81 (fun L st S k => v_lconst dX2_run_124 (by decide) (fun L st S k => v_ladd dX2_run_125 (fun L st S k => v_lmul dX2_run_126 (fun L st S k => v_putl dX2_run_127 rfl iX2 tyX2_ok nmX2 LY_2 rfl (by decide) rfl fl_X2_62 rfl rfl (fun L st S k => v_aload_n dX2_run_130 rfl (fun L st S k => v_get dX2_run_131 rfl iX2 LY_2 rfl (by decide) rfl fl_X2_78 (fun L st S k => w_ir dX2_run_134 rfl k) k) k) k) k) k) k) k) k) k) k) k) k) k
-- QueryForge$Machine.step(II)V
theorem dX2_step_0 : decode cX2_step 0 = .ok (.iload_n 1, 1) := by decide +kernel
theorem dX2_step_1 : decode cX2_step 1 = .ok (.iconst 1, 1) := by decide +kernel
theorem dX2_step_2 : decode cX2_step 2 = .ok (.if_icmp .lt 9, 3) := by decide +kernel
theorem dX2_step_5 : decode cX2_step 5 = .ok (.iload_n 1, 1) := by decide +kernel
theorem dX2_step_6 : decode cX2_step 6 = .ok (.bipush 49, 2) := by decide +kernel
theorem dX2_step_8 : decode cX2_step 8 = .ok (.if_icmp .le 16, 3) := by decide +kernel
theorem dX2_step_11 : decode cX2_step 11 = .ok (.aload_n 0, 1) := by decide +kernel
theorem dX2_step_12 : decode cX2_step 12 = .ok (.iconst 0, 1) := by decide +kernel
theorem dX2_step_13 : decode cX2_step 13 = .ok (.putfield 54, 3) := by decide +kernel
theorem dX2_step_16 : decode cX2_step 16 = .ok (.aload_n 0, 1) := by decide +kernel
theorem dX2_step_17 : decode cX2_step 17 = .ok (.iconst 0, 1) := by decide +kernel
theorem dX2_step_18 : decode cX2_step 18 = .ok (.putfield 84, 3) := by decide +kernel
theorem dX2_step_21 : decode cX2_step 21 = .ok (.goto 110, 3) := by decide +kernel
theorem dX2_step_24 : decode cX2_step 24 = .ok (.iload_n 1, 1) := by decide +kernel
theorem dX2_step_25 : decode cX2_step 25 = .ok (.iconst 5, 1) := by decide +kernel
theorem dX2_step_26 : decode cX2_step 26 = .ok (.if_icmp .gt 12, 3) := by decide +kernel
theorem dX2_step_29 : decode cX2_step 29 = .ok (.aload_n 0, 1) := by decide +kernel
theorem dX2_step_30 : decode cX2_step 30 = .ok (.iload_n 1, 1) := by decide +kernel
theorem dX2_step_31 : decode cX2_step 31 = .ok (.iload_n 2, 1) := by decide +kernel
theorem dX2_step_32 : decode cX2_step 32 = .ok (.invokevirtual 103, 3) := by decide +kernel
theorem dX2_step_35 : decode cX2_step 35 = .ok (.goto 96, 3) := by decide +kernel
theorem dX2_step_38 : decode cX2_step 38 = .ok (.iload_n 1, 1) := by decide +kernel
theorem dX2_step_39 : decode cX2_step 39 = .ok (.bipush 10, 2) := by decide +kernel
theorem dX2_step_41 : decode cX2_step 41 = .ok (.if_icmp .gt 11, 3) := by decide +kernel
theorem dX2_step_44 : decode cX2_step 44 = .ok (.aload_n 0, 1) := by decide +kernel
theorem dX2_step_45 : decode cX2_step 45 = .ok (.iload_n 1, 1) := by decide +kernel
theorem dX2_step_46 : decode cX2_step 46 = .ok (.invokevirtual 106, 3) := by decide +kernel
theorem dX2_step_49 : decode cX2_step 49 = .ok (.goto 82, 3) := by decide +kernel
theorem dX2_step_52 : decode cX2_step 52 = .ok (.iload_n 1, 1) := by decide +kernel
theorem dX2_step_53 : decode cX2_step 53 = .ok (.bipush 16, 2) := by decide +kernel
theorem dX2_step_55 : decode cX2_step 55 = .ok (.if_icmp .gt 11, 3) := by decide +kernel
theorem dX2_step_58 : decode cX2_step 58 = .ok (.aload_n 0, 1) := by decide +kernel
theorem dX2_step_59 : decode cX2_step 59 = .ok (.iload_n 1, 1) := by decide +kernel
theorem dX2_step_60 : decode cX2_step 60 = .ok (.invokevirtual 110, 3) := by decide +kernel
theorem dX2_step_63 : decode cX2_step 63 = .ok (.goto 68, 3) := by decide +kernel
theorem dX2_step_66 : decode cX2_step 66 = .ok (.iload_n 1, 1) := by decide +kernel
theorem dX2_step_67 : decode cX2_step 67 = .ok (.bipush 20, 2) := by decide +kernel
theorem dX2_step_69 : decode cX2_step 69 = .ok (.if_icmp .gt 11, 3) := by decide +kernel
theorem dX2_step_72 : decode cX2_step 72 = .ok (.aload_n 0, 1) := by decide +kernel
theorem dX2_step_73 : decode cX2_step 73 = .ok (.iload_n 1, 1) := by decide +kernel
theorem dX2_step_74 : decode cX2_step 74 = .ok (.invokevirtual 113, 3) := by decide +kernel
theorem dX2_step_77 : decode cX2_step 77 = .ok (.goto 54, 3) := by decide +kernel
theorem dX2_step_80 : decode cX2_step 80 = .ok (.iload_n 1, 1) := by decide +kernel
theorem dX2_step_81 : decode cX2_step 81 = .ok (.bipush 27, 2) := by decide +kernel
theorem dX2_step_83 : decode cX2_step 83 = .ok (.if_icmp .gt 12, 3) := by decide +kernel
theorem dX2_step_86 : decode cX2_step 86 = .ok (.aload_n 0, 1) := by decide +kernel
theorem dX2_step_87 : decode cX2_step 87 = .ok (.iload_n 1, 1) := by decide +kernel
theorem dX2_step_88 : decode cX2_step 88 = .ok (.iload_n 2, 1) := by decide +kernel
theorem dX2_step_89 : decode cX2_step 89 = .ok (.invokevirtual 116, 3) := by decide +kernel
theorem dX2_step_92 : decode cX2_step 92 = .ok (.goto 39, 3) := by decide +kernel
theorem dX2_step_95 : decode cX2_step 95 = .ok (.iload_n 1, 1) := by decide +kernel
theorem dX2_step_96 : decode cX2_step 96 = .ok (.bipush 35, 2) := by decide +kernel
theorem dX2_step_98 : decode cX2_step 98 = .ok (.if_icmp .gt 12, 3) := by decide +kernel
theorem dX2_step_101 : decode cX2_step 101 = .ok (.aload_n 0, 1) := by decide +kernel
theorem dX2_step_102 : decode cX2_step 102 = .ok (.iload_n 1, 1) := by decide +kernel
theorem dX2_step_103 : decode cX2_step 103 = .ok (.iload_n 2, 1) := by decide +kernel
theorem dX2_step_104 : decode cX2_step 104 = .ok (.invokevirtual 119, 3) := by decide +kernel
theorem dX2_step_107 : decode cX2_step 107 = .ok (.goto 24, 3) := by decide +kernel
theorem dX2_step_110 : decode cX2_step 110 = .ok (.iload_n 1, 1) := by decide +kernel
theorem dX2_step_111 : decode cX2_step 111 = .ok (.bipush 40, 2) := by decide +kernel
theorem dX2_step_113 : decode cX2_step 113 = .ok (.if_icmp .gt 12, 3) := by decide +kernel
theorem dX2_step_116 : decode cX2_step 116 = .ok (.aload_n 0, 1) := by decide +kernel
theorem dX2_step_117 : decode cX2_step 117 = .ok (.iload_n 1, 1) := by decide +kernel
theorem dX2_step_118 : decode cX2_step 118 = .ok (.iload_n 2, 1) := by decide +kernel
theorem dX2_step_119 : decode cX2_step 119 = .ok (.invokevirtual 122, 3) := by decide +kernel
theorem dX2_step_122 : decode cX2_step 122 = .ok (.goto 9, 3) := by decide +kernel
theorem dX2_step_125 : decode cX2_step 125 = .ok (.aload_n 0, 1) := by decide +kernel
theorem dX2_step_126 : decode cX2_step 126 = .ok (.iload_n 1, 1) := by decide +kernel
theorem dX2_step_127 : decode cX2_step 127 = .ok (.iload_n 2, 1) := by decide +kernel
theorem dX2_step_128 : decode cX2_step 128 = .ok (.invokevirtual 125, 3) := by decide +kernel
theorem dX2_step_131 : decode cX2_step 131 = .ok (.return_, 1) := by decide +kernel
theorem b_X2_step_0 {h : Nat} {L : LVs} {st : List AV} {S : ST} {Q : Option AV → ST → Prop} (k : o_il L st S (fun L st S => o_c L st S (fun L st S => t_2 L st S (fun x y => x < y) (fun L st S => V MX2_step h 11 L st S Q) (fun L st S => V MX2_step h 5 L st S Q)) (nI 1)) 1) : V MX2_step h 0 L st S Q :=
  v_iload_n dX2_step_0 rfl (fun L st S k => v_iconst dX2_step_1 (by decide) (fun L st S k => w_icmp_lt dX2_step_2 (by decide) rfl k) k) k
theorem b_X2_step_5 {h : Nat} {L : LVs} {st : List AV} {S : ST} {Q : Option AV → ST → Prop} (k : o_il L st S (fun L st S => o_c L st S (fun L st S => t_2 L st S (fun x y => x ≤ y) (fun L st S => V MX2_step h 24 L st S Q) (fun L st S => V MX2_step h 11 L st S Q)) (nI 49)) 1) : V MX2_step h 5 L st S Q :=
  v_iload_n dX2_step_5 rfl (fun L st S k => v_bipush dX2_step_6 (by decide) (fun L st S k => w_icmp_le dX2_step_8 (by decide) rfl k) k) k
theorem b_X2_step_11 {h : Nat} {L : LVs} {st : List AV} {S : ST} {Q : Option AV → ST → Prop} (k : o_al L st S (fun L st S => o_c L st S (fun L st S => o_putz L st S (fun L st S => o_al L st S (fun L st S => o_c L st S (fun L st S => o_putz L st S (fun L st S => V MX2_step h 131 L st S Q) 2 15) (nI 0)) 0) 2 16) (nI 0)) 0) : V MX2_step h 11 L st S Q :=
  v_aload_n dX2_step_11 rfl (fun L st S k => v_iconst dX2_step_12 (by decide) (fun L st S k => v_putz dX2_step_13 rfl iX2 tyX2_ok nmX2 LY_2 rfl (by decide) rfl fl_X2_54 rfl rfl (fun L st S k => v_aload_n dX2_step_16 rfl (fun L st S k => v_iconst dX2_step_17 (by decide) (fun L st S k => v_putz dX2_step_18 rfl iX2 tyX2_ok nmX2 LY_2 rfl (by decide) rfl fl_X2_84 rfl rfl (fun L st S k => v_goto dX2_step_21 (by decide) k) k) k) k) k) k) k
theorem b_X2_step_24 {h : Nat} {L : LVs} {st : List AV} {S : ST} {Q : Option AV → ST → Prop} (k : o_il L st S (fun L st S => o_c L st S (fun L st S => t_2 L st S (fun x y => y < x) (fun L st S => V MX2_step h 38 L st S Q) (fun L st S => V MX2_step h 29 L st S Q)) (nI 5)) 1) : V MX2_step h 24 L st S Q :=
  v_iload_n dX2_step_24 rfl (fun L st S k => v_iconst dX2_step_25 (by decide) (fun L st S k => w_icmp_gt dX2_step_26 (by decide) rfl k) k) k
theorem b_X2_step_29 {h : Nat} {L : LVs} {st : List AV} {S : ST} {Q : Option AV → ST → Prop} (k : o_al L st S (fun L st S => o_il L st S (fun L st S => o_il L st S (fun L st S => V MX2_step h 32 L st S Q) 2) 1) 0) : V MX2_step h 29 L st S Q :=
  v_aload_n dX2_step_29 rfl (fun L st S k => v_iload_n dX2_step_30 rfl (fun L st S k => v_iload_n dX2_step_31 rfl (fun L st S k => k) k) k) k
theorem k_X2_step_32 {h : Nat} {L : LVs} {st : List AV} {S : ST} {Q Q' : Option AV → ST → Prop} {j : Nat} {a0 a1 : AV} (hC : Ct MX2_bring h [vR 2 j, a0, a1] S Q') (k : ∀ (r : Option AV) (S' : ST), Q' r S' → V MX2_step (h + 1) 35 L (r.toList ++ st) S' Q) (hj : j < NI 2) (hw : wid st ≤ 8) : V MX2_step (h + 1) 32 L (a1 :: a0 :: vR 2 j :: st) S Q :=
  v_callV (M' := MX2_bring) (c := 2) (As := [a0, a1]) dX2_step_32 ml_X2_103 im_X2_bring se_X2_bring in_X2 cd_X2_bring rfl LY_2 np_X2_bring (by decide) hw hj hC k
theorem b_X2_step_35 {h : Nat} {L : LVs} {st : List AV} {S : ST} {Q : Option AV → ST → Prop} (k : V MX2_step h 131 L st S Q) : V MX2_step h 35 L st S Q :=
  v_goto dX2_step_35 (by decide) k
theorem b_X2_step_38 {h : Nat} {L : LVs} {st : List AV} {S : ST} {Q : Option AV → ST → Prop} (k : o_il L st S (fun L st S => o_c L st S (fun L st S => t_2 L st S (fun x y => y < x) (fun L st S => V MX2_step h 52 L st S Q) (fun L st S => V MX2_step h 44 L st S Q)) (nI 10)) 1) : V MX2_step h 38 L st S Q :=
  v_iload_n dX2_step_38 rfl (fun L st S k => v_bipush dX2_step_39 (by decide) (fun L st S k => w_icmp_gt dX2_step_41 (by decide) rfl k) k) k
theorem b_X2_step_44 {h : Nat} {L : LVs} {st : List AV} {S : ST} {Q : Option AV → ST → Prop} (k : o_al L st S (fun L st S => o_il L st S (fun L st S => V MX2_step h 46 L st S Q) 1) 0) : V MX2_step h 44 L st S Q :=
  v_aload_n dX2_step_44 rfl (fun L st S k => v_iload_n dX2_step_45 rfl (fun L st S k => k) k) k
theorem k_X2_step_46 {h : Nat} {L : LVs} {st : List AV} {S : ST} {Q Q' : Option AV → ST → Prop} {j : Nat} {a0 : AV} (hC : Ct MX2_calculate h [vR 2 j, a0] S Q') (k : ∀ (r : Option AV) (S' : ST), Q' r S' → V MX2_step (h + 1) 49 L (r.toList ++ st) S' Q) (hj : j < NI 2) (hw : wid st ≤ 8) : V MX2_step (h + 1) 46 L (a0 :: vR 2 j :: st) S Q :=
  v_callV (M' := MX2_calculate) (c := 2) (As := [a0]) dX2_step_46 ml_X2_106 im_X2_calculate se_X2_calculate in_X2 cd_X2_calculate rfl LY_2 np_X2_calculate (by decide) hw hj hC k
theorem b_X2_step_49 {h : Nat} {L : LVs} {st : List AV} {S : ST} {Q : Option AV → ST → Prop} (k : V MX2_step h 131 L st S Q) : V MX2_step h 49 L st S Q :=
  v_goto dX2_step_49 (by decide) k
theorem b_X2_step_52 {h : Nat} {L : LVs} {st : List AV} {S : ST} {Q : Option AV → ST → Prop} (k : o_il L st S (fun L st S => o_c L st S (fun L st S => t_2 L st S (fun x y => y < x) (fun L st S => V MX2_step h 66 L st S Q) (fun L st S => V MX2_step h 58 L st S Q)) (nI 16)) 1) : V MX2_step h 52 L st S Q :=
  v_iload_n dX2_step_52 rfl (fun L st S k => v_bipush dX2_step_53 (by decide) (fun L st S k => w_icmp_gt dX2_step_55 (by decide) rfl k) k) k
theorem b_X2_step_58 {h : Nat} {L : LVs} {st : List AV} {S : ST} {Q : Option AV → ST → Prop} (k : o_al L st S (fun L st S => o_il L st S (fun L st S => V MX2_step h 60 L st S Q) 1) 0) : V MX2_step h 58 L st S Q :=
  v_aload_n dX2_step_58 rfl (fun L st S k => v_iload_n dX2_step_59 rfl (fun L st S k => k) k) k
theorem k_X2_step_60 {h : Nat} {L : LVs} {st : List AV} {S : ST} {Q Q' : Option AV → ST → Prop} {j : Nat} {a0 : AV} (hC : Ct MX2_compare h [vR 2 j, a0] S Q') (k : ∀ (r : Option AV) (S' : ST), Q' r S' → V MX2_step (h + 1) 63 L (r.toList ++ st) S' Q) (hj : j < NI 2) (hw : wid st ≤ 8) : V MX2_step (h + 1) 60 L (a0 :: vR 2 j :: st) S Q :=
  v_callV (M' := MX2_compare) (c := 2) (As := [a0]) dX2_step_60 ml_X2_110 im_X2_compare se_X2_compare in_X2 cd_X2_compare rfl LY_2 np_X2_compare (by decide) hw hj hC k
theorem b_X2_step_63 {h : Nat} {L : LVs} {st : List AV} {S : ST} {Q : Option AV → ST → Prop} (k : V MX2_step h 131 L st S Q) : V MX2_step h 63 L st S Q :=
  v_goto dX2_step_63 (by decide) k
theorem b_X2_step_66 {h : Nat} {L : LVs} {st : List AV} {S : ST} {Q : Option AV → ST → Prop} (k : o_il L st S (fun L st S => o_c L st S (fun L st S => t_2 L st S (fun x y => y < x) (fun L st S => V MX2_step h 80 L st S Q) (fun L st S => V MX2_step h 72 L st S Q)) (nI 20)) 1) : V MX2_step h 66 L st S Q :=
  v_iload_n dX2_step_66 rfl (fun L st S k => v_bipush dX2_step_67 (by decide) (fun L st S k => w_icmp_gt dX2_step_69 (by decide) rfl k) k) k
theorem b_X2_step_72 {h : Nat} {L : LVs} {st : List AV} {S : ST} {Q : Option AV → ST → Prop} (k : o_al L st S (fun L st S => o_il L st S (fun L st S => V MX2_step h 74 L st S Q) 1) 0) : V MX2_step h 72 L st S Q :=
  v_aload_n dX2_step_72 rfl (fun L st S k => v_iload_n dX2_step_73 rfl (fun L st S k => k) k) k
theorem k_X2_step_74 {h : Nat} {L : LVs} {st : List AV} {S : ST} {Q Q' : Option AV → ST → Prop} {j : Nat} {a0 : AV} (hC : Ct MX2_judge h [vR 2 j, a0] S Q') (k : ∀ (r : Option AV) (S' : ST), Q' r S' → V MX2_step (h + 1) 77 L (r.toList ++ st) S' Q) (hj : j < NI 2) (hw : wid st ≤ 8) : V MX2_step (h + 1) 74 L (a0 :: vR 2 j :: st) S Q :=
  v_callV (M' := MX2_judge) (c := 2) (As := [a0]) dX2_step_74 ml_X2_113 im_X2_judge se_X2_judge in_X2 cd_X2_judge rfl LY_2 np_X2_judge (by decide) hw hj hC k
theorem b_X2_step_77 {h : Nat} {L : LVs} {st : List AV} {S : ST} {Q : Option AV → ST → Prop} (k : V MX2_step h 131 L st S Q) : V MX2_step h 77 L st S Q :=
  v_goto dX2_step_77 (by decide) k
theorem b_X2_step_80 {h : Nat} {L : LVs} {st : List AV} {S : ST} {Q : Option AV → ST → Prop} (k : o_il L st S (fun L st S => o_c L st S (fun L st S => t_2 L st S (fun x y => y < x) (fun L st S => V MX2_step h 95 L st S Q) (fun L st S => V MX2_step h 86 L st S Q)) (nI 27)) 1) : V MX2_step h 80 L st S Q :=
  v_iload_n dX2_step_80 rfl (fun L st S k => v_bipush dX2_step_81 (by decide) (fun L st S k => w_icmp_gt dX2_step_83 (by decide) rfl k) k) k
theorem b_X2_step_86 {h : Nat} {L : LVs} {st : List AV} {S : ST} {Q : Option AV → ST → Prop} (k : o_al L st S (fun L st S => o_il L st S (fun L st S => o_il L st S (fun L st S => V MX2_step h 89 L st S Q) 2) 1) 0) : V MX2_step h 86 L st S Q :=
  v_aload_n dX2_step_86 rfl (fun L st S k => v_iload_n dX2_step_87 rfl (fun L st S k => v_iload_n dX2_step_88 rfl (fun L st S k => k) k) k) k
theorem k_X2_step_89 {h : Nat} {L : LVs} {st : List AV} {S : ST} {Q Q' : Option AV → ST → Prop} {j : Nat} {a0 a1 : AV} (hC : Ct MX2_go h [vR 2 j, a0, a1] S Q') (k : ∀ (r : Option AV) (S' : ST), Q' r S' → V MX2_step (h + 1) 92 L (r.toList ++ st) S' Q) (hj : j < NI 2) (hw : wid st ≤ 8) : V MX2_step (h + 1) 89 L (a1 :: a0 :: vR 2 j :: st) S Q :=
  v_callV (M' := MX2_go) (c := 2) (As := [a0, a1]) dX2_step_89 ml_X2_116 im_X2_go se_X2_go in_X2 cd_X2_go rfl LY_2 np_X2_go (by decide) hw hj hC k
theorem b_X2_step_92 {h : Nat} {L : LVs} {st : List AV} {S : ST} {Q : Option AV → ST → Prop} (k : V MX2_step h 131 L st S Q) : V MX2_step h 92 L st S Q :=
  v_goto dX2_step_92 (by decide) k
theorem b_X2_step_95 {h : Nat} {L : LVs} {st : List AV} {S : ST} {Q : Option AV → ST → Prop} (k : o_il L st S (fun L st S => o_c L st S (fun L st S => t_2 L st S (fun x y => y < x) (fun L st S => V MX2_step h 110 L st S Q) (fun L st S => V MX2_step h 101 L st S Q)) (nI 35)) 1) : V MX2_step h 95 L st S Q :=
  v_iload_n dX2_step_95 rfl (fun L st S k => v_bipush dX2_step_96 (by decide) (fun L st S k => w_icmp_gt dX2_step_98 (by decide) rfl k) k) k
theorem b_X2_step_101 {h : Nat} {L : LVs} {st : List AV} {S : ST} {Q : Option AV → ST → Prop} (k : o_al L st S (fun L st S => o_il L st S (fun L st S => o_il L st S (fun L st S => V MX2_step h 104 L st S Q) 2) 1) 0) : V MX2_step h 101 L st S Q :=
  v_aload_n dX2_step_101 rfl (fun L st S k => v_iload_n dX2_step_102 rfl (fun L st S k => v_iload_n dX2_step_103 rfl (fun L st S k => k) k) k) k
theorem k_X2_step_104 {h : Nat} {L : LVs} {st : List AV} {S : ST} {Q Q' : Option AV → ST → Prop} {j : Nat} {a0 a1 : AV} (hC : Ct MX2_collect h [vR 2 j, a0, a1] S Q') (k : ∀ (r : Option AV) (S' : ST), Q' r S' → V MX2_step (h + 1) 107 L (r.toList ++ st) S' Q) (hj : j < NI 2) (hw : wid st ≤ 8) : V MX2_step (h + 1) 104 L (a1 :: a0 :: vR 2 j :: st) S Q :=
  v_callV (M' := MX2_collect) (c := 2) (As := [a0, a1]) dX2_step_104 ml_X2_119 im_X2_collect se_X2_collect in_X2 cd_X2_collect rfl LY_2 np_X2_collect (by decide) hw hj hC k
theorem b_X2_step_107 {h : Nat} {L : LVs} {st : List AV} {S : ST} {Q : Option AV → ST → Prop} (k : V MX2_step h 131 L st S Q) : V MX2_step h 107 L st S Q :=
  v_goto dX2_step_107 (by decide) k
theorem b_X2_step_110 {h : Nat} {L : LVs} {st : List AV} {S : ST} {Q : Option AV → ST → Prop} (k : o_il L st S (fun L st S => o_c L st S (fun L st S => t_2 L st S (fun x y => y < x) (fun L st S => V MX2_step h 125 L st S Q) (fun L st S => V MX2_step h 116 L st S Q)) (nI 40)) 1) : V MX2_step h 110 L st S Q :=
  v_iload_n dX2_step_110 rfl (fun L st S k => v_bipush dX2_step_111 (by decide) (fun L st S k => w_icmp_gt dX2_step_113 (by decide) rfl k) k) k
theorem b_X2_step_116 {h : Nat} {L : LVs} {st : List AV} {S : ST} {Q : Option AV → ST → Prop} (k : o_al L st S (fun L st S => o_il L st S (fun L st S => o_il L st S (fun L st S => V MX2_step h 119 L st S Q) 2) 1) 0) : V MX2_step h 116 L st S Q :=
  v_aload_n dX2_step_116 rfl (fun L st S k => v_iload_n dX2_step_117 rfl (fun L st S k => v_iload_n dX2_step_118 rfl (fun L st S k => k) k) k) k
theorem k_X2_step_119 {h : Nat} {L : LVs} {st : List AV} {S : ST} {Q Q' : Option AV → ST → Prop} {j : Nat} {a0 a1 : AV} (hC : Ct MX2_finishRows h [vR 2 j, a0, a1] S Q') (k : ∀ (r : Option AV) (S' : ST), Q' r S' → V MX2_step (h + 1) 122 L (r.toList ++ st) S' Q) (hj : j < NI 2) (hw : wid st ≤ 8) : V MX2_step (h + 1) 119 L (a1 :: a0 :: vR 2 j :: st) S Q :=
  v_callV (M' := MX2_finishRows) (c := 2) (As := [a0, a1]) dX2_step_119 ml_X2_122 im_X2_finishRows se_X2_finishRows in_X2 cd_X2_finishRows rfl LY_2 np_X2_finishRows (by decide) hw hj hC k
theorem b_X2_step_122 {h : Nat} {L : LVs} {st : List AV} {S : ST} {Q : Option AV → ST → Prop} (k : V MX2_step h 131 L st S Q) : V MX2_step h 122 L st S Q :=
  v_goto dX2_step_122 (by decide) k
theorem b_X2_step_125 {h : Nat} {L : LVs} {st : List AV} {S : ST} {Q : Option AV → ST → Prop} (k : o_al L st S (fun L st S => o_il L st S (fun L st S => o_il L st S (fun L st S => V MX2_step h 128 L st S Q) 2) 1) 0) : V MX2_step h 125 L st S Q :=
  v_aload_n dX2_step_125 rfl (fun L st S k => v_iload_n dX2_step_126 rfl (fun L st S k => v_iload_n dX2_step_127 rfl (fun L st S k => k) k) k) k
theorem k_X2_step_128 {h : Nat} {L : LVs} {st : List AV} {S : ST} {Q Q' : Option AV → ST → Prop} {j : Nat} {a0 a1 : AV} (hC : Ct MX2_changeTables h [vR 2 j, a0, a1] S Q') (k : ∀ (r : Option AV) (S' : ST), Q' r S' → V MX2_step (h + 1) 131 L (r.toList ++ st) S' Q) (hj : j < NI 2) (hw : wid st ≤ 8) : V MX2_step (h + 1) 128 L (a1 :: a0 :: vR 2 j :: st) S Q :=
  v_callV (M' := MX2_changeTables) (c := 2) (As := [a0, a1]) dX2_step_128 ml_X2_125 im_X2_changeTables se_X2_changeTables in_X2 cd_X2_changeTables rfl LY_2 np_X2_changeTables (by decide) hw hj hC k
theorem b_X2_step_131 {h : Nat} {L : LVs} {st : List AV} {S : ST} {Q : Option AV → ST → Prop} (k : t_vr st S Q) : V MX2_step h 131 L st S Q :=
  w_vr dX2_step_131 rfl k
-- QueryForge$Machine.bring(II)V
theorem dX2_bring_0 : decode cX2_bring 0 = .ok (.iload_n 1, 1) := by decide +kernel
theorem dX2_bring_1 : decode cX2_bring 1 = .ok (.tableswitch 98 3 5 #[27, 36, 67], 27) := by decide +kernel
theorem dX2_bring_28 : decode cX2_bring 28 = .ok (.aload_n 0, 1) := by decide +kernel
theorem dX2_bring_29 : decode cX2_bring 29 = .ok (.iconst 0, 1) := by decide +kernel
theorem dX2_bring_30 : decode cX2_bring 30 = .ok (.iconst 1, 1) := by decide +kernel
theorem dX2_bring_31 : decode cX2_bring 31 = .ok (.invokevirtual 128, 3) := by decide +kernel
theorem dX2_bring_34 : decode cX2_bring 34 = .ok (.goto 71, 3) := by decide +kernel
theorem dX2_bring_37 : decode cX2_bring 37 = .ok (.aload_n 0, 1) := by decide +kernel
theorem dX2_bring_38 : decode cX2_bring 38 = .ok (.aload_n 0, 1) := by decide +kernel
theorem dX2_bring_39 : decode cX2_bring 39 = .ok (.getfield 47, 3) := by decide +kernel
theorem dX2_bring_42 : decode cX2_bring 42 = .ok (.aload_n 0, 1) := by decide +kernel
theorem dX2_bring_43 : decode cX2_bring 43 = .ok (.getfield 132, 3) := by decide +kernel
theorem dX2_bring_46 : decode cX2_bring 46 = .ok (.iload_n 2, 1) := by decide +kernel
theorem dX2_bring_47 : decode cX2_bring 47 = .ok (.invokevirtual 135, 3) := by decide +kernel
theorem dX2_bring_50 : decode cX2_bring 50 = .ok (.aload_n 0, 1) := by decide +kernel
theorem dX2_bring_51 : decode cX2_bring 51 = .ok (.getfield 47, 3) := by decide +kernel
theorem dX2_bring_54 : decode cX2_bring 54 = .ok (.aload_n 0, 1) := by decide +kernel
theorem dX2_bring_55 : decode cX2_bring 55 = .ok (.getfield 132, 3) := by decide +kernel
theorem dX2_bring_58 : decode cX2_bring 58 = .ok (.iload_n 2, 1) := by decide +kernel
theorem dX2_bring_59 : decode cX2_bring 59 = .ok (.invokevirtual 141, 3) := by decide +kernel
theorem dX2_bring_62 : decode cX2_bring 62 = .ok (.invokevirtual 128, 3) := by decide +kernel
theorem dX2_bring_65 : decode cX2_bring 65 = .ok (.goto 40, 3) := by decide +kernel
theorem dX2_bring_68 : decode cX2_bring 68 = .ok (.aload_n 0, 1) := by decide +kernel
theorem dX2_bring_69 : decode cX2_bring 69 = .ok (.aload_n 0, 1) := by decide +kernel
theorem dX2_bring_70 : decode cX2_bring 70 = .ok (.getfield 51, 3) := by decide +kernel
theorem dX2_bring_73 : decode cX2_bring 73 = .ok (.aload_n 0, 1) := by decide +kernel
theorem dX2_bring_74 : decode cX2_bring 74 = .ok (.getfield 145, 3) := by decide +kernel
theorem dX2_bring_77 : decode cX2_bring 77 = .ok (.iload_n 2, 1) := by decide +kernel
theorem dX2_bring_78 : decode cX2_bring 78 = .ok (.invokevirtual 135, 3) := by decide +kernel
theorem dX2_bring_81 : decode cX2_bring 81 = .ok (.aload_n 0, 1) := by decide +kernel
theorem dX2_bring_82 : decode cX2_bring 82 = .ok (.getfield 51, 3) := by decide +kernel
theorem dX2_bring_85 : decode cX2_bring 85 = .ok (.aload_n 0, 1) := by decide +kernel
theorem dX2_bring_86 : decode cX2_bring 86 = .ok (.getfield 145, 3) := by decide +kernel
theorem dX2_bring_89 : decode cX2_bring 89 = .ok (.iload_n 2, 1) := by decide +kernel
theorem dX2_bring_90 : decode cX2_bring 90 = .ok (.invokevirtual 141, 3) := by decide +kernel
theorem dX2_bring_93 : decode cX2_bring 93 = .ok (.invokevirtual 128, 3) := by decide +kernel
theorem dX2_bring_96 : decode cX2_bring 96 = .ok (.goto 9, 3) := by decide +kernel
theorem dX2_bring_99 : decode cX2_bring 99 = .ok (.aload_n 0, 1) := by decide +kernel
theorem dX2_bring_100 : decode cX2_bring 100 = .ok (.iload_n 2, 1) := by decide +kernel
theorem dX2_bring_101 : decode cX2_bring 101 = .ok (.iconst 0, 1) := by decide +kernel
theorem dX2_bring_102 : decode cX2_bring 102 = .ok (.invokevirtual 128, 3) := by decide +kernel
theorem dX2_bring_105 : decode cX2_bring 105 = .ok (.return_, 1) := by decide +kernel
theorem b_X2_bring_0 {h : Nat} {L : LVs} {st : List AV} {S : ST} {Q : Option AV → ST → Prop} (k : o_il L st S (fun L st S => t_sw L st S [((nI 3), fun L st S => V MX2_bring h 28 L st S Q), ((nI 4), fun L st S => V MX2_bring h 37 L st S Q), ((nI 5), fun L st S => V MX2_bring h 68 L st S Q)] (fun L st S => V MX2_bring h 99 L st S Q)) 1) : V MX2_bring h 0 L st S Q :=
  v_iload_n dX2_bring_0 rfl (fun L st S k => w_tsw [((nI 3), 28), ((nI 4), 37), ((nI 5), 68)] dX2_bring_1 (n := 3) (by decide) rfl (by decide) (by decide) (by decide) k) k
theorem b_X2_bring_28 {h : Nat} {L : LVs} {st : List AV} {S : ST} {Q : Option AV → ST → Prop} (k : o_al L st S (fun L st S => o_c L st S (fun L st S => o_c L st S (fun L st S => V MX2_bring h 31 L st S Q) (nI 1)) (nI 0)) 0) : V MX2_bring h 28 L st S Q :=
  v_aload_n dX2_bring_28 rfl (fun L st S k => v_iconst dX2_bring_29 (by decide) (fun L st S k => v_iconst dX2_bring_30 (by decide) (fun L st S k => k) k) k) k
theorem k_X2_bring_31 {h : Nat} {L : LVs} {st : List AV} {S : ST} {Q Q' : Option AV → ST → Prop} {j : Nat} {a0 a1 : AV} (hC : Ct MX2_push h [vR 2 j, a0, a1] S Q') (k : ∀ (r : Option AV) (S' : ST), Q' r S' → V MX2_bring (h + 1) 34 L (r.toList ++ st) S' Q) (hj : j < NI 2) (hw : wid st ≤ 8) : V MX2_bring (h + 1) 31 L (a1 :: a0 :: vR 2 j :: st) S Q :=
  v_callV (M' := MX2_push) (c := 2) (As := [a0, a1]) dX2_bring_31 ml_X2_128 im_X2_push se_X2_push in_X2 cd_X2_push rfl LY_2 np_X2_push (by decide) hw hj hC k
theorem b_X2_bring_34 {h : Nat} {L : LVs} {st : List AV} {S : ST} {Q : Option AV → ST → Prop} (k : V MX2_bring h 105 L st S Q) : V MX2_bring h 34 L st S Q :=
  v_goto dX2_bring_34 (by decide) k
theorem b_X2_bring_37 {h : Nat} {L : LVs} {st : List AV} {S : ST} {Q : Option AV → ST → Prop} (k : o_al L st S (fun L st S => o_al L st S (fun L st S => o_get L st S (fun L st S => o_al L st S (fun L st S => o_get L st S (fun L st S => o_il L st S (fun L st S => V MX2_bring h 47 L st S Q) 2) 2 9 (0, 0, 0)) 0) 2 7 (5, 7, 0)) 0) 0) : V MX2_bring h 37 L st S Q :=
  v_aload_n dX2_bring_37 rfl (fun L st S k => v_aload_n dX2_bring_38 rfl (fun L st S k => v_get dX2_bring_39 rfl iX2 LY_2 rfl (by decide) rfl fl_X2_47 (fun L st S k => v_aload_n dX2_bring_42 rfl (fun L st S k => v_get dX2_bring_43 rfl iX2 LY_2 rfl (by decide) rfl fl_X2_132 (fun L st S k => v_iload_n dX2_bring_46 rfl (fun L st S k => k) k) k) k) k) k) k
theorem k_X2_bring_47 {h : Nat} {L : LVs} {st : List AV} {S : ST} {Q Q' : Option AV → ST → Prop} {j : Nat} {a0 a1 : AV} (hC : Ct MX7_valueAt h [vR 7 j, a0, a1] S Q') (k : ∀ (r : Option AV) (S' : ST), Q' r S' → V MX2_bring (h + 1) 50 L (r.toList ++ st) S' Q) (hj : j < NI 7) (hw : wid st ≤ 8) : V MX2_bring (h + 1) 47 L (a1 :: a0 :: vR 7 j :: st) S Q :=
  v_callV (M' := MX7_valueAt) (c := 7) (As := [a0, a1]) dX2_bring_47 ml_X2_135 im_X7_valueAt se_X7_valueAt in_X7 cd_X7_valueAt rfl LY_7 np_X7_valueAt (by decide) hw hj hC k
theorem b_X2_bring_50 {h : Nat} {L : LVs} {st : List AV} {S : ST} {Q : Option AV → ST → Prop} (k : o_al L st S (fun L st S => o_get L st S (fun L st S => o_al L st S (fun L st S => o_get L st S (fun L st S => o_il L st S (fun L st S => V MX2_bring h 59 L st S Q) 2) 2 9 (0, 0, 0)) 0) 2 7 (5, 7, 0)) 0) : V MX2_bring h 50 L st S Q :=
  v_aload_n dX2_bring_50 rfl (fun L st S k => v_get dX2_bring_51 rfl iX2 LY_2 rfl (by decide) rfl fl_X2_47 (fun L st S k => v_aload_n dX2_bring_54 rfl (fun L st S k => v_get dX2_bring_55 rfl iX2 LY_2 rfl (by decide) rfl fl_X2_132 (fun L st S k => v_iload_n dX2_bring_58 rfl (fun L st S k => k) k) k) k) k) k
theorem k_X2_bring_59 {h : Nat} {L : LVs} {st : List AV} {S : ST} {Q Q' : Option AV → ST → Prop} {j : Nat} {a0 a1 : AV} (hC : Ct MX7_missingAt h [vR 7 j, a0, a1] S Q') (k : ∀ (r : Option AV) (S' : ST), Q' r S' → V MX2_bring (h + 1) 62 L (r.toList ++ st) S' Q) (hj : j < NI 7) (hw : wid st ≤ 8) : V MX2_bring (h + 1) 59 L (a1 :: a0 :: vR 7 j :: st) S Q :=
  v_callV (M' := MX7_missingAt) (c := 7) (As := [a0, a1]) dX2_bring_59 ml_X2_141 im_X7_missingAt se_X7_missingAt in_X7 cd_X7_missingAt rfl LY_7 np_X7_missingAt (by decide) hw hj hC k
theorem k_X2_bring_62 {h : Nat} {L : LVs} {st : List AV} {S : ST} {Q Q' : Option AV → ST → Prop} {j : Nat} {a0 a1 : AV} (hC : Ct MX2_push h [vR 2 j, a0, a1] S Q') (k : ∀ (r : Option AV) (S' : ST), Q' r S' → V MX2_bring (h + 1) 65 L (r.toList ++ st) S' Q) (hj : j < NI 2) (hw : wid st ≤ 8) : V MX2_bring (h + 1) 62 L (a1 :: a0 :: vR 2 j :: st) S Q :=
  v_callV (M' := MX2_push) (c := 2) (As := [a0, a1]) dX2_bring_62 ml_X2_128 im_X2_push se_X2_push in_X2 cd_X2_push rfl LY_2 np_X2_push (by decide) hw hj hC k
theorem b_X2_bring_65 {h : Nat} {L : LVs} {st : List AV} {S : ST} {Q : Option AV → ST → Prop} (k : V MX2_bring h 105 L st S Q) : V MX2_bring h 65 L st S Q :=
  v_goto dX2_bring_65 (by decide) k
theorem b_X2_bring_68 {h : Nat} {L : LVs} {st : List AV} {S : ST} {Q : Option AV → ST → Prop} (k : o_al L st S (fun L st S => o_al L st S (fun L st S => o_get L st S (fun L st S => o_al L st S (fun L st S => o_get L st S (fun L st S => o_il L st S (fun L st S => V MX2_bring h 78 L st S Q) 2) 2 10 (0, 0, 0)) 0) 2 8 (5, 7, 0)) 0) 0) : V MX2_bring h 68 L st S Q :=
  v_aload_n dX2_bring_68 rfl (fun L st S k => v_aload_n dX2_bring_69 rfl (fun L st S k => v_get dX2_bring_70 rfl iX2 LY_2 rfl (by decide) rfl fl_X2_51 (fun L st S k => v_aload_n dX2_bring_73 rfl (fun L st S k => v_get dX2_bring_74 rfl iX2 LY_2 rfl (by decide) rfl fl_X2_145 (fun L st S k => v_iload_n dX2_bring_77 rfl (fun L st S k => k) k) k) k) k) k) k
theorem k_X2_bring_78 {h : Nat} {L : LVs} {st : List AV} {S : ST} {Q Q' : Option AV → ST → Prop} {j : Nat} {a0 a1 : AV} (hC : Ct MX7_valueAt h [vR 7 j, a0, a1] S Q') (k : ∀ (r : Option AV) (S' : ST), Q' r S' → V MX2_bring (h + 1) 81 L (r.toList ++ st) S' Q) (hj : j < NI 7) (hw : wid st ≤ 8) : V MX2_bring (h + 1) 78 L (a1 :: a0 :: vR 7 j :: st) S Q :=
  v_callV (M' := MX7_valueAt) (c := 7) (As := [a0, a1]) dX2_bring_78 ml_X2_135 im_X7_valueAt se_X7_valueAt in_X7 cd_X7_valueAt rfl LY_7 np_X7_valueAt (by decide) hw hj hC k
theorem b_X2_bring_81 {h : Nat} {L : LVs} {st : List AV} {S : ST} {Q : Option AV → ST → Prop} (k : o_al L st S (fun L st S => o_get L st S (fun L st S => o_al L st S (fun L st S => o_get L st S (fun L st S => o_il L st S (fun L st S => V MX2_bring h 90 L st S Q) 2) 2 10 (0, 0, 0)) 0) 2 8 (5, 7, 0)) 0) : V MX2_bring h 81 L st S Q :=
  v_aload_n dX2_bring_81 rfl (fun L st S k => v_get dX2_bring_82 rfl iX2 LY_2 rfl (by decide) rfl fl_X2_51 (fun L st S k => v_aload_n dX2_bring_85 rfl (fun L st S k => v_get dX2_bring_86 rfl iX2 LY_2 rfl (by decide) rfl fl_X2_145 (fun L st S k => v_iload_n dX2_bring_89 rfl (fun L st S k => k) k) k) k) k) k
theorem k_X2_bring_90 {h : Nat} {L : LVs} {st : List AV} {S : ST} {Q Q' : Option AV → ST → Prop} {j : Nat} {a0 a1 : AV} (hC : Ct MX7_missingAt h [vR 7 j, a0, a1] S Q') (k : ∀ (r : Option AV) (S' : ST), Q' r S' → V MX2_bring (h + 1) 93 L (r.toList ++ st) S' Q) (hj : j < NI 7) (hw : wid st ≤ 8) : V MX2_bring (h + 1) 90 L (a1 :: a0 :: vR 7 j :: st) S Q :=
  v_callV (M' := MX7_missingAt) (c := 7) (As := [a0, a1]) dX2_bring_90 ml_X2_141 im_X7_missingAt se_X7_missingAt in_X7 cd_X7_missingAt rfl LY_7 np_X7_missingAt (by decide) hw hj hC k
theorem k_X2_bring_93 {h : Nat} {L : LVs} {st : List AV} {S : ST} {Q Q' : Option AV → ST → Prop} {j : Nat} {a0 a1 : AV} (hC : Ct MX2_push h [vR 2 j, a0, a1] S Q') (k : ∀ (r : Option AV) (S' : ST), Q' r S' → V MX2_bring (h + 1) 96 L (r.toList ++ st) S' Q) (hj : j < NI 2) (hw : wid st ≤ 8) : V MX2_bring (h + 1) 93 L (a1 :: a0 :: vR 2 j :: st) S Q :=
  v_callV (M' := MX2_push) (c := 2) (As := [a0, a1]) dX2_bring_93 ml_X2_128 im_X2_push se_X2_push in_X2 cd_X2_push rfl LY_2 np_X2_push (by decide) hw hj hC k
theorem b_X2_bring_96 {h : Nat} {L : LVs} {st : List AV} {S : ST} {Q : Option AV → ST → Prop} (k : V MX2_bring h 105 L st S Q) : V MX2_bring h 96 L st S Q :=
  v_goto dX2_bring_96 (by decide) k
theorem b_X2_bring_99 {h : Nat} {L : LVs} {st : List AV} {S : ST} {Q : Option AV → ST → Prop} (k : o_al L st S (fun L st S => o_il L st S (fun L st S => o_c L st S (fun L st S => V MX2_bring h 102 L st S Q) (nI 0)) 2) 0) : V MX2_bring h 99 L st S Q :=
  v_aload_n dX2_bring_99 rfl (fun L st S k => v_iload_n dX2_bring_100 rfl (fun L st S k => v_iconst dX2_bring_101 (by decide) (fun L st S k => k) k) k) k
theorem k_X2_bring_102 {h : Nat} {L : LVs} {st : List AV} {S : ST} {Q Q' : Option AV → ST → Prop} {j : Nat} {a0 a1 : AV} (hC : Ct MX2_push h [vR 2 j, a0, a1] S Q') (k : ∀ (r : Option AV) (S' : ST), Q' r S' → V MX2_bring (h + 1) 105 L (r.toList ++ st) S' Q) (hj : j < NI 2) (hw : wid st ≤ 8) : V MX2_bring (h + 1) 102 L (a1 :: a0 :: vR 2 j :: st) S Q :=
  v_callV (M' := MX2_push) (c := 2) (As := [a0, a1]) dX2_bring_102 ml_X2_128 im_X2_push se_X2_push in_X2 cd_X2_push rfl LY_2 np_X2_push (by decide) hw hj hC k
theorem b_X2_bring_105 {h : Nat} {L : LVs} {st : List AV} {S : ST} {Q : Option AV → ST → Prop} (k : t_vr st S Q) : V MX2_bring h 105 L st S Q :=
  w_vr dX2_bring_105 rfl k
-- QueryForge$Machine.calculate(I)V
theorem dX2_calculate_0 : decode cX2_calculate 0 = .ok (.aload_n 0, 1) := by decide +kernel
theorem dX2_calculate_1 : decode cX2_calculate 1 = .ok (.invokevirtual 148, 3) := by decide +kernel
theorem dX2_calculate_4 : decode cX2_calculate 4 = .ok (.aload_n 0, 1) := by decide +kernel
theorem dX2_calculate_5 : decode cX2_calculate 5 = .ok (.getfield 19, 3) := by decide +kernel
theorem dX2_calculate_8 : decode cX2_calculate 8 = .ok (.aload_n 0, 1) := by decide +kernel
theorem dX2_calculate_9 : decode cX2_calculate 9 = .ok (.getfield 68, 3) := by decide +kernel
theorem dX2_calculate_12 : decode cX2_calculate 12 = .ok (.iaload, 1) := by decide +kernel
theorem dX2_calculate_13 : decode cX2_calculate 13 = .ok (.i2l, 1) := by decide +kernel
theorem dX2_calculate_14 : decode cX2_calculate 14 = .ok (.lstore_n 2, 1) := by decide +kernel
theorem dX2_calculate_15 : decode cX2_calculate 15 = .ok (.aload_n 0, 1) := by decide +kernel
theorem dX2_calculate_16 : decode cX2_calculate 16 = .ok (.getfield 23, 3) := by decide +kernel
theorem dX2_calculate_19 : decode cX2_calculate 19 = .ok (.aload_n 0, 1) := by decide +kernel
theorem dX2_calculate_20 : decode cX2_calculate 20 = .ok (.getfield 68, 3) := by decide +kernel
theorem dX2_calculate_23 : decode cX2_calculate 23 = .ok (.baload, 1) := by decide +kernel
theorem dX2_calculate_24 : decode cX2_calculate 24 = .ok (.istore 4, 2) := by decide +kernel
theorem dX2_calculate_26 : decode cX2_calculate 26 = .ok (.lconst 0, 1) := by decide +kernel
theorem dX2_calculate_27 : decode cX2_calculate 27 = .ok (.lstore 5, 2) := by decide +kernel
theorem dX2_calculate_29 : decode cX2_calculate 29 = .ok (.iload_n 1, 1) := by decide +kernel
theorem dX2_calculate_30 : decode cX2_calculate 30 = .ok (.bipush 6, 2) := by decide +kernel
theorem dX2_calculate_32 : decode cX2_calculate 32 = .ok (.if_icmp .eq 43, 3) := by decide +kernel
theorem dX2_calculate_35 : decode cX2_calculate 35 = .ok (.aload_n 0, 1) := by decide +kernel
theorem dX2_calculate_36 : decode cX2_calculate 36 = .ok (.invokevirtual 148, 3) := by decide +kernel
theorem dX2_calculate_39 : decode cX2_calculate 39 = .ok (.aload_n 0, 1) := by decide +kernel
theorem dX2_calculate_40 : decode cX2_calculate 40 = .ok (.getfield 19, 3) := by decide +kernel
theorem dX2_calculate_43 : decode cX2_calculate 43 = .ok (.aload_n 0, 1) := by decide +kernel
theorem dX2_calculate_44 : decode cX2_calculate 44 = .ok (.getfield 68, 3) := by decide +kernel
theorem dX2_calculate_47 : decode cX2_calculate 47 = .ok (.iaload, 1) := by decide +kernel
theorem dX2_calculate_48 : decode cX2_calculate 48 = .ok (.i2l, 1) := by decide +kernel
theorem dX2_calculate_49 : decode cX2_calculate 49 = .ok (.lstore 5, 2) := by decide +kernel
theorem dX2_calculate_51 : decode cX2_calculate 51 = .ok (.iload 4, 2) := by decide +kernel
theorem dX2_calculate_53 : decode cX2_calculate 53 = .ok (.ifCond .ne 15, 3) := by decide +kernel
theorem dX2_calculate_56 : decode cX2_calculate 56 = .ok (.aload_n 0, 1) := by decide +kernel
theorem dX2_calculate_57 : decode cX2_calculate 57 = .ok (.getfield 23, 3) := by decide +kernel
theorem dX2_calculate_60 : decode cX2_calculate 60 = .ok (.aload_n 0, 1) := by decide +kernel
theorem dX2_calculate_61 : decode cX2_calculate 61 = .ok (.getfield 68, 3) := by decide +kernel
theorem dX2_calculate_64 : decode cX2_calculate 64 = .ok (.baload, 1) := by decide +kernel
theorem dX2_calculate_65 : decode cX2_calculate 65 = .ok (.ifCond .eq 7, 3) := by decide +kernel
theorem dX2_calculate_68 : decode cX2_calculate 68 = .ok (.iconst 1, 1) := by decide +kernel
theorem dX2_calculate_69 : decode cX2_calculate 69 = .ok (.goto 4, 3) := by decide +kernel
theorem dX2_calculate_72 : decode cX2_calculate 72 = .ok (.iconst 0, 1) := by decide +kernel
theorem dX2_calculate_73 : decode cX2_calculate 73 = .ok (.istore 4, 2) := by decide +kernel
theorem dX2_calculate_75 : decode cX2_calculate 75 = .ok (.iload 4, 2) := by decide +kernel
theorem dX2_calculate_77 : decode cX2_calculate 77 = .ok (.ifCond .eq 10, 3) := by decide +kernel
theorem dX2_calculate_80 : decode cX2_calculate 80 = .ok (.aload_n 0, 1) := by decide +kernel
theorem dX2_calculate_81 : decode cX2_calculate 81 = .ok (.iconst 0, 1) := by decide +kernel
theorem dX2_calculate_82 : decode cX2_calculate 82 = .ok (.iconst 1, 1) := by decide +kernel
theorem dX2_calculate_83 : decode cX2_calculate 83 = .ok (.invokevirtual 128, 3) := by decide +kernel
theorem dX2_calculate_86 : decode cX2_calculate 86 = .ok (.return_, 1) := by decide +kernel
theorem dX2_calculate_87 : decode cX2_calculate 87 = .ok (.iload_n 1, 1) := by decide +kernel
theorem dX2_calculate_88 : decode cX2_calculate 88 = .ok (.bipush 10, 2) := by decide +kernel
theorem dX2_calculate_90 : decode cX2_calculate 90 = .ok (.if_icmp .ne 17, 3) := by decide +kernel
theorem dX2_calculate_93 : decode cX2_calculate 93 = .ok (.lload_n 2, 1) := by decide +kernel
theorem dX2_calculate_94 : decode cX2_calculate 94 = .ok (.lconst 0, 1) := by decide +kernel
theorem dX2_calculate_95 : decode cX2_calculate 95 = .ok (.lcmp, 1) := by decide +kernel
theorem dX2_calculate_96 : decode cX2_calculate 96 = .ok (.ifCond .ne 11, 3) := by decide +kernel
theorem dX2_calculate_99 : decode cX2_calculate 99 = .ok (.aload_n 0, 1) := by decide +kernel
theorem dX2_calculate_100 : decode cX2_calculate 100 = .ok (.sipush (-1004), 3) := by decide +kernel
theorem dX2_calculate_103 : decode cX2_calculate 103 = .ok (.invokevirtual 151, 3) := by decide +kernel
theorem dX2_calculate_106 : decode cX2_calculate 106 = .ok (.return_, 1) := by decide +kernel
theorem dX2_calculate_107 : decode cX2_calculate 107 = .ok (.iload_n 1, 1) := by decide +kernel
theorem dX2_calculate_108 : decode cX2_calculate 108 = .ok (.lload 5, 2) := by decide +kernel
theorem dX2_calculate_110 : decode cX2_calculate 110 = .ok (.lload_n 2, 1) := by decide +kernel
theorem dX2_calculate_111 : decode cX2_calculate 111 = .ok (.invokestatic 154, 3) := by decide +kernel
theorem dX2_calculate_114 : decode cX2_calculate 114 = .ok (.lstore 7, 2) := by decide +kernel
theorem dX2_calculate_116 : decode cX2_calculate 116 = .ok (.lload 7, 2) := by decide +kernel
theorem dX2_calculate_118 : decode cX2_calculate 118 = .ok (.invokestatic 158, 3) := by decide +kernel
theorem dX2_calculate_121 : decode cX2_calculate 121 = .ok (.ifCond .ne 11, 3) := by decide +kernel
theorem dX2_calculate_124 : decode cX2_calculate 124 = .ok (.aload_n 0, 1) := by decide +kernel
theorem dX2_calculate_125 : decode cX2_calculate 125 = .ok (.sipush (-1005), 3) := by decide +kernel
theorem dX2_calculate_128 : decode cX2_calculate 128 = .ok (.invokevirtual 151, 3) := by decide +kernel
theorem dX2_calculate_131 : decode cX2_calculate 131 = .ok (.return_, 1) := by decide +kernel
theorem dX2_calculate_132 : decode cX2_calculate 132 = .ok (.aload_n 0, 1) := by decide +kernel
theorem dX2_calculate_133 : decode cX2_calculate 133 = .ok (.lload 7, 2) := by decide +kernel
theorem dX2_calculate_135 : decode cX2_calculate 135 = .ok (.l2i, 1) := by decide +kernel
theorem dX2_calculate_136 : decode cX2_calculate 136 = .ok (.iconst 0, 1) := by decide +kernel
theorem dX2_calculate_137 : decode cX2_calculate 137 = .ok (.invokevirtual 128, 3) := by decide +kernel
theorem dX2_calculate_140 : decode cX2_calculate 140 = .ok (.return_, 1) := by decide +kernel
theorem b_X2_calculate_0 {h : Nat} {L : LVs} {st : List AV} {S : ST} {Q : Option AV → ST → Prop} (k : o_al L st S (fun L st S => V MX2_calculate h 1 L st S Q) 0) : V MX2_calculate h 0 L st S Q :=
  v_aload_n dX2_calculate_0 rfl (fun L st S k => k) k
theorem k_X2_calculate_1 {h : Nat} {L : LVs} {st : List AV} {S : ST} {Q Q' : Option AV → ST → Prop} {j : Nat} (hC : Ct MX2_pop h [vR 2 j] S Q') (k : ∀ (r : Option AV) (S' : ST), Q' r S' → V MX2_calculate (h + 1) 4 L (r.toList ++ st) S' Q) (hj : j < NI 2) (hw : wid st ≤ 8) : V MX2_calculate (h + 1) 1 L (vR 2 j :: st) S Q :=
  v_callV (M' := MX2_pop) (c := 2) (As := []) dX2_calculate_1 ml_X2_148 im_X2_pop se_X2_pop in_X2 cd_X2_pop rfl LY_2 np_X2_pop (by decide) hw hj hC k
theorem b_X2_calculate_4 {h : Nat} {L : LVs} {st : List AV} {S : ST} {Q : Option AV → ST → Prop} (k : o_al L st S (fun L st S => o_get L st S (fun L st S => o_al L st S (fun L st S => o_get L st S (fun L st S => o_iald L st S (fun L st S => o_i2l L st S (fun L st S => o_ls L st S (fun L st S => o_al L st S (fun L st S => o_get L st S (fun L st S => o_al L st S (fun L st S => o_get L st S (fun L st S => o_zald L st S (fun L st S => o_is L st S (fun L st S => o_lc L st S (fun L st S => o_ls L st S (fun L st S => o_il L st S (fun L st S => o_c L st S (fun L st S => t_2 L st S (fun x y => x = y) (fun L st S => V MX2_calculate h 75 L st S Q) (fun L st S => V MX2_calculate h 35 L st S Q)) (nI 6)) 1) 5) (lN 0)) 4)) 2 11 (0, 0, 0)) 0) 2 3 (3, 16, 0)) 0) 2))) 2 11 (0, 0, 0)) 0) 2 2 (3, 15, 0)) 0) : V MX2_calculate h 4 L st S Q :=
  v_aload_n dX2_calculate_4 rfl (fun L st S k => v_get dX2_calculate_5 rfl iX2 LY_2 rfl (by decide) rfl fl_X2_19 (fun L st S k => v_aload_n dX2_calculate_8 rfl (fun L st S k => v_get dX2_calculate_9 rfl iX2 LY_2 rfl (by decide) rfl fl_X2_68 (fun L st S k => v_iaload dX2_calculate_12 (fun L st S k => v_i2l dX2_calculate_13 (fun L st S k => v_lstore_n dX2_calculate_14 rfl (by decide) (fun L st S k => v_aload_n dX2_calculate_15 rfl (fun L st S k => v_get dX2_calculate_16 rfl iX2 LY_2 rfl (by decide) rfl fl_X2_23 (fun L st S k => v_aload_n dX2_calculate_19 rfl (fun L st S k => v_get dX2_calculate_20 rfl iX2 LY_2 rfl (by decide) rfl fl_X2_68 (fun L st S k => v_zaload dX2_calculate_23 (fun L st S k => v_istore dX2_calculate_24 (by decide) (fun L st S k => v_lconst dX2_calculate_26 (by decide) (fun L st S k => v_lstore dX2_calculate_27 (by decide) (fun L st S k => v_iload_n dX2_calculate_29 rfl (fun L st S k => v_bipush dX2_calculate_30 (by decide) (fun L st S k => w_icmp_eq dX2_calculate_32 (by decide) rfl k) k) k) k) k) k) k) k) k) k) k) k) k) k) k) k) k) k
theorem b_X2_calculate_35 {h : Nat} {L : LVs} {st : List AV} {S : ST} {Q : Option AV → ST → Prop} (k : o_al L st S (fun L st S => V MX2_calculate h 36 L st S Q) 0) : V MX2_calculate h 35 L st S Q :=
  v_aload_n dX2_calculate_35 rfl (fun L st S k => k) k
theorem k_X2_calculate_36 {h : Nat} {L : LVs} {st : List AV} {S : ST} {Q Q' : Option AV → ST → Prop} {j : Nat} (hC : Ct MX2_pop h [vR 2 j] S Q') (k : ∀ (r : Option AV) (S' : ST), Q' r S' → V MX2_calculate (h + 1) 39 L (r.toList ++ st) S' Q) (hj : j < NI 2) (hw : wid st ≤ 8) : V MX2_calculate (h + 1) 36 L (vR 2 j :: st) S Q :=
  v_callV (M' := MX2_pop) (c := 2) (As := []) dX2_calculate_36 ml_X2_148 im_X2_pop se_X2_pop in_X2 cd_X2_pop rfl LY_2 np_X2_pop (by decide) hw hj hC k
theorem b_X2_calculate_39 {h : Nat} {L : LVs} {st : List AV} {S : ST} {Q : Option AV → ST → Prop} (k : o_al L st S (fun L st S => o_get L st S (fun L st S => o_al L st S (fun L st S => o_get L st S (fun L st S => o_iald L st S (fun L st S => o_i2l L st S (fun L st S => o_ls L st S (fun L st S => o_il L st S (fun L st S => t_1 L st S (fun x => x = nI 0) (fun L st S => V MX2_calculate h 56 L st S Q) (fun L st S => V MX2_calculate h 68 L st S Q)) 4) 5))) 2 11 (0, 0, 0)) 0) 2 2 (3, 15, 0)) 0) : V MX2_calculate h 39 L st S Q :=
  v_aload_n dX2_calculate_39 rfl (fun L st S k => v_get dX2_calculate_40 rfl iX2 LY_2 rfl (by decide) rfl fl_X2_19 (fun L st S k => v_aload_n dX2_calculate_43 rfl (fun L st S k => v_get dX2_calculate_44 rfl iX2 LY_2 rfl (by decide) rfl fl_X2_68 (fun L st S k => v_iaload dX2_calculate_47 (fun L st S k => v_i2l dX2_calculate_48 (fun L st S k => v_lstore dX2_calculate_49 (by decide) (fun L st S k => v_iload dX2_calculate_51 (fun L st S k => w_if_ne dX2_calculate_53 (by decide) rfl k) k) k) k) k) k) k) k) k
theorem b_X2_calculate_56 {h : Nat} {L : LVs} {st : List AV} {S : ST} {Q : Option AV → ST → Prop} (k : o_al L st S (fun L st S => o_get L st S (fun L st S => o_al L st S (fun L st S => o_get L st S (fun L st S => o_zald L st S (fun L st S => t_1 L st S (fun x => x = nI 0) (fun L st S => V MX2_calculate h 72 L st S Q) (fun L st S => V MX2_calculate h 68 L st S Q))) 2 11 (0, 0, 0)) 0) 2 3 (3, 16, 0)) 0) : V MX2_calculate h 56 L st S Q :=
  v_aload_n dX2_calculate_56 rfl (fun L st S k => v_get dX2_calculate_57 rfl iX2 LY_2 rfl (by decide) rfl fl_X2_23 (fun L st S k => v_aload_n dX2_calculate_60 rfl (fun L st S k => v_get dX2_calculate_61 rfl iX2 LY_2 rfl (by decide) rfl fl_X2_68 (fun L st S k => v_zaload dX2_calculate_64 (fun L st S k => w_if_eq dX2_calculate_65 (by decide) rfl k) k) k) k) k) k
theorem b_X2_calculate_68 {h : Nat} {L : LVs} {st : List AV} {S : ST} {Q : Option AV → ST → Prop} (k : o_c L st S (fun L st S => V MX2_calculate h 73 L st S Q) (nI 1)) : V MX2_calculate h 68 L st S Q :=
  v_iconst dX2_calculate_68 (by decide) (fun L st S k => v_goto dX2_calculate_69 (by decide) k) k
theorem b_X2_calculate_72 {h : Nat} {L : LVs} {st : List AV} {S : ST} {Q : Option AV → ST → Prop} (k : o_c L st S (fun L st S => V MX2_calculate h 73 L st S Q) (nI 0)) : V MX2_calculate h 72 L st S Q :=
  v_iconst dX2_calculate_72 (by decide) (fun L st S k => k) k
theorem b_X2_calculate_73 {h : Nat} {L : LVs} {st : List AV} {S : ST} {Q : Option AV → ST → Prop} (k : o_is L st S (fun L st S => V MX2_calculate h 75 L st S Q) 4) : V MX2_calculate h 73 L st S Q :=
  v_istore dX2_calculate_73 (by decide) (fun L st S k => k) k
theorem b_X2_calculate_75 {h : Nat} {L : LVs} {st : List AV} {S : ST} {Q : Option AV → ST → Prop} (k : o_il L st S (fun L st S => t_1 L st S (fun x => x = nI 0) (fun L st S => V MX2_calculate h 87 L st S Q) (fun L st S => V MX2_calculate h 80 L st S Q)) 4) : V MX2_calculate h 75 L st S Q :=
  v_iload dX2_calculate_75 (fun L st S k => w_if_eq dX2_calculate_77 (by decide) rfl k) k
theorem b_X2_calculate_80 {h : Nat} {L : LVs} {st : List AV} {S : ST} {Q : Option AV → ST → Prop} (k : o_al L st S (fun L st S => o_c L st S (fun L st S => o_c L st S (fun L st S => V MX2_calculate h 83 L st S Q) (nI 1)) (nI 0)) 0) : V MX2_calculate h 80 L st S Q :=
  v_aload_n dX2_calculate_80 rfl (fun L st S k => v_iconst dX2_calculate_81 (by decide) (fun L st S k => v_iconst dX2_calculate_82 (by decide) (fun L st S k => k) k) k) k
theorem k_X2_calculate_83 {h : Nat} {L : LVs} {st : List AV} {S : ST} {Q Q' : Option AV → ST → Prop} {j : Nat} {a0 a1 : AV} (hC : Ct MX2_push h [vR 2 j, a0, a1] S Q') (k : ∀ (r : Option AV) (S' : ST), Q' r S' → V MX2_calculate (h + 1) 86 L (r.toList ++ st) S' Q) (hj : j < NI 2) (hw : wid st ≤ 8) : V MX2_calculate (h + 1) 83 L (a1 :: a0 :: vR 2 j :: st) S Q :=
  v_callV (M' := MX2_push) (c := 2) (As := [a0, a1]) dX2_calculate_83 ml_X2_128 im_X2_push se_X2_push in_X2 cd_X2_push rfl LY_2 np_X2_push (by decide) hw hj hC k
theorem b_X2_calculate_86 {h : Nat} {L : LVs} {st : List AV} {S : ST} {Q : Option AV → ST → Prop} (k : t_vr st S Q) : V MX2_calculate h 86 L st S Q :=
  w_vr dX2_calculate_86 rfl k
theorem b_X2_calculate_87 {h : Nat} {L : LVs} {st : List AV} {S : ST} {Q : Option AV → ST → Prop} (k : o_il L st S (fun L st S => o_c L st S (fun L st S => t_2 L st S (fun x y => x = y) (fun L st S => V MX2_calculate h 93 L st S Q) (fun L st S => V MX2_calculate h 107 L st S Q)) (nI 10)) 1) : V MX2_calculate h 87 L st S Q :=
  v_iload_n dX2_calculate_87 rfl (fun L st S k => v_bipush dX2_calculate_88 (by decide) (fun L st S k => w_icmp_ne dX2_calculate_90 (by decide) rfl k) k) k
theorem b_X2_calculate_93 {h : Nat} {L : LVs} {st : List AV} {S : ST} {Q : Option AV → ST → Prop} (k : o_ll L st S (fun L st S => o_lc L st S (fun L st S => o_lcmp L st S (fun L st S => t_1 L st S (fun x => x = nI 0) (fun L st S => V MX2_calculate h 99 L st S Q) (fun L st S => V MX2_calculate h 107 L st S Q))) (lN 0)) 2) : V MX2_calculate h 93 L st S Q :=
  v_lload_n dX2_calculate_93 rfl (fun L st S k => v_lconst dX2_calculate_94 (by decide) (fun L st S k => v_lcmp dX2_calculate_95 (fun L st S k => w_if_ne dX2_calculate_96 (by decide) rfl k) k) k) k
theorem b_X2_calculate_99 {h : Nat} {L : LVs} {st : List AV} {S : ST} {Q : Option AV → ST → Prop} (k : o_al L st S (fun L st S => o_c L st S (fun L st S => V MX2_calculate h 103 L st S Q) (-1004)) 0) : V MX2_calculate h 99 L st S Q :=
  v_aload_n dX2_calculate_99 rfl (fun L st S k => v_sipush dX2_calculate_100 (by decide) (fun L st S k => k) k) k
theorem k_X2_calculate_103 {h : Nat} {L : LVs} {st : List AV} {S : ST} {Q Q' : Option AV → ST → Prop} {j : Nat} {a0 : AV} (hC : Ct MX2_fail h [vR 2 j, a0] S Q') (k : ∀ (r : Option AV) (S' : ST), Q' r S' → V MX2_calculate (h + 1) 106 L (r.toList ++ st) S' Q) (hj : j < NI 2) (hw : wid st ≤ 8) : V MX2_calculate (h + 1) 103 L (a0 :: vR 2 j :: st) S Q :=
  v_callV (M' := MX2_fail) (c := 2) (As := [a0]) dX2_calculate_103 ml_X2_151 im_X2_fail se_X2_fail in_X2 cd_X2_fail rfl LY_2 np_X2_fail (by decide) hw hj hC k
theorem b_X2_calculate_106 {h : Nat} {L : LVs} {st : List AV} {S : ST} {Q : Option AV → ST → Prop} (k : t_vr st S Q) : V MX2_calculate h 106 L st S Q :=
  w_vr dX2_calculate_106 rfl k
theorem b_X2_calculate_107 {h : Nat} {L : LVs} {st : List AV} {S : ST} {Q : Option AV → ST → Prop} (k : o_il L st S (fun L st S => o_ll L st S (fun L st S => o_ll L st S (fun L st S => V MX2_calculate h 111 L st S Q) 2) 5) 1) : V MX2_calculate h 107 L st S Q :=
  v_iload_n dX2_calculate_107 rfl (fun L st S k => v_lload dX2_calculate_108 (fun L st S k => v_lload_n dX2_calculate_110 rfl (fun L st S k => k) k) k) k
theorem k_X2_calculate_111 {h : Nat} {L : LVs} {st : List AV} {S : ST} {Q Q' : Option AV → ST → Prop} {a0 a1 a2 : AV} (hC : Ct MX2_calculated h [a0, a1, a2] S Q') (k : ∀ (r : Option AV) (S' : ST), Q' r S' → V MX2_calculate (h + 1) 114 L (r.toList ++ st) S' Q) (hw : wid st ≤ 8) : V MX2_calculate (h + 1) 111 L (a2 :: a1 :: a0 :: st) S Q :=
  v_callS (M' := MX2_calculated) (As := [a0, a1, a2]) dX2_calculate_111 ml_X2_154 sm_X2_calculated in_X2 cd_X2_calculated ⟨rfl, np_X2_calculated⟩ (by decide) hw hC k
theorem b_X2_calculate_114 {h : Nat} {L : LVs} {st : List AV} {S : ST} {Q : Option AV → ST → Prop} (k : o_ls L st S (fun L st S => o_ll L st S (fun L st S => V MX2_calculate h 118 L st S Q) 7) 7) : V MX2_calculate h 114 L st S Q :=
  v_lstore dX2_calculate_114 (by decide) (fun L st S k => v_lload dX2_calculate_116 (fun L st S k => k) k) k
theorem k_X2_calculate_118 {h : Nat} {L : LVs} {st : List AV} {S : ST} {Q Q' : Option AV → ST → Prop} {a0 : AV} (hC : Ct MX2_fits h [a0] S Q') (k : ∀ (r : Option AV) (S' : ST), Q' r S' → V MX2_calculate (h + 1) 121 L (r.toList ++ st) S' Q) (hw : wid st ≤ 8) : V MX2_calculate (h + 1) 118 L (a0 :: st) S Q :=
  v_callS (M' := MX2_fits) (As := [a0]) dX2_calculate_118 ml_X2_158 sm_X2_fits in_X2 cd_X2_fits ⟨rfl, np_X2_fits⟩ (by decide) hw hC k
theorem b_X2_calculate_121 {h : Nat} {L : LVs} {st : List AV} {S : ST} {Q : Option AV → ST → Prop} (k : t_1 L st S (fun x => x = nI 0) (fun L st S => V MX2_calculate h 124 L st S Q) (fun L st S => V MX2_calculate h 132 L st S Q)) : V MX2_calculate h 121 L st S Q :=
  w_if_ne dX2_calculate_121 (by decide) rfl k
theorem b_X2_calculate_124 {h : Nat} {L : LVs} {st : List AV} {S : ST} {Q : Option AV → ST → Prop} (k : o_al L st S (fun L st S => o_c L st S (fun L st S => V MX2_calculate h 128 L st S Q) (-1005)) 0) : V MX2_calculate h 124 L st S Q :=
  v_aload_n dX2_calculate_124 rfl (fun L st S k => v_sipush dX2_calculate_125 (by decide) (fun L st S k => k) k) k
theorem k_X2_calculate_128 {h : Nat} {L : LVs} {st : List AV} {S : ST} {Q Q' : Option AV → ST → Prop} {j : Nat} {a0 : AV} (hC : Ct MX2_fail h [vR 2 j, a0] S Q') (k : ∀ (r : Option AV) (S' : ST), Q' r S' → V MX2_calculate (h + 1) 131 L (r.toList ++ st) S' Q) (hj : j < NI 2) (hw : wid st ≤ 8) : V MX2_calculate (h + 1) 128 L (a0 :: vR 2 j :: st) S Q :=
  v_callV (M' := MX2_fail) (c := 2) (As := [a0]) dX2_calculate_128 ml_X2_151 im_X2_fail se_X2_fail in_X2 cd_X2_fail rfl LY_2 np_X2_fail (by decide) hw hj hC k
theorem b_X2_calculate_131 {h : Nat} {L : LVs} {st : List AV} {S : ST} {Q : Option AV → ST → Prop} (k : t_vr st S Q) : V MX2_calculate h 131 L st S Q :=
  w_vr dX2_calculate_131 rfl k
theorem b_X2_calculate_132 {h : Nat} {L : LVs} {st : List AV} {S : ST} {Q : Option AV → ST → Prop} (k : o_al L st S (fun L st S => o_ll L st S (fun L st S => o_l2i L st S (fun L st S => o_c L st S (fun L st S => V MX2_calculate h 137 L st S Q) (nI 0))) 7) 0) : V MX2_calculate h 132 L st S Q :=
  v_aload_n dX2_calculate_132 rfl (fun L st S k => v_lload dX2_calculate_133 (fun L st S k => v_l2i dX2_calculate_135 (fun L st S k => v_iconst dX2_calculate_136 (by decide) (fun L st S k => k) k) k) k) k
theorem k_X2_calculate_137 {h : Nat} {L : LVs} {st : List AV} {S : ST} {Q Q' : Option AV → ST → Prop} {j : Nat} {a0 a1 : AV} (hC : Ct MX2_push h [vR 2 j, a0, a1] S Q') (k : ∀ (r : Option AV) (S' : ST), Q' r S' → V MX2_calculate (h + 1) 140 L (r.toList ++ st) S' Q) (hj : j < NI 2) (hw : wid st ≤ 8) : V MX2_calculate (h + 1) 137 L (a1 :: a0 :: vR 2 j :: st) S Q :=
  v_callV (M' := MX2_push) (c := 2) (As := [a0, a1]) dX2_calculate_137 ml_X2_128 im_X2_push se_X2_push in_X2 cd_X2_push rfl LY_2 np_X2_push (by decide) hw hj hC k
theorem b_X2_calculate_140 {h : Nat} {L : LVs} {st : List AV} {S : ST} {Q : Option AV → ST → Prop} (k : t_vr st S Q) : V MX2_calculate h 140 L st S Q :=
  w_vr dX2_calculate_140 rfl k
-- QueryForge$Machine.calculated(IJJ)J
theorem dX2_calculated_0 : decode cX2_calculated 0 = .ok (.iload_n 0, 1) := by decide +kernel
theorem dX2_calculated_1 : decode cX2_calculated 1 = .ok (.tableswitch 53 7 10 #[31, 53, 35, 39], 31) := by decide +kernel
theorem dX2_calculated_32 : decode cX2_calculated 32 = .ok (.lload_n 1, 1) := by decide +kernel
theorem dX2_calculated_33 : decode cX2_calculated 33 = .ok (.lload_n 3, 1) := by decide +kernel
theorem dX2_calculated_34 : decode cX2_calculated 34 = .ok (.ladd, 1) := by decide +kernel
theorem dX2_calculated_35 : decode cX2_calculated 35 = .ok (.lreturn, 1) := by decide +kernel
theorem dX2_calculated_36 : decode cX2_calculated 36 = .ok (.lload_n 1, 1) := by decide +kernel
theorem dX2_calculated_37 : decode cX2_calculated 37 = .ok (.lload_n 3, 1) := by decide +kernel
theorem dX2_calculated_38 : decode cX2_calculated 38 = .ok (.lmul, 1) := by decide +kernel
theorem dX2_calculated_39 : decode cX2_calculated 39 = .ok (.lreturn, 1) := by decide +kernel
theorem dX2_calculated_40 : decode cX2_calculated 40 = .ok (.lload_n 3, 1) := by decide +kernel
theorem dX2_calculated_41 : decode cX2_calculated 41 = .ok (.lconst 0, 1) := by decide +kernel
theorem dX2_calculated_42 : decode cX2_calculated 42 = .ok (.lcmp, 1) := by decide +kernel
theorem dX2_calculated_43 : decode cX2_calculated 43 = .ok (.ifCond .ne 7, 3) := by decide +kernel
theorem dX2_calculated_46 : decode cX2_calculated 46 = .ok (.lconst 0, 1) := by decide +kernel
theorem dX2_calculated_47 : decode cX2_calculated 47 = .ok (.goto 6, 3) := by decide +kernel
theorem dX2_calculated_50 : decode cX2_calculated 50 = .ok (.lload_n 1, 1) := by decide +kernel
theorem dX2_calculated_51 : decode cX2_calculated 51 = .ok (.lload_n 3, 1) := by decide +kernel
theorem dX2_calculated_52 : decode cX2_calculated 52 = .ok (.ldiv, 1) := by decide +kernel
theorem dX2_calculated_53 : decode cX2_calculated 53 = .ok (.lreturn, 1) := by decide +kernel
theorem dX2_calculated_54 : decode cX2_calculated 54 = .ok (.lload_n 1, 1) := by decide +kernel
theorem dX2_calculated_55 : decode cX2_calculated 55 = .ok (.lload_n 3, 1) := by decide +kernel
theorem dX2_calculated_56 : decode cX2_calculated 56 = .ok (.lsub, 1) := by decide +kernel
theorem dX2_calculated_57 : decode cX2_calculated 57 = .ok (.lreturn, 1) := by decide +kernel
theorem b_X2_calculated_0 {h : Nat} {L : LVs} {st : List AV} {S : ST} {Q : Option AV → ST → Prop} (k : o_il L st S (fun L st S => t_sw L st S [((nI 7), fun L st S => V MX2_calculated h 32 L st S Q), ((nI 8), fun L st S => V MX2_calculated h 54 L st S Q), ((nI 9), fun L st S => V MX2_calculated h 36 L st S Q), ((nI 10), fun L st S => V MX2_calculated h 40 L st S Q)] (fun L st S => V MX2_calculated h 54 L st S Q)) 0) : V MX2_calculated h 0 L st S Q :=
  v_iload_n dX2_calculated_0 rfl (fun L st S k => w_tsw [((nI 7), 32), ((nI 8), 54), ((nI 9), 36), ((nI 10), 40)] dX2_calculated_1 (n := 4) (by decide) rfl (by decide) (by decide) (by decide) k) k
theorem b_X2_calculated_32 {h : Nat} {L : LVs} {st : List AV} {S : ST} {Q : Option AV → ST → Prop} (k : o_ll L st S (fun L st S => o_ll L st S (fun L st S => o_ladd L st S (fun L st S => t_lr st S Q)) 3) 1) : V MX2_calculated h 32 L st S Q :=
  v_lload_n dX2_calculated_32 rfl (fun L st S k => v_lload_n dX2_calculated_33 rfl (fun L st S k => v_ladd dX2_calculated_34 (fun L st S k => w_lr dX2_calculated_35 rfl k) k) k) k
theorem b_X2_calculated_36 {h : Nat} {L : LVs} {st : List AV} {S : ST} {Q : Option AV → ST → Prop} (k : o_ll L st S (fun L st S => o_ll L st S (fun L st S => o_lmul L st S (fun L st S => t_lr st S Q)) 3) 1) : V MX2_calculated h 36 L st S Q :=
  v_lload_n dX2_calculated_36 rfl (fun L st S k => v_lload_n dX2_calculated_37 rfl (fun L st S k => v_lmul dX2_calculated_38 (fun L st S k => w_lr dX2_calculated_39 rfl k) k) k) k
theorem b_X2_calculated_40 {h : Nat} {L : LVs} {st : List AV} {S : ST} {Q : Option AV → ST → Prop} (k : o_ll L st S (fun L st S => o_lc L st S (fun L st S => o_lcmp L st S (fun L st S => t_1 L st S (fun x => x = nI 0) (fun L st S => V MX2_calculated h 46 L st S Q) (fun L st S => V MX2_calculated h 50 L st S Q))) (lN 0)) 3) : V MX2_calculated h 40 L st S Q :=
  v_lload_n dX2_calculated_40 rfl (fun L st S k => v_lconst dX2_calculated_41 (by decide) (fun L st S k => v_lcmp dX2_calculated_42 (fun L st S k => w_if_ne dX2_calculated_43 (by decide) rfl k) k) k) k
theorem b_X2_calculated_46 {h : Nat} {L : LVs} {st : List AV} {S : ST} {Q : Option AV → ST → Prop} (k : o_lc L st S (fun L st S => V MX2_calculated h 53 L st S Q) (lN 0)) : V MX2_calculated h 46 L st S Q :=
  v_lconst dX2_calculated_46 (by decide) (fun L st S k => v_goto dX2_calculated_47 (by decide) k) k
theorem b_X2_calculated_50 {h : Nat} {L : LVs} {st : List AV} {S : ST} {Q : Option AV → ST → Prop} (k : o_ll L st S (fun L st S => o_ll L st S (fun L st S => o_ldiv L st S (fun L st S => V MX2_calculated h 53 L st S Q)) 3) 1) : V MX2_calculated h 50 L st S Q :=
  v_lload_n dX2_calculated_50 rfl (fun L st S k => v_lload_n dX2_calculated_51 rfl (fun L st S k => v_ldiv dX2_calculated_52 (fun L st S k => k) k) k) k
theorem b_X2_calculated_53 {h : Nat} {L : LVs} {st : List AV} {S : ST} {Q : Option AV → ST → Prop} (k : t_lr st S Q) : V MX2_calculated h 53 L st S Q :=
  w_lr dX2_calculated_53 rfl k
theorem b_X2_calculated_54 {h : Nat} {L : LVs} {st : List AV} {S : ST} {Q : Option AV → ST → Prop} (k : o_ll L st S (fun L st S => o_ll L st S (fun L st S => o_lsub L st S (fun L st S => t_lr st S Q)) 3) 1) : V MX2_calculated h 54 L st S Q :=
  v_lload_n dX2_calculated_54 rfl (fun L st S k => v_lload_n dX2_calculated_55 rfl (fun L st S k => v_lsub dX2_calculated_56 (fun L st S k => w_lr dX2_calculated_57 rfl k) k) k) k
-- QueryForge$Machine.compare(I)V
theorem dX2_compare_0 : decode cX2_compare 0 = .ok (.aload_n 0, 1) := by decide +kernel
theorem dX2_compare_1 : decode cX2_compare 1 = .ok (.invokevirtual 148, 3) := by decide +kernel
theorem dX2_compare_4 : decode cX2_compare 4 = .ok (.aload_n 0, 1) := by decide +kernel
theorem dX2_compare_5 : decode cX2_compare 5 = .ok (.getfield 19, 3) := by decide +kernel
theorem dX2_compare_8 : decode cX2_compare 8 = .ok (.aload_n 0, 1) := by decide +kernel
theorem dX2_compare_9 : decode cX2_compare 9 = .ok (.getfield 68, 3) := by decide +kernel
theorem dX2_compare_12 : decode cX2_compare 12 = .ok (.iaload, 1) := by decide +kernel
theorem dX2_compare_13 : decode cX2_compare 13 = .ok (.istore_n 2, 1) := by decide +kernel
theorem dX2_compare_14 : decode cX2_compare 14 = .ok (.aload_n 0, 1) := by decide +kernel
theorem dX2_compare_15 : decode cX2_compare 15 = .ok (.getfield 23, 3) := by decide +kernel
theorem dX2_compare_18 : decode cX2_compare 18 = .ok (.aload_n 0, 1) := by decide +kernel
theorem dX2_compare_19 : decode cX2_compare 19 = .ok (.getfield 68, 3) := by decide +kernel
theorem dX2_compare_22 : decode cX2_compare 22 = .ok (.baload, 1) := by decide +kernel
theorem dX2_compare_23 : decode cX2_compare 23 = .ok (.istore_n 3, 1) := by decide +kernel
theorem dX2_compare_24 : decode cX2_compare 24 = .ok (.aload_n 0, 1) := by decide +kernel
theorem dX2_compare_25 : decode cX2_compare 25 = .ok (.invokevirtual 148, 3) := by decide +kernel
theorem dX2_compare_28 : decode cX2_compare 28 = .ok (.aload_n 0, 1) := by decide +kernel
theorem dX2_compare_29 : decode cX2_compare 29 = .ok (.getfield 19, 3) := by decide +kernel
theorem dX2_compare_32 : decode cX2_compare 32 = .ok (.aload_n 0, 1) := by decide +kernel
theorem dX2_compare_33 : decode cX2_compare 33 = .ok (.getfield 68, 3) := by decide +kernel
theorem dX2_compare_36 : decode cX2_compare 36 = .ok (.iaload, 1) := by decide +kernel
theorem dX2_compare_37 : decode cX2_compare 37 = .ok (.istore 4, 2) := by decide +kernel
theorem dX2_compare_39 : decode cX2_compare 39 = .ok (.iload_n 3, 1) := by decide +kernel
theorem dX2_compare_40 : decode cX2_compare 40 = .ok (.ifCond .ne 15, 3) := by decide +kernel
theorem dX2_compare_43 : decode cX2_compare 43 = .ok (.aload_n 0, 1) := by decide +kernel
theorem dX2_compare_44 : decode cX2_compare 44 = .ok (.getfield 23, 3) := by decide +kernel
theorem dX2_compare_47 : decode cX2_compare 47 = .ok (.aload_n 0, 1) := by decide +kernel
theorem dX2_compare_48 : decode cX2_compare 48 = .ok (.getfield 68, 3) := by decide +kernel
theorem dX2_compare_51 : decode cX2_compare 51 = .ok (.baload, 1) := by decide +kernel
theorem dX2_compare_52 : decode cX2_compare 52 = .ok (.ifCond .eq 7, 3) := by decide +kernel
theorem dX2_compare_55 : decode cX2_compare 55 = .ok (.iconst 1, 1) := by decide +kernel
theorem dX2_compare_56 : decode cX2_compare 56 = .ok (.goto 4, 3) := by decide +kernel
theorem dX2_compare_59 : decode cX2_compare 59 = .ok (.iconst 0, 1) := by decide +kernel
theorem dX2_compare_60 : decode cX2_compare 60 = .ok (.istore_n 3, 1) := by decide +kernel
theorem dX2_compare_61 : decode cX2_compare 61 = .ok (.aload_n 0, 1) := by decide +kernel
theorem dX2_compare_62 : decode cX2_compare 62 = .ok (.iload_n 3, 1) := by decide +kernel
theorem dX2_compare_63 : decode cX2_compare 63 = .ok (.ifCond .eq 7, 3) := by decide +kernel
theorem dX2_compare_66 : decode cX2_compare 66 = .ok (.iconst 1, 1) := by decide +kernel
theorem dX2_compare_67 : decode cX2_compare 67 = .ok (.goto 18, 3) := by decide +kernel
theorem dX2_compare_70 : decode cX2_compare 70 = .ok (.iload_n 1, 1) := by decide +kernel
theorem dX2_compare_71 : decode cX2_compare 71 = .ok (.iload 4, 2) := by decide +kernel
theorem dX2_compare_73 : decode cX2_compare 73 = .ok (.iload_n 2, 1) := by decide +kernel
theorem dX2_compare_74 : decode cX2_compare 74 = .ok (.invokestatic 162, 3) := by decide +kernel
theorem dX2_compare_77 : decode cX2_compare 77 = .ok (.ifCond .eq 7, 3) := by decide +kernel
theorem dX2_compare_80 : decode cX2_compare 80 = .ok (.iconst 2, 1) := by decide +kernel
theorem dX2_compare_81 : decode cX2_compare 81 = .ok (.goto 4, 3) := by decide +kernel
theorem dX2_compare_84 : decode cX2_compare 84 = .ok (.iconst 0, 1) := by decide +kernel
theorem dX2_compare_85 : decode cX2_compare 85 = .ok (.iconst 0, 1) := by decide +kernel
theorem dX2_compare_86 : decode cX2_compare 86 = .ok (.invokevirtual 128, 3) := by decide +kernel
theorem dX2_compare_89 : decode cX2_compare 89 = .ok (.return_, 1) := by decide +kernel
theorem b_X2_compare_0 {h : Nat} {L : LVs} {st : List AV} {S : ST} {Q : Option AV → ST → Prop} (k : o_al L st S (fun L st S => V MX2_compare h 1 L st S Q) 0) : V MX2_compare h 0 L st S Q :=
  v_aload_n dX2_compare_0 rfl (fun L st S k => k) k
theorem k_X2_compare_1 {h : Nat} {L : LVs} {st : List AV} {S : ST} {Q Q' : Option AV → ST → Prop} {j : Nat} (hC : Ct MX2_pop h [vR 2 j] S Q') (k : ∀ (r : Option AV) (S' : ST), Q' r S' → V MX2_compare (h + 1) 4 L (r.toList ++ st) S' Q) (hj : j < NI 2) (hw : wid st ≤ 8) : V MX2_compare (h + 1) 1 L (vR 2 j :: st) S Q :=
  v_callV (M' := MX2_pop) (c := 2) (As := []) dX2_compare_1 ml_X2_148 im_X2_pop se_X2_pop in_X2 cd_X2_pop rfl LY_2 np_X2_pop (by decide) hw hj hC k
theorem b_X2_compare_4 {h : Nat} {L : LVs} {st : List AV} {S : ST} {Q : Option AV → ST → Prop} (k : o_al L st S (fun L st S => o_get L st S (fun L st S => o_al L st S (fun L st S => o_get L st S (fun L st S => o_iald L st S (fun L st S => o_is L st S (fun L st S => o_al L st S (fun L st S => o_get L st S (fun L st S => o_al L st S (fun L st S => o_get L st S (fun L st S => o_zald L st S (fun L st S => o_is L st S (fun L st S => o_al L st S (fun L st S => V MX2_compare h 25 L st S Q) 0) 3)) 2 11 (0, 0, 0)) 0) 2 3 (3, 16, 0)) 0) 2)) 2 11 (0, 0, 0)) 0) 2 2 (3, 15, 0)) 0) : V MX2_compare h 4 L st S Q :=
  v_aload_n dX2_compare_4 rfl (fun L st S k => v_get dX2_compare_5 rfl iX2 LY_2 rfl (by decide) rfl fl_X2_19 (fun L st S k => v_aload_n dX2_compare_8 rfl (fun L st S k => v_get dX2_compare_9 rfl iX2 LY_2 rfl (by decide) rfl fl_X2_68 (fun L st S k => v_iaload dX2_compare_12 (fun L st S k => v_istore_n dX2_compare_13 rfl (by decide) (fun L st S k => v_aload_n dX2_compare_14 rfl (fun L st S k => v_get dX2_compare_15 rfl iX2 LY_2 rfl (by decide) rfl fl_X2_23 (fun L st S k => v_aload_n dX2_compare_18 rfl (fun L st S k => v_get dX2_compare_19 rfl iX2 LY_2 rfl (by decide) rfl fl_X2_68 (fun L st S k => v_zaload dX2_compare_22 (fun L st S k => v_istore_n dX2_compare_23 rfl (by decide) (fun L st S k => v_aload_n dX2_compare_24 rfl (fun L st S k => k) k) k) k) k) k) k) k) k) k) k) k) k) k
theorem k_X2_compare_25 {h : Nat} {L : LVs} {st : List AV} {S : ST} {Q Q' : Option AV → ST → Prop} {j : Nat} (hC : Ct MX2_pop h [vR 2 j] S Q') (k : ∀ (r : Option AV) (S' : ST), Q' r S' → V MX2_compare (h + 1) 28 L (r.toList ++ st) S' Q) (hj : j < NI 2) (hw : wid st ≤ 8) : V MX2_compare (h + 1) 25 L (vR 2 j :: st) S Q :=
  v_callV (M' := MX2_pop) (c := 2) (As := []) dX2_compare_25 ml_X2_148 im_X2_pop se_X2_pop in_X2 cd_X2_pop rfl LY_2 np_X2_pop (by decide) hw hj hC k
theorem b_X2_compare_28 {h : Nat} {L : LVs} {st : List AV} {S : ST} {Q : Option AV → ST → Prop} (k : o_al L st S (fun L st S => o_get L st S (fun L st S => o_al L st S (fun L st S => o_get L st S (fun L st S => o_iald L st S (fun L st S => o_is L st S (fun L st S => o_il L st S (fun L st S => t_1 L st S (fun x => x = nI 0) (fun L st S => V MX2_compare h 43 L st S Q) (fun L st S => V MX2_compare h 55 L st S Q)) 3) 4)) 2 11 (0, 0, 0)) 0) 2 2 (3, 15, 0)) 0) : V MX2_compare h 28 L st S Q :=
  v_aload_n dX2_compare_28 rfl (fun L st S k => v_get dX2_compare_29 rfl iX2 LY_2 rfl (by decide) rfl fl_X2_19 (fun L st S k => v_aload_n dX2_compare_32 rfl (fun L st S k => v_get dX2_compare_33 rfl iX2 LY_2 rfl (by decide) rfl fl_X2_68 (fun L st S k => v_iaload dX2_compare_36 (fun L st S k => v_istore dX2_compare_37 (by decide) (fun L st S k => v_iload_n dX2_compare_39 rfl (fun L st S k => w_if_ne dX2_compare_40 (by decide) rfl k) k) k) k) k) k) k) k
theorem b_X2_compare_43 {h : Nat} {L : LVs} {st : List AV} {S : ST} {Q : Option AV → ST → Prop} (k : o_al L st S (fun L st S => o_get L st S (fun L st S => o_al L st S (fun L st S => o_get L st S (fun L st S => o_zald L st S (fun L st S => t_1 L st S (fun x => x = nI 0) (fun L st S => V MX2_compare h 59 L st S Q) (fun L st S => V MX2_compare h 55 L st S Q))) 2 11 (0, 0, 0)) 0) 2 3 (3, 16, 0)) 0) : V MX2_compare h 43 L st S Q :=
  v_aload_n dX2_compare_43 rfl (fun L st S k => v_get dX2_compare_44 rfl iX2 LY_2 rfl (by decide) rfl fl_X2_23 (fun L st S k => v_aload_n dX2_compare_47 rfl (fun L st S k => v_get dX2_compare_48 rfl iX2 LY_2 rfl (by decide) rfl fl_X2_68 (fun L st S k => v_zaload dX2_compare_51 (fun L st S k => w_if_eq dX2_compare_52 (by decide) rfl k) k) k) k) k) k
theorem b_X2_compare_55 {h : Nat} {L : LVs} {st : List AV} {S : ST} {Q : Option AV → ST → Prop} (k : o_c L st S (fun L st S => V MX2_compare h 60 L st S Q) (nI 1)) : V MX2_compare h 55 L st S Q :=
  v_iconst dX2_compare_55 (by decide) (fun L st S k => v_goto dX2_compare_56 (by decide) k) k
theorem b_X2_compare_59 {h : Nat} {L : LVs} {st : List AV} {S : ST} {Q : Option AV → ST → Prop} (k : o_c L st S (fun L st S => V MX2_compare h 60 L st S Q) (nI 0)) : V MX2_compare h 59 L st S Q :=
  v_iconst dX2_compare_59 (by decide) (fun L st S k => k) k
theorem b_X2_compare_60 {h : Nat} {L : LVs} {st : List AV} {S : ST} {Q : Option AV → ST → Prop} (k : o_is L st S (fun L st S => o_al L st S (fun L st S => o_il L st S (fun L st S => t_1 L st S (fun x => x = nI 0) (fun L st S => V MX2_compare h 70 L st S Q) (fun L st S => V MX2_compare h 66 L st S Q)) 3) 0) 3) : V MX2_compare h 60 L st S Q :=
  v_istore_n dX2_compare_60 rfl (by decide) (fun L st S k => v_aload_n dX2_compare_61 rfl (fun L st S k => v_iload_n dX2_compare_62 rfl (fun L st S k => w_if_eq dX2_compare_63 (by decide) rfl k) k) k) k
theorem b_X2_compare_66 {h : Nat} {L : LVs} {st : List AV} {S : ST} {Q : Option AV → ST → Prop} (k : o_c L st S (fun L st S => V MX2_compare h 85 L st S Q) (nI 1)) : V MX2_compare h 66 L st S Q :=
  v_iconst dX2_compare_66 (by decide) (fun L st S k => v_goto dX2_compare_67 (by decide) k) k
theorem b_X2_compare_70 {h : Nat} {L : LVs} {st : List AV} {S : ST} {Q : Option AV → ST → Prop} (k : o_il L st S (fun L st S => o_il L st S (fun L st S => o_il L st S (fun L st S => V MX2_compare h 74 L st S Q) 2) 4) 1) : V MX2_compare h 70 L st S Q :=
  v_iload_n dX2_compare_70 rfl (fun L st S k => v_iload dX2_compare_71 (fun L st S k => v_iload_n dX2_compare_73 rfl (fun L st S k => k) k) k) k
theorem k_X2_compare_74 {h : Nat} {L : LVs} {st : List AV} {S : ST} {Q Q' : Option AV → ST → Prop} {a0 a1 a2 : AV} (hC : Ct MX2_holds h [a0, a1, a2] S Q') (k : ∀ (r : Option AV) (S' : ST), Q' r S' → V MX2_compare (h + 1) 77 L (r.toList ++ st) S' Q) (hw : wid st ≤ 8) : V MX2_compare (h + 1) 74 L (a2 :: a1 :: a0 :: st) S Q :=
  v_callS (M' := MX2_holds) (As := [a0, a1, a2]) dX2_compare_74 ml_X2_162 sm_X2_holds in_X2 cd_X2_holds ⟨rfl, np_X2_holds⟩ (by decide) hw hC k
theorem b_X2_compare_77 {h : Nat} {L : LVs} {st : List AV} {S : ST} {Q : Option AV → ST → Prop} (k : t_1 L st S (fun x => x = nI 0) (fun L st S => V MX2_compare h 84 L st S Q) (fun L st S => V MX2_compare h 80 L st S Q)) : V MX2_compare h 77 L st S Q :=
  w_if_eq dX2_compare_77 (by decide) rfl k
theorem b_X2_compare_80 {h : Nat} {L : LVs} {st : List AV} {S : ST} {Q : Option AV → ST → Prop} (k : o_c L st S (fun L st S => V MX2_compare h 85 L st S Q) (nI 2)) : V MX2_compare h 80 L st S Q :=
  v_iconst dX2_compare_80 (by decide) (fun L st S k => v_goto dX2_compare_81 (by decide) k) k
theorem b_X2_compare_84 {h : Nat} {L : LVs} {st : List AV} {S : ST} {Q : Option AV → ST → Prop} (k : o_c L st S (fun L st S => V MX2_compare h 85 L st S Q) (nI 0)) : V MX2_compare h 84 L st S Q :=
  v_iconst dX2_compare_84 (by decide) (fun L st S k => k) k
theorem b_X2_compare_85 {h : Nat} {L : LVs} {st : List AV} {S : ST} {Q : Option AV → ST → Prop} (k : o_c L st S (fun L st S => V MX2_compare h 86 L st S Q) (nI 0)) : V MX2_compare h 85 L st S Q :=
  v_iconst dX2_compare_85 (by decide) (fun L st S k => k) k
theorem k_X2_compare_86 {h : Nat} {L : LVs} {st : List AV} {S : ST} {Q Q' : Option AV → ST → Prop} {j : Nat} {a0 a1 : AV} (hC : Ct MX2_push h [vR 2 j, a0, a1] S Q') (k : ∀ (r : Option AV) (S' : ST), Q' r S' → V MX2_compare (h + 1) 89 L (r.toList ++ st) S' Q) (hj : j < NI 2) (hw : wid st ≤ 8) : V MX2_compare (h + 1) 86 L (a1 :: a0 :: vR 2 j :: st) S Q :=
  v_callV (M' := MX2_push) (c := 2) (As := [a0, a1]) dX2_compare_86 ml_X2_128 im_X2_push se_X2_push in_X2 cd_X2_push rfl LY_2 np_X2_push (by decide) hw hj hC k
theorem b_X2_compare_89 {h : Nat} {L : LVs} {st : List AV} {S : ST} {Q : Option AV → ST → Prop} (k : t_vr st S Q) : V MX2_compare h 89 L st S Q :=
  w_vr dX2_compare_89 rfl k
-- QueryForge$Machine.holds(III)Z
theorem dX2_holds_0 : decode cX2_holds 0 = .ok (.iload_n 0, 1) := by decide +kernel
theorem dX2_holds_1 : decode cX2_holds 1 = .ok (.tableswitch 90 11 15 #[35, 46, 57, 68, 79], 35) := by decide +kernel
theorem dX2_holds_36 : decode cX2_holds 36 = .ok (.iload_n 1, 1) := by decide +kernel
theorem dX2_holds_37 : decode cX2_holds 37 = .ok (.iload_n 2, 1) := by decide +kernel
theorem dX2_holds_38 : decode cX2_holds 38 = .ok (.if_icmp .ne 7, 3) := by decide +kernel
theorem dX2_holds_41 : decode cX2_holds 41 = .ok (.iconst 1, 1) := by decide +kernel
theorem dX2_holds_42 : decode cX2_holds 42 = .ok (.goto 4, 3) := by decide +kernel
theorem dX2_holds_45 : decode cX2_holds 45 = .ok (.iconst 0, 1) := by decide +kernel
theorem dX2_holds_46 : decode cX2_holds 46 = .ok (.ireturn, 1) := by decide +kernel
theorem dX2_holds_47 : decode cX2_holds 47 = .ok (.iload_n 1, 1) := by decide +kernel
theorem dX2_holds_48 : decode cX2_holds 48 = .ok (.iload_n 2, 1) := by decide +kernel
theorem dX2_holds_49 : decode cX2_holds 49 = .ok (.if_icmp .eq 7, 3) := by decide +kernel
theorem dX2_holds_52 : decode cX2_holds 52 = .ok (.iconst 1, 1) := by decide +kernel
theorem dX2_holds_53 : decode cX2_holds 53 = .ok (.goto 4, 3) := by decide +kernel
theorem dX2_holds_56 : decode cX2_holds 56 = .ok (.iconst 0, 1) := by decide +kernel
theorem dX2_holds_57 : decode cX2_holds 57 = .ok (.ireturn, 1) := by decide +kernel
theorem dX2_holds_58 : decode cX2_holds 58 = .ok (.iload_n 1, 1) := by decide +kernel
theorem dX2_holds_59 : decode cX2_holds 59 = .ok (.iload_n 2, 1) := by decide +kernel
theorem dX2_holds_60 : decode cX2_holds 60 = .ok (.if_icmp .ge 7, 3) := by decide +kernel
theorem dX2_holds_63 : decode cX2_holds 63 = .ok (.iconst 1, 1) := by decide +kernel
theorem dX2_holds_64 : decode cX2_holds 64 = .ok (.goto 4, 3) := by decide +kernel
theorem dX2_holds_67 : decode cX2_holds 67 = .ok (.iconst 0, 1) := by decide +kernel
theorem dX2_holds_68 : decode cX2_holds 68 = .ok (.ireturn, 1) := by decide +kernel
theorem dX2_holds_69 : decode cX2_holds 69 = .ok (.iload_n 1, 1) := by decide +kernel
theorem dX2_holds_70 : decode cX2_holds 70 = .ok (.iload_n 2, 1) := by decide +kernel
theorem dX2_holds_71 : decode cX2_holds 71 = .ok (.if_icmp .le 7, 3) := by decide +kernel
theorem dX2_holds_74 : decode cX2_holds 74 = .ok (.iconst 1, 1) := by decide +kernel
theorem dX2_holds_75 : decode cX2_holds 75 = .ok (.goto 4, 3) := by decide +kernel
theorem dX2_holds_78 : decode cX2_holds 78 = .ok (.iconst 0, 1) := by decide +kernel
theorem dX2_holds_79 : decode cX2_holds 79 = .ok (.ireturn, 1) := by decide +kernel
theorem dX2_holds_80 : decode cX2_holds 80 = .ok (.iload_n 1, 1) := by decide +kernel
theorem dX2_holds_81 : decode cX2_holds 81 = .ok (.iload_n 2, 1) := by decide +kernel
theorem dX2_holds_82 : decode cX2_holds 82 = .ok (.if_icmp .gt 7, 3) := by decide +kernel
theorem dX2_holds_85 : decode cX2_holds 85 = .ok (.iconst 1, 1) := by decide +kernel
theorem dX2_holds_86 : decode cX2_holds 86 = .ok (.goto 4, 3) := by decide +kernel
theorem dX2_holds_89 : decode cX2_holds 89 = .ok (.iconst 0, 1) := by decide +kernel
theorem dX2_holds_90 : decode cX2_holds 90 = .ok (.ireturn, 1) := by decide +kernel
theorem dX2_holds_91 : decode cX2_holds 91 = .ok (.iload_n 1, 1) := by decide +kernel
theorem dX2_holds_92 : decode cX2_holds 92 = .ok (.iload_n 2, 1) := by decide +kernel
theorem dX2_holds_93 : decode cX2_holds 93 = .ok (.if_icmp .lt 7, 3) := by decide +kernel
theorem dX2_holds_96 : decode cX2_holds 96 = .ok (.iconst 1, 1) := by decide +kernel
theorem dX2_holds_97 : decode cX2_holds 97 = .ok (.goto 4, 3) := by decide +kernel
theorem dX2_holds_100 : decode cX2_holds 100 = .ok (.iconst 0, 1) := by decide +kernel
theorem dX2_holds_101 : decode cX2_holds 101 = .ok (.ireturn, 1) := by decide +kernel
theorem b_X2_holds_0 {h : Nat} {L : LVs} {st : List AV} {S : ST} {Q : Option AV → ST → Prop} (k : o_il L st S (fun L st S => t_sw L st S [((nI 11), fun L st S => V MX2_holds h 36 L st S Q), ((nI 12), fun L st S => V MX2_holds h 47 L st S Q), ((nI 13), fun L st S => V MX2_holds h 58 L st S Q), ((nI 14), fun L st S => V MX2_holds h 69 L st S Q), ((nI 15), fun L st S => V MX2_holds h 80 L st S Q)] (fun L st S => V MX2_holds h 91 L st S Q)) 0) : V MX2_holds h 0 L st S Q :=
  v_iload_n dX2_holds_0 rfl (fun L st S k => w_tsw [((nI 11), 36), ((nI 12), 47), ((nI 13), 58), ((nI 14), 69), ((nI 15), 80)] dX2_holds_1 (n := 5) (by decide) rfl (by decide) (by decide) (by decide) k) k
theorem b_X2_holds_36 {h : Nat} {L : LVs} {st : List AV} {S : ST} {Q : Option AV → ST → Prop} (k : o_il L st S (fun L st S => o_il L st S (fun L st S => t_2 L st S (fun x y => x = y) (fun L st S => V MX2_holds h 41 L st S Q) (fun L st S => V MX2_holds h 45 L st S Q)) 2) 1) : V MX2_holds h 36 L st S Q :=
  v_iload_n dX2_holds_36 rfl (fun L st S k => v_iload_n dX2_holds_37 rfl (fun L st S k => w_icmp_ne dX2_holds_38 (by decide) rfl k) k) k
theorem b_X2_holds_41 {h : Nat} {L : LVs} {st : List AV} {S : ST} {Q : Option AV → ST → Prop} (k : o_c L st S (fun L st S => V MX2_holds h 46 L st S Q) (nI 1)) : V MX2_holds h 41 L st S Q :=
  v_iconst dX2_holds_41 (by decide) (fun L st S k => v_goto dX2_holds_42 (by decide) k) k
theorem b_X2_holds_45 {h : Nat} {L : LVs} {st : List AV} {S : ST} {Q : Option AV → ST → Prop} (k : o_c L st S (fun L st S => V MX2_holds h 46 L st S Q) (nI 0)) : V MX2_holds h 45 L st S Q :=
  v_iconst dX2_holds_45 (by decide) (fun L st S k => k) k
theorem b_X2_holds_46 {h : Nat} {L : LVs} {st : List AV} {S : ST} {Q : Option AV → ST → Prop} (k : t_zr st S Q) : V MX2_holds h 46 L st S Q :=
  w_zr dX2_holds_46 rfl k
theorem b_X2_holds_47 {h : Nat} {L : LVs} {st : List AV} {S : ST} {Q : Option AV → ST → Prop} (k : o_il L st S (fun L st S => o_il L st S (fun L st S => t_2 L st S (fun x y => x = y) (fun L st S => V MX2_holds h 56 L st S Q) (fun L st S => V MX2_holds h 52 L st S Q)) 2) 1) : V MX2_holds h 47 L st S Q :=
  v_iload_n dX2_holds_47 rfl (fun L st S k => v_iload_n dX2_holds_48 rfl (fun L st S k => w_icmp_eq dX2_holds_49 (by decide) rfl k) k) k
theorem b_X2_holds_52 {h : Nat} {L : LVs} {st : List AV} {S : ST} {Q : Option AV → ST → Prop} (k : o_c L st S (fun L st S => V MX2_holds h 57 L st S Q) (nI 1)) : V MX2_holds h 52 L st S Q :=
  v_iconst dX2_holds_52 (by decide) (fun L st S k => v_goto dX2_holds_53 (by decide) k) k
theorem b_X2_holds_56 {h : Nat} {L : LVs} {st : List AV} {S : ST} {Q : Option AV → ST → Prop} (k : o_c L st S (fun L st S => V MX2_holds h 57 L st S Q) (nI 0)) : V MX2_holds h 56 L st S Q :=
  v_iconst dX2_holds_56 (by decide) (fun L st S k => k) k
theorem b_X2_holds_57 {h : Nat} {L : LVs} {st : List AV} {S : ST} {Q : Option AV → ST → Prop} (k : t_zr st S Q) : V MX2_holds h 57 L st S Q :=
  w_zr dX2_holds_57 rfl k
theorem b_X2_holds_58 {h : Nat} {L : LVs} {st : List AV} {S : ST} {Q : Option AV → ST → Prop} (k : o_il L st S (fun L st S => o_il L st S (fun L st S => t_2 L st S (fun x y => y ≤ x) (fun L st S => V MX2_holds h 67 L st S Q) (fun L st S => V MX2_holds h 63 L st S Q)) 2) 1) : V MX2_holds h 58 L st S Q :=
  v_iload_n dX2_holds_58 rfl (fun L st S k => v_iload_n dX2_holds_59 rfl (fun L st S k => w_icmp_ge dX2_holds_60 (by decide) rfl k) k) k
theorem b_X2_holds_63 {h : Nat} {L : LVs} {st : List AV} {S : ST} {Q : Option AV → ST → Prop} (k : o_c L st S (fun L st S => V MX2_holds h 68 L st S Q) (nI 1)) : V MX2_holds h 63 L st S Q :=
  v_iconst dX2_holds_63 (by decide) (fun L st S k => v_goto dX2_holds_64 (by decide) k) k
theorem b_X2_holds_67 {h : Nat} {L : LVs} {st : List AV} {S : ST} {Q : Option AV → ST → Prop} (k : o_c L st S (fun L st S => V MX2_holds h 68 L st S Q) (nI 0)) : V MX2_holds h 67 L st S Q :=
  v_iconst dX2_holds_67 (by decide) (fun L st S k => k) k
theorem b_X2_holds_68 {h : Nat} {L : LVs} {st : List AV} {S : ST} {Q : Option AV → ST → Prop} (k : t_zr st S Q) : V MX2_holds h 68 L st S Q :=
  w_zr dX2_holds_68 rfl k
theorem b_X2_holds_69 {h : Nat} {L : LVs} {st : List AV} {S : ST} {Q : Option AV → ST → Prop} (k : o_il L st S (fun L st S => o_il L st S (fun L st S => t_2 L st S (fun x y => x ≤ y) (fun L st S => V MX2_holds h 78 L st S Q) (fun L st S => V MX2_holds h 74 L st S Q)) 2) 1) : V MX2_holds h 69 L st S Q :=
  v_iload_n dX2_holds_69 rfl (fun L st S k => v_iload_n dX2_holds_70 rfl (fun L st S k => w_icmp_le dX2_holds_71 (by decide) rfl k) k) k
theorem b_X2_holds_74 {h : Nat} {L : LVs} {st : List AV} {S : ST} {Q : Option AV → ST → Prop} (k : o_c L st S (fun L st S => V MX2_holds h 79 L st S Q) (nI 1)) : V MX2_holds h 74 L st S Q :=
  v_iconst dX2_holds_74 (by decide) (fun L st S k => v_goto dX2_holds_75 (by decide) k) k
theorem b_X2_holds_78 {h : Nat} {L : LVs} {st : List AV} {S : ST} {Q : Option AV → ST → Prop} (k : o_c L st S (fun L st S => V MX2_holds h 79 L st S Q) (nI 0)) : V MX2_holds h 78 L st S Q :=
  v_iconst dX2_holds_78 (by decide) (fun L st S k => k) k
theorem b_X2_holds_79 {h : Nat} {L : LVs} {st : List AV} {S : ST} {Q : Option AV → ST → Prop} (k : t_zr st S Q) : V MX2_holds h 79 L st S Q :=
  w_zr dX2_holds_79 rfl k
theorem b_X2_holds_80 {h : Nat} {L : LVs} {st : List AV} {S : ST} {Q : Option AV → ST → Prop} (k : o_il L st S (fun L st S => o_il L st S (fun L st S => t_2 L st S (fun x y => y < x) (fun L st S => V MX2_holds h 89 L st S Q) (fun L st S => V MX2_holds h 85 L st S Q)) 2) 1) : V MX2_holds h 80 L st S Q :=
  v_iload_n dX2_holds_80 rfl (fun L st S k => v_iload_n dX2_holds_81 rfl (fun L st S k => w_icmp_gt dX2_holds_82 (by decide) rfl k) k) k
theorem b_X2_holds_85 {h : Nat} {L : LVs} {st : List AV} {S : ST} {Q : Option AV → ST → Prop} (k : o_c L st S (fun L st S => V MX2_holds h 90 L st S Q) (nI 1)) : V MX2_holds h 85 L st S Q :=
  v_iconst dX2_holds_85 (by decide) (fun L st S k => v_goto dX2_holds_86 (by decide) k) k
theorem b_X2_holds_89 {h : Nat} {L : LVs} {st : List AV} {S : ST} {Q : Option AV → ST → Prop} (k : o_c L st S (fun L st S => V MX2_holds h 90 L st S Q) (nI 0)) : V MX2_holds h 89 L st S Q :=
  v_iconst dX2_holds_89 (by decide) (fun L st S k => k) k
theorem b_X2_holds_90 {h : Nat} {L : LVs} {st : List AV} {S : ST} {Q : Option AV → ST → Prop} (k : t_zr st S Q) : V MX2_holds h 90 L st S Q :=
  w_zr dX2_holds_90 rfl k
theorem b_X2_holds_91 {h : Nat} {L : LVs} {st : List AV} {S : ST} {Q : Option AV → ST → Prop} (k : o_il L st S (fun L st S => o_il L st S (fun L st S => t_2 L st S (fun x y => x < y) (fun L st S => V MX2_holds h 100 L st S Q) (fun L st S => V MX2_holds h 96 L st S Q)) 2) 1) : V MX2_holds h 91 L st S Q :=
  v_iload_n dX2_holds_91 rfl (fun L st S k => v_iload_n dX2_holds_92 rfl (fun L st S k => w_icmp_lt dX2_holds_93 (by decide) rfl k) k) k
theorem b_X2_holds_96 {h : Nat} {L : LVs} {st : List AV} {S : ST} {Q : Option AV → ST → Prop} (k : o_c L st S (fun L st S => V MX2_holds h 101 L st S Q) (nI 1)) : V MX2_holds h 96 L st S Q :=
  v_iconst dX2_holds_96 (by decide) (fun L st S k => v_goto dX2_holds_97 (by decide) k) k
theorem b_X2_holds_100 {h : Nat} {L : LVs} {st : List AV} {S : ST} {Q : Option AV → ST → Prop} (k : o_c L st S (fun L st S => V MX2_holds h 101 L st S Q) (nI 0)) : V MX2_holds h 100 L st S Q :=
  v_iconst dX2_holds_100 (by decide) (fun L st S k => k) k
theorem b_X2_holds_101 {h : Nat} {L : LVs} {st : List AV} {S : ST} {Q : Option AV → ST → Prop} (k : t_zr st S Q) : V MX2_holds h 101 L st S Q :=
  w_zr dX2_holds_101 rfl k
-- QueryForge$Machine.judge(I)V
theorem dX2_judge_0 : decode cX2_judge 0 = .ok (.aload_n 0, 1) := by decide +kernel
theorem dX2_judge_1 : decode cX2_judge 1 = .ok (.invokevirtual 148, 3) := by decide +kernel
theorem dX2_judge_4 : decode cX2_judge 4 = .ok (.aload_n 0, 1) := by decide +kernel
theorem dX2_judge_5 : decode cX2_judge 5 = .ok (.getfield 19, 3) := by decide +kernel
theorem dX2_judge_8 : decode cX2_judge 8 = .ok (.aload_n 0, 1) := by decide +kernel
theorem dX2_judge_9 : decode cX2_judge 9 = .ok (.getfield 68, 3) := by decide +kernel
theorem dX2_judge_12 : decode cX2_judge 12 = .ok (.iaload, 1) := by decide +kernel
theorem dX2_judge_13 : decode cX2_judge 13 = .ok (.istore_n 2, 1) := by decide +kernel
theorem dX2_judge_14 : decode cX2_judge 14 = .ok (.iload_n 1, 1) := by decide +kernel
theorem dX2_judge_15 : decode cX2_judge 15 = .ok (.bipush 17, 2) := by decide +kernel
theorem dX2_judge_17 : decode cX2_judge 17 = .ok (.if_icmp .ne 26, 3) := by decide +kernel
theorem dX2_judge_20 : decode cX2_judge 20 = .ok (.aload_n 0, 1) := by decide +kernel
theorem dX2_judge_21 : decode cX2_judge 21 = .ok (.aload_n 0, 1) := by decide +kernel
theorem dX2_judge_22 : decode cX2_judge 22 = .ok (.getfield 23, 3) := by decide +kernel
theorem dX2_judge_25 : decode cX2_judge 25 = .ok (.aload_n 0, 1) := by decide +kernel
theorem dX2_judge_26 : decode cX2_judge 26 = .ok (.getfield 68, 3) := by decide +kernel
theorem dX2_judge_29 : decode cX2_judge 29 = .ok (.baload, 1) := by decide +kernel
theorem dX2_judge_30 : decode cX2_judge 30 = .ok (.ifCond .eq 7, 3) := by decide +kernel
theorem dX2_judge_33 : decode cX2_judge 33 = .ok (.iconst 2, 1) := by decide +kernel
theorem dX2_judge_34 : decode cX2_judge 34 = .ok (.goto 4, 3) := by decide +kernel
theorem dX2_judge_37 : decode cX2_judge 37 = .ok (.iconst 0, 1) := by decide +kernel
theorem dX2_judge_38 : decode cX2_judge 38 = .ok (.iconst 0, 1) := by decide +kernel
theorem dX2_judge_39 : decode cX2_judge 39 = .ok (.invokevirtual 128, 3) := by decide +kernel
theorem dX2_judge_42 : decode cX2_judge 42 = .ok (.return_, 1) := by decide +kernel
theorem dX2_judge_43 : decode cX2_judge 43 = .ok (.iload_n 1, 1) := by decide +kernel
theorem dX2_judge_44 : decode cX2_judge 44 = .ok (.bipush 18, 2) := by decide +kernel
theorem dX2_judge_46 : decode cX2_judge 46 = .ok (.if_icmp .ne 12, 3) := by decide +kernel
theorem dX2_judge_49 : decode cX2_judge 49 = .ok (.aload_n 0, 1) := by decide +kernel
theorem dX2_judge_50 : decode cX2_judge 50 = .ok (.iconst 2, 1) := by decide +kernel
theorem dX2_judge_51 : decode cX2_judge 51 = .ok (.iload_n 2, 1) := by decide +kernel
theorem dX2_judge_52 : decode cX2_judge 52 = .ok (.isub, 1) := by decide +kernel
theorem dX2_judge_53 : decode cX2_judge 53 = .ok (.iconst 0, 1) := by decide +kernel
theorem dX2_judge_54 : decode cX2_judge 54 = .ok (.invokevirtual 128, 3) := by decide +kernel
theorem dX2_judge_57 : decode cX2_judge 57 = .ok (.return_, 1) := by decide +kernel
theorem dX2_judge_58 : decode cX2_judge 58 = .ok (.aload_n 0, 1) := by decide +kernel
theorem dX2_judge_59 : decode cX2_judge 59 = .ok (.invokevirtual 148, 3) := by decide +kernel
theorem dX2_judge_62 : decode cX2_judge 62 = .ok (.aload_n 0, 1) := by decide +kernel
theorem dX2_judge_63 : decode cX2_judge 63 = .ok (.getfield 19, 3) := by decide +kernel
theorem dX2_judge_66 : decode cX2_judge 66 = .ok (.aload_n 0, 1) := by decide +kernel
theorem dX2_judge_67 : decode cX2_judge 67 = .ok (.getfield 68, 3) := by decide +kernel
theorem dX2_judge_70 : decode cX2_judge 70 = .ok (.iaload, 1) := by decide +kernel
theorem dX2_judge_71 : decode cX2_judge 71 = .ok (.istore_n 3, 1) := by decide +kernel
theorem dX2_judge_72 : decode cX2_judge 72 = .ok (.aload_n 0, 1) := by decide +kernel
theorem dX2_judge_73 : decode cX2_judge 73 = .ok (.iload_n 1, 1) := by decide +kernel
theorem dX2_judge_74 : decode cX2_judge 74 = .ok (.bipush 19, 2) := by decide +kernel
theorem dX2_judge_76 : decode cX2_judge 76 = .ok (.if_icmp .ne 11, 3) := by decide +kernel
theorem dX2_judge_79 : decode cX2_judge 79 = .ok (.iload_n 3, 1) := by decide +kernel
theorem dX2_judge_80 : decode cX2_judge 80 = .ok (.iload_n 2, 1) := by decide +kernel
theorem dX2_judge_81 : decode cX2_judge 81 = .ok (.invokestatic 166, 3) := by decide +kernel
theorem dX2_judge_84 : decode cX2_judge 84 = .ok (.goto 8, 3) := by decide +kernel
theorem dX2_judge_87 : decode cX2_judge 87 = .ok (.iload_n 3, 1) := by decide +kernel
theorem dX2_judge_88 : decode cX2_judge 88 = .ok (.iload_n 2, 1) := by decide +kernel
theorem dX2_judge_89 : decode cX2_judge 89 = .ok (.invokestatic 171, 3) := by decide +kernel
theorem dX2_judge_92 : decode cX2_judge 92 = .ok (.iconst 0, 1) := by decide +kernel
theorem dX2_judge_93 : decode cX2_judge 93 = .ok (.invokevirtual 128, 3) := by decide +kernel
theorem dX2_judge_96 : decode cX2_judge 96 = .ok (.return_, 1) := by decide +kernel
theorem b_X2_judge_0 {h : Nat} {L : LVs} {st : List AV} {S : ST} {Q : Option AV → ST → Prop} (k : o_al L st S (fun L st S => V MX2_judge h 1 L st S Q) 0) : V MX2_judge h 0 L st S Q :=
  v_aload_n dX2_judge_0 rfl (fun L st S k => k) k
theorem k_X2_judge_1 {h : Nat} {L : LVs} {st : List AV} {S : ST} {Q Q' : Option AV → ST → Prop} {j : Nat} (hC : Ct MX2_pop h [vR 2 j] S Q') (k : ∀ (r : Option AV) (S' : ST), Q' r S' → V MX2_judge (h + 1) 4 L (r.toList ++ st) S' Q) (hj : j < NI 2) (hw : wid st ≤ 8) : V MX2_judge (h + 1) 1 L (vR 2 j :: st) S Q :=
  v_callV (M' := MX2_pop) (c := 2) (As := []) dX2_judge_1 ml_X2_148 im_X2_pop se_X2_pop in_X2 cd_X2_pop rfl LY_2 np_X2_pop (by decide) hw hj hC k
theorem b_X2_judge_4 {h : Nat} {L : LVs} {st : List AV} {S : ST} {Q : Option AV → ST → Prop} (k : o_al L st S (fun L st S => o_get L st S (fun L st S => o_al L st S (fun L st S => o_get L st S (fun L st S => o_iald L st S (fun L st S => o_is L st S (fun L st S => o_il L st S (fun L st S => o_c L st S (fun L st S => t_2 L st S (fun x y => x = y) (fun L st S => V MX2_judge h 20 L st S Q) (fun L st S => V MX2_judge h 43 L st S Q)) (nI 17)) 1) 2)) 2 11 (0, 0, 0)) 0) 2 2 (3, 15, 0)) 0) : V MX2_judge h 4 L st S Q :=
  v_aload_n dX2_judge_4 rfl (fun L st S k => v_get dX2_judge_5 rfl iX2 LY_2 rfl (by decide) rfl fl_X2_19 (fun L st S k => v_aload_n dX2_judge_8 rfl (fun L st S k => v_get dX2_judge_9 rfl iX2 LY_2 rfl (by decide) rfl fl_X2_68 (fun L st S k => v_iaload dX2_judge_12 (fun L st S k => v_istore_n dX2_judge_13 rfl (by decide) (fun L st S k => v_iload_n dX2_judge_14 rfl (fun L st S k => v_bipush dX2_judge_15 (by decide) (fun L st S k => w_icmp_ne dX2_judge_17 (by decide) rfl k) k) k) k) k) k) k) k) k
theorem b_X2_judge_20 {h : Nat} {L : LVs} {st : List AV} {S : ST} {Q : Option AV → ST → Prop} (k : o_al L st S (fun L st S => o_al L st S (fun L st S => o_get L st S (fun L st S => o_al L st S (fun L st S => o_get L st S (fun L st S => o_zald L st S (fun L st S => t_1 L st S (fun x => x = nI 0) (fun L st S => V MX2_judge h 37 L st S Q) (fun L st S => V MX2_judge h 33 L st S Q))) 2 11 (0, 0, 0)) 0) 2 3 (3, 16, 0)) 0) 0) : V MX2_judge h 20 L st S Q :=
  v_aload_n dX2_judge_20 rfl (fun L st S k => v_aload_n dX2_judge_21 rfl (fun L st S k => v_get dX2_judge_22 rfl iX2 LY_2 rfl (by decide) rfl fl_X2_23 (fun L st S k => v_aload_n dX2_judge_25 rfl (fun L st S k => v_get dX2_judge_26 rfl iX2 LY_2 rfl (by decide) rfl fl_X2_68 (fun L st S k => v_zaload dX2_judge_29 (fun L st S k => w_if_eq dX2_judge_30 (by decide) rfl k) k) k) k) k) k) k
theorem b_X2_judge_33 {h : Nat} {L : LVs} {st : List AV} {S : ST} {Q : Option AV → ST → Prop} (k : o_c L st S (fun L st S => V MX2_judge h 38 L st S Q) (nI 2)) : V MX2_judge h 33 L st S Q :=
  v_iconst dX2_judge_33 (by decide) (fun L st S k => v_goto dX2_judge_34 (by decide) k) k
theorem b_X2_judge_37 {h : Nat} {L : LVs} {st : List AV} {S : ST} {Q : Option AV → ST → Prop} (k : o_c L st S (fun L st S => V MX2_judge h 38 L st S Q) (nI 0)) : V MX2_judge h 37 L st S Q :=
  v_iconst dX2_judge_37 (by decide) (fun L st S k => k) k
theorem b_X2_judge_38 {h : Nat} {L : LVs} {st : List AV} {S : ST} {Q : Option AV → ST → Prop} (k : o_c L st S (fun L st S => V MX2_judge h 39 L st S Q) (nI 0)) : V MX2_judge h 38 L st S Q :=
  v_iconst dX2_judge_38 (by decide) (fun L st S k => k) k
theorem k_X2_judge_39 {h : Nat} {L : LVs} {st : List AV} {S : ST} {Q Q' : Option AV → ST → Prop} {j : Nat} {a0 a1 : AV} (hC : Ct MX2_push h [vR 2 j, a0, a1] S Q') (k : ∀ (r : Option AV) (S' : ST), Q' r S' → V MX2_judge (h + 1) 42 L (r.toList ++ st) S' Q) (hj : j < NI 2) (hw : wid st ≤ 8) : V MX2_judge (h + 1) 39 L (a1 :: a0 :: vR 2 j :: st) S Q :=
  v_callV (M' := MX2_push) (c := 2) (As := [a0, a1]) dX2_judge_39 ml_X2_128 im_X2_push se_X2_push in_X2 cd_X2_push rfl LY_2 np_X2_push (by decide) hw hj hC k
theorem b_X2_judge_42 {h : Nat} {L : LVs} {st : List AV} {S : ST} {Q : Option AV → ST → Prop} (k : t_vr st S Q) : V MX2_judge h 42 L st S Q :=
  w_vr dX2_judge_42 rfl k
theorem b_X2_judge_43 {h : Nat} {L : LVs} {st : List AV} {S : ST} {Q : Option AV → ST → Prop} (k : o_il L st S (fun L st S => o_c L st S (fun L st S => t_2 L st S (fun x y => x = y) (fun L st S => V MX2_judge h 49 L st S Q) (fun L st S => V MX2_judge h 58 L st S Q)) (nI 18)) 1) : V MX2_judge h 43 L st S Q :=
  v_iload_n dX2_judge_43 rfl (fun L st S k => v_bipush dX2_judge_44 (by decide) (fun L st S k => w_icmp_ne dX2_judge_46 (by decide) rfl k) k) k
theorem b_X2_judge_49 {h : Nat} {L : LVs} {st : List AV} {S : ST} {Q : Option AV → ST → Prop} (k : o_al L st S (fun L st S => o_c L st S (fun L st S => o_il L st S (fun L st S => o_isub L st S (fun L st S => o_c L st S (fun L st S => V MX2_judge h 54 L st S Q) (nI 0))) 2) (nI 2)) 0) : V MX2_judge h 49 L st S Q :=
  v_aload_n dX2_judge_49 rfl (fun L st S k => v_iconst dX2_judge_50 (by decide) (fun L st S k => v_iload_n dX2_judge_51 rfl (fun L st S k => v_isub dX2_judge_52 (fun L st S k => v_iconst dX2_judge_53 (by decide) (fun L st S k => k) k) k) k) k) k
theorem k_X2_judge_54 {h : Nat} {L : LVs} {st : List AV} {S : ST} {Q Q' : Option AV → ST → Prop} {j : Nat} {a0 a1 : AV} (hC : Ct MX2_push h [vR 2 j, a0, a1] S Q') (k : ∀ (r : Option AV) (S' : ST), Q' r S' → V MX2_judge (h + 1) 57 L (r.toList ++ st) S' Q) (hj : j < NI 2) (hw : wid st ≤ 8) : V MX2_judge (h + 1) 54 L (a1 :: a0 :: vR 2 j :: st) S Q :=
  v_callV (M' := MX2_push) (c := 2) (As := [a0, a1]) dX2_judge_54 ml_X2_128 im_X2_push se_X2_push in_X2 cd_X2_push rfl LY_2 np_X2_push (by decide) hw hj hC k
theorem b_X2_judge_57 {h : Nat} {L : LVs} {st : List AV} {S : ST} {Q : Option AV → ST → Prop} (k : t_vr st S Q) : V MX2_judge h 57 L st S Q :=
  w_vr dX2_judge_57 rfl k
theorem b_X2_judge_58 {h : Nat} {L : LVs} {st : List AV} {S : ST} {Q : Option AV → ST → Prop} (k : o_al L st S (fun L st S => V MX2_judge h 59 L st S Q) 0) : V MX2_judge h 58 L st S Q :=
  v_aload_n dX2_judge_58 rfl (fun L st S k => k) k
theorem k_X2_judge_59 {h : Nat} {L : LVs} {st : List AV} {S : ST} {Q Q' : Option AV → ST → Prop} {j : Nat} (hC : Ct MX2_pop h [vR 2 j] S Q') (k : ∀ (r : Option AV) (S' : ST), Q' r S' → V MX2_judge (h + 1) 62 L (r.toList ++ st) S' Q) (hj : j < NI 2) (hw : wid st ≤ 8) : V MX2_judge (h + 1) 59 L (vR 2 j :: st) S Q :=
  v_callV (M' := MX2_pop) (c := 2) (As := []) dX2_judge_59 ml_X2_148 im_X2_pop se_X2_pop in_X2 cd_X2_pop rfl LY_2 np_X2_pop (by decide) hw hj hC k
theorem b_X2_judge_62 {h : Nat} {L : LVs} {st : List AV} {S : ST} {Q : Option AV → ST → Prop} (k : o_al L st S (fun L st S => o_get L st S (fun L st S => o_al L st S (fun L st S => o_get L st S (fun L st S => o_iald L st S (fun L st S => o_is L st S (fun L st S => o_al L st S (fun L st S => o_il L st S (fun L st S => o_c L st S (fun L st S => t_2 L st S (fun x y => x = y) (fun L st S => V MX2_judge h 79 L st S Q) (fun L st S => V MX2_judge h 87 L st S Q)) (nI 19)) 1) 0) 3)) 2 11 (0, 0, 0)) 0) 2 2 (3, 15, 0)) 0) : V MX2_judge h 62 L st S Q :=
  v_aload_n dX2_judge_62 rfl (fun L st S k => v_get dX2_judge_63 rfl iX2 LY_2 rfl (by decide) rfl fl_X2_19 (fun L st S k => v_aload_n dX2_judge_66 rfl (fun L st S k => v_get dX2_judge_67 rfl iX2 LY_2 rfl (by decide) rfl fl_X2_68 (fun L st S k => v_iaload dX2_judge_70 (fun L st S k => v_istore_n dX2_judge_71 rfl (by decide) (fun L st S k => v_aload_n dX2_judge_72 rfl (fun L st S k => v_iload_n dX2_judge_73 rfl (fun L st S k => v_bipush dX2_judge_74 (by decide) (fun L st S k => w_icmp_ne dX2_judge_76 (by decide) rfl k) k) k) k) k) k) k) k) k) k
theorem b_X2_judge_79 {h : Nat} {L : LVs} {st : List AV} {S : ST} {Q : Option AV → ST → Prop} (k : o_il L st S (fun L st S => o_il L st S (fun L st S => o_min L st S (fun L st S => V MX2_judge (h + 1) 92 L st S Q)) 2) 3) : V MX2_judge (h + 1) 79 L st S Q :=
  v_iload_n dX2_judge_79 rfl (fun L st S k => v_iload_n dX2_judge_80 rfl (fun L st S k => v_min dX2_judge_81 mm_X2_166 (fun L st S k => v_goto dX2_judge_84 (by decide) k) k) k) k
theorem b_X2_judge_87 {h : Nat} {L : LVs} {st : List AV} {S : ST} {Q : Option AV → ST → Prop} (k : o_il L st S (fun L st S => o_il L st S (fun L st S => o_max L st S (fun L st S => V MX2_judge (h + 1) 92 L st S Q)) 2) 3) : V MX2_judge (h + 1) 87 L st S Q :=
  v_iload_n dX2_judge_87 rfl (fun L st S k => v_iload_n dX2_judge_88 rfl (fun L st S k => v_max dX2_judge_89 mm_X2_171 (fun L st S k => k) k) k) k
theorem b_X2_judge_92 {h : Nat} {L : LVs} {st : List AV} {S : ST} {Q : Option AV → ST → Prop} (k : o_c L st S (fun L st S => V MX2_judge h 93 L st S Q) (nI 0)) : V MX2_judge h 92 L st S Q :=
  v_iconst dX2_judge_92 (by decide) (fun L st S k => k) k
theorem k_X2_judge_93 {h : Nat} {L : LVs} {st : List AV} {S : ST} {Q Q' : Option AV → ST → Prop} {j : Nat} {a0 a1 : AV} (hC : Ct MX2_push h [vR 2 j, a0, a1] S Q') (k : ∀ (r : Option AV) (S' : ST), Q' r S' → V MX2_judge (h + 1) 96 L (r.toList ++ st) S' Q) (hj : j < NI 2) (hw : wid st ≤ 8) : V MX2_judge (h + 1) 93 L (a1 :: a0 :: vR 2 j :: st) S Q :=
  v_callV (M' := MX2_push) (c := 2) (As := [a0, a1]) dX2_judge_93 ml_X2_128 im_X2_push se_X2_push in_X2 cd_X2_push rfl LY_2 np_X2_push (by decide) hw hj hC k
theorem b_X2_judge_96 {h : Nat} {L : LVs} {st : List AV} {S : ST} {Q : Option AV → ST → Prop} (k : t_vr st S Q) : V MX2_judge h 96 L st S Q :=
  w_vr dX2_judge_96 rfl k
-- QueryForge$Machine.go(II)V
theorem dX2_go_0 : decode cX2_go 0 = .ok (.iload_n 1, 1) := by decide +kernel
theorem dX2_go_1 : decode cX2_go 1 = .ok (.tableswitch 221 21 26 #[39, 78, 119, 151, 188, 213], 39) := by decide +kernel
theorem dX2_go_40 : decode cX2_go 40 = .ok (.aload_n 0, 1) := by decide +kernel
theorem dX2_go_41 : decode cX2_go 41 = .ok (.aload_n 0, 1) := by decide +kernel
theorem dX2_go_42 : decode cX2_go 42 = .ok (.getfield 15, 3) := by decide +kernel
theorem dX2_go_45 : decode cX2_go 45 = .ok (.iload_n 2, 1) := by decide +kernel
theorem dX2_go_46 : decode cX2_go 46 = .ok (.invokevirtual 41, 3) := by decide +kernel
theorem dX2_go_49 : decode cX2_go 49 = .ok (.putfield 47, 3) := by decide +kernel
theorem dX2_go_52 : decode cX2_go 52 = .ok (.aload_n 0, 1) := by decide +kernel
theorem dX2_go_53 : decode cX2_go 53 = .ok (.getfield 47, 3) := by decide +kernel
theorem dX2_go_56 : decode cX2_go 56 = .ok (.invokevirtual 174, 3) := by decide +kernel
theorem dX2_go_59 : decode cX2_go 59 = .ok (.aload_n 0, 1) := by decide +kernel
theorem dX2_go_60 : decode cX2_go 60 = .ok (.iconst (-1), 1) := by decide +kernel
theorem dX2_go_61 : decode cX2_go 61 = .ok (.putfield 132, 3) := by decide +kernel
theorem dX2_go_64 : decode cX2_go 64 = .ok (.aload_n 0, 1) := by decide +kernel
theorem dX2_go_65 : decode cX2_go 65 = .ok (.aload_n 0, 1) := by decide +kernel
theorem dX2_go_66 : decode cX2_go 66 = .ok (.getfield 47, 3) := by decide +kernel
theorem dX2_go_69 : decode cX2_go 69 = .ok (.invokevirtual 177, 3) := by decide +kernel
theorem dX2_go_72 : decode cX2_go 72 = .ok (.i2l, 1) := by decide +kernel
theorem dX2_go_73 : decode cX2_go 73 = .ok (.putfield 81, 3) := by decide +kernel
theorem dX2_go_76 : decode cX2_go 76 = .ok (.goto 151, 3) := by decide +kernel
theorem dX2_go_79 : decode cX2_go 79 = .ok (.aload_n 0, 1) := by decide +kernel
theorem dX2_go_80 : decode cX2_go 80 = .ok (.aload_n 0, 1) := by decide +kernel
theorem dX2_go_81 : decode cX2_go 81 = .ok (.getfield 15, 3) := by decide +kernel
theorem dX2_go_84 : decode cX2_go 84 = .ok (.iload_n 2, 1) := by decide +kernel
theorem dX2_go_85 : decode cX2_go 85 = .ok (.invokevirtual 41, 3) := by decide +kernel
theorem dX2_go_88 : decode cX2_go 88 = .ok (.putfield 51, 3) := by decide +kernel
theorem dX2_go_91 : decode cX2_go 91 = .ok (.aload_n 0, 1) := by decide +kernel
theorem dX2_go_92 : decode cX2_go 92 = .ok (.iconst (-1), 1) := by decide +kernel
theorem dX2_go_93 : decode cX2_go 93 = .ok (.putfield 145, 3) := by decide +kernel
theorem dX2_go_96 : decode cX2_go 96 = .ok (.aload_n 0, 1) := by decide +kernel
theorem dX2_go_97 : decode cX2_go 97 = .ok (.aload_n 0, 1) := by decide +kernel
theorem dX2_go_98 : decode cX2_go 98 = .ok (.getfield 81, 3) := by decide +kernel
theorem dX2_go_101 : decode cX2_go 101 = .ok (.iconst 1, 1) := by decide +kernel
theorem dX2_go_102 : decode cX2_go 102 = .ok (.aload_n 0, 1) := by decide +kernel
theorem dX2_go_103 : decode cX2_go 103 = .ok (.getfield 51, 3) := by decide +kernel
theorem dX2_go_106 : decode cX2_go 106 = .ok (.invokevirtual 177, 3) := by decide +kernel
theorem dX2_go_109 : decode cX2_go 109 = .ok (.invokestatic 171, 3) := by decide +kernel
theorem dX2_go_112 : decode cX2_go 112 = .ok (.i2l, 1) := by decide +kernel
theorem dX2_go_113 : decode cX2_go 113 = .ok (.lmul, 1) := by decide +kernel
theorem dX2_go_114 : decode cX2_go 114 = .ok (.putfield 81, 3) := by decide +kernel
theorem dX2_go_117 : decode cX2_go 117 = .ok (.goto 110, 3) := by decide +kernel
theorem dX2_go_120 : decode cX2_go 120 = .ok (.aload_n 0, 1) := by decide +kernel
theorem dX2_go_121 : decode cX2_go 121 = .ok (.dup, 1) := by decide +kernel
theorem dX2_go_122 : decode cX2_go 122 = .ok (.getfield 132, 3) := by decide +kernel
theorem dX2_go_125 : decode cX2_go 125 = .ok (.iconst 1, 1) := by decide +kernel
theorem dX2_go_126 : decode cX2_go 126 = .ok (.iadd, 1) := by decide +kernel
theorem dX2_go_127 : decode cX2_go 127 = .ok (.putfield 132, 3) := by decide +kernel
theorem dX2_go_130 : decode cX2_go 130 = .ok (.aload_n 0, 1) := by decide +kernel
theorem dX2_go_131 : decode cX2_go 131 = .ok (.getfield 132, 3) := by decide +kernel
theorem dX2_go_134 : decode cX2_go 134 = .ok (.aload_n 0, 1) := by decide +kernel
theorem dX2_go_135 : decode cX2_go 135 = .ok (.getfield 47, 3) := by decide +kernel
theorem dX2_go_138 : decode cX2_go 138 = .ok (.invokevirtual 177, 3) := by decide +kernel
theorem dX2_go_141 : decode cX2_go 141 = .ok (.if_icmp .lt 86, 3) := by decide +kernel
theorem dX2_go_144 : decode cX2_go 144 = .ok (.aload_n 0, 1) := by decide +kernel
theorem dX2_go_145 : decode cX2_go 145 = .ok (.iload_n 2, 1) := by decide +kernel
theorem dX2_go_146 : decode cX2_go 146 = .ok (.putfield 75, 3) := by decide +kernel
theorem dX2_go_149 : decode cX2_go 149 = .ok (.goto 78, 3) := by decide +kernel
theorem dX2_go_152 : decode cX2_go 152 = .ok (.aload_n 0, 1) := by decide +kernel
theorem dX2_go_153 : decode cX2_go 153 = .ok (.dup, 1) := by decide +kernel
theorem dX2_go_154 : decode cX2_go 154 = .ok (.getfield 145, 3) := by decide +kernel
theorem dX2_go_157 : decode cX2_go 157 = .ok (.iconst 1, 1) := by decide +kernel
theorem dX2_go_158 : decode cX2_go 158 = .ok (.iadd, 1) := by decide +kernel
theorem dX2_go_159 : decode cX2_go 159 = .ok (.putfield 145, 3) := by decide +kernel
theorem dX2_go_162 : decode cX2_go 162 = .ok (.aload_n 0, 1) := by decide +kernel
theorem dX2_go_163 : decode cX2_go 163 = .ok (.getfield 145, 3) := by decide +kernel
theorem dX2_go_166 : decode cX2_go 166 = .ok (.aload_n 0, 1) := by decide +kernel
theorem dX2_go_167 : decode cX2_go 167 = .ok (.getfield 51, 3) := by decide +kernel
theorem dX2_go_170 : decode cX2_go 170 = .ok (.invokevirtual 177, 3) := by decide +kernel
theorem dX2_go_173 : decode cX2_go 173 = .ok (.if_icmp .lt 54, 3) := by decide +kernel
theorem dX2_go_176 : decode cX2_go 176 = .ok (.aload_n 0, 1) := by decide +kernel
theorem dX2_go_177 : decode cX2_go 177 = .ok (.iconst (-1), 1) := by decide +kernel
theorem dX2_go_178 : decode cX2_go 178 = .ok (.putfield 145, 3) := by decide +kernel
theorem dX2_go_181 : decode cX2_go 181 = .ok (.aload_n 0, 1) := by decide +kernel
theorem dX2_go_182 : decode cX2_go 182 = .ok (.iload_n 2, 1) := by decide +kernel
theorem dX2_go_183 : decode cX2_go 183 = .ok (.putfield 75, 3) := by decide +kernel
theorem dX2_go_186 : decode cX2_go 186 = .ok (.goto 41, 3) := by decide +kernel
theorem dX2_go_189 : decode cX2_go 189 = .ok (.aload_n 0, 1) := by decide +kernel
theorem dX2_go_190 : decode cX2_go 190 = .ok (.invokevirtual 148, 3) := by decide +kernel
theorem dX2_go_193 : decode cX2_go 193 = .ok (.aload_n 0, 1) := by decide +kernel
theorem dX2_go_194 : decode cX2_go 194 = .ok (.getfield 19, 3) := by decide +kernel
theorem dX2_go_197 : decode cX2_go 197 = .ok (.aload_n 0, 1) := by decide +kernel
theorem dX2_go_198 : decode cX2_go 198 = .ok (.getfield 68, 3) := by decide +kernel
theorem dX2_go_201 : decode cX2_go 201 = .ok (.iaload, 1) := by decide +kernel
theorem dX2_go_202 : decode cX2_go 202 = .ok (.iconst 2, 1) := by decide +kernel
theorem dX2_go_203 : decode cX2_go 203 = .ok (.if_icmp .eq 24, 3) := by decide +kernel
theorem dX2_go_206 : decode cX2_go 206 = .ok (.aload_n 0, 1) := by decide +kernel
theorem dX2_go_207 : decode cX2_go 207 = .ok (.iload_n 2, 1) := by decide +kernel
theorem dX2_go_208 : decode cX2_go 208 = .ok (.putfield 75, 3) := by decide +kernel
theorem dX2_go_211 : decode cX2_go 211 = .ok (.goto 16, 3) := by decide +kernel
theorem dX2_go_214 : decode cX2_go 214 = .ok (.aload_n 0, 1) := by decide +kernel
theorem dX2_go_215 : decode cX2_go 215 = .ok (.iload_n 2, 1) := by decide +kernel
theorem dX2_go_216 : decode cX2_go 216 = .ok (.putfield 75, 3) := by decide +kernel
theorem dX2_go_219 : decode cX2_go 219 = .ok (.goto 8, 3) := by decide +kernel
theorem dX2_go_222 : decode cX2_go 222 = .ok (.aload_n 0, 1) := by decide +kernel
theorem dX2_go_223 : decode cX2_go 223 = .ok (.iconst 0, 1) := by decide +kernel
theorem dX2_go_224 : decode cX2_go 224 = .ok (.putfield 84, 3) := by decide +kernel
theorem dX2_go_227 : decode cX2_go 227 = .ok (.return_, 1) := by decide +kernel
theorem b_X2_go_0 {h : Nat} {L : LVs} {st : List AV} {S : ST} {Q : Option AV → ST → Prop} (k : o_il L st S (fun L st S => t_sw L st S [((nI 21), fun L st S => V MX2_go h 40 L st S Q), ((nI 22), fun L st S => V MX2_go h 79 L st S Q), ((nI 23), fun L st S => V MX2_go h 120 L st S Q), ((nI 24), fun L st S => V MX2_go h 152 L st S Q), ((nI 25), fun L st S => V MX2_go h 189 L st S Q), ((nI 26), fun L st S => V MX2_go h 214 L st S Q)] (fun L st S => V MX2_go h 222 L st S Q)) 1) : V MX2_go h 0 L st S Q :=
  v_iload_n dX2_go_0 rfl (fun L st S k => w_tsw [((nI 21), 40), ((nI 22), 79), ((nI 23), 120), ((nI 24), 152), ((nI 25), 189), ((nI 26), 214)] dX2_go_1 (n := 6) (by decide) rfl (by decide) (by decide) (by decide) k) k
theorem b_X2_go_40 {h : Nat} {L : LVs} {st : List AV} {S : ST} {Q : Option AV → ST → Prop} (k : o_al L st S (fun L st S => o_al L st S (fun L st S => o_get L st S (fun L st S => o_il L st S (fun L st S => V MX2_go h 46 L st S Q) 2) 2 1 (4, 8, 0)) 0) 0) : V MX2_go h 40 L st S Q :=
  v_aload_n dX2_go_40 rfl (fun L st S k => v_aload_n dX2_go_41 rfl (fun L st S k => v_get dX2_go_42 rfl iX2 LY_2 rfl (by decide) rfl fl_X2_15 (fun L st S k => v_iload_n dX2_go_45 rfl (fun L st S k => k) k) k) k) k
theorem k_X2_go_46 {h : Nat} {L : LVs} {st : List AV} {S : ST} {Q Q' : Option AV → ST → Prop} {j : Nat} {a0 : AV} (hC : Ct MX8_tableAt h [vR 8 j, a0] S Q') (k : ∀ (r : Option AV) (S' : ST), Q' r S' → V MX2_go (h + 1) 49 L (r.toList ++ st) S' Q) (hj : j < NI 8) (hw : wid st ≤ 8) : V MX2_go (h + 1) 46 L (a0 :: vR 8 j :: st) S Q :=
  v_callV (M' := MX8_tableAt) (c := 8) (As := [a0]) dX2_go_46 ml_X2_41 im_X8_tableAt se_X8_tableAt in_X8 cd_X8_tableAt rfl LY_8 np_X8_tableAt (by decide) hw hj hC k
theorem b_X2_go_49 {h : Nat} {L : LVs} {st : List AV} {S : ST} {Q : Option AV → ST → Prop} (k : o_putr L st S (fun L st S => o_al L st S (fun L st S => o_get L st S (fun L st S => V MX2_go h 56 L st S Q) 2 7 (5, 7, 0)) 0) 2 7 7) : V MX2_go h 49 L st S Q :=
  v_putr dX2_go_49 rfl iX2 tyX2_ok nmX2 LY_2 rfl (by decide) rfl fl_X2_47 rfl rfl (fun L st S k => v_aload_n dX2_go_52 rfl (fun L st S k => v_get dX2_go_53 rfl iX2 LY_2 rfl (by decide) rfl fl_X2_47 (fun L st S k => k) k) k) k
theorem k_X2_go_56 {h : Nat} {L : LVs} {st : List AV} {S : ST} {Q Q' : Option AV → ST → Prop} {j : Nat} (hC : Ct MX7_unmark h [vR 7 j] S Q') (k : ∀ (r : Option AV) (S' : ST), Q' r S' → V MX2_go (h + 1) 59 L (r.toList ++ st) S' Q) (hj : j < NI 7) (hw : wid st ≤ 8) : V MX2_go (h + 1) 56 L (vR 7 j :: st) S Q :=
  v_callV (M' := MX7_unmark) (c := 7) (As := []) dX2_go_56 ml_X2_174 im_X7_unmark se_X7_unmark in_X7 cd_X7_unmark rfl LY_7 np_X7_unmark (by decide) hw hj hC k
theorem b_X2_go_59 {h : Nat} {L : LVs} {st : List AV} {S : ST} {Q : Option AV → ST → Prop} (k : o_al L st S (fun L st S => o_c L st S (fun L st S => o_puti L st S (fun L st S => o_al L st S (fun L st S => o_al L st S (fun L st S => o_get L st S (fun L st S => V MX2_go h 69 L st S Q) 2 7 (5, 7, 0)) 0) 0) 2 9) (-1)) 0) : V MX2_go h 59 L st S Q :=
  v_aload_n dX2_go_59 rfl (fun L st S k => v_iconst dX2_go_60 (by decide) (fun L st S k => v_puti dX2_go_61 rfl iX2 tyX2_ok nmX2 LY_2 rfl (by decide) rfl fl_X2_132 rfl rfl (fun L st S k => v_aload_n dX2_go_64 rfl (fun L st S k => v_aload_n dX2_go_65 rfl (fun L st S k => v_get dX2_go_66 rfl iX2 LY_2 rfl (by decide) rfl fl_X2_47 (fun L st S k => k) k) k) k) k) k) k
theorem k_X2_go_69 {h : Nat} {L : LVs} {st : List AV} {S : ST} {Q Q' : Option AV → ST → Prop} {j : Nat} (hC : Ct MX7_rowCount h [vR 7 j] S Q') (k : ∀ (r : Option AV) (S' : ST), Q' r S' → V MX2_go (h + 1) 72 L (r.toList ++ st) S' Q) (hj : j < NI 7) (hw : wid st ≤ 8) : V MX2_go (h + 1) 69 L (vR 7 j :: st) S Q :=
  v_callV (M' := MX7_rowCount) (c := 7) (As := []) dX2_go_69 ml_X2_177 im_X7_rowCount se_X7_rowCount in_X7 cd_X7_rowCount rfl LY_7 np_X7_rowCount (by decide) hw hj hC k
theorem b_X2_go_72 {h : Nat} {L : LVs} {st : List AV} {S : ST} {Q : Option AV → ST → Prop} (k : o_i2l L st S (fun L st S => o_putl L st S (fun L st S => V MX2_go h 227 L st S Q) 2 18)) : V MX2_go h 72 L st S Q :=
  v_i2l dX2_go_72 (fun L st S k => v_putl dX2_go_73 rfl iX2 tyX2_ok nmX2 LY_2 rfl (by decide) rfl fl_X2_81 rfl rfl (fun L st S k => v_goto dX2_go_76 (by decide) k) k) k
theorem b_X2_go_79 {h : Nat} {L : LVs} {st : List AV} {S : ST} {Q : Option AV → ST → Prop} (k : o_al L st S (fun L st S => o_al L st S (fun L st S => o_get L st S (fun L st S => o_il L st S (fun L st S => V MX2_go h 85 L st S Q) 2) 2 1 (4, 8, 0)) 0) 0) : V MX2_go h 79 L st S Q :=
  v_aload_n dX2_go_79 rfl (fun L st S k => v_aload_n dX2_go_80 rfl (fun L st S k => v_get dX2_go_81 rfl iX2 LY_2 rfl (by decide) rfl fl_X2_15 (fun L st S k => v_iload_n dX2_go_84 rfl (fun L st S k => k) k) k) k) k
theorem k_X2_go_85 {h : Nat} {L : LVs} {st : List AV} {S : ST} {Q Q' : Option AV → ST → Prop} {j : Nat} {a0 : AV} (hC : Ct MX8_tableAt h [vR 8 j, a0] S Q') (k : ∀ (r : Option AV) (S' : ST), Q' r S' → V MX2_go (h + 1) 88 L (r.toList ++ st) S' Q) (hj : j < NI 8) (hw : wid st ≤ 8) : V MX2_go (h + 1) 85 L (a0 :: vR 8 j :: st) S Q :=
  v_callV (M' := MX8_tableAt) (c := 8) (As := [a0]) dX2_go_85 ml_X2_41 im_X8_tableAt se_X8_tableAt in_X8 cd_X8_tableAt rfl LY_8 np_X8_tableAt (by decide) hw hj hC k
theorem b_X2_go_88 {h : Nat} {L : LVs} {st : List AV} {S : ST} {Q : Option AV → ST → Prop} (k : o_putr L st S (fun L st S => o_al L st S (fun L st S => o_c L st S (fun L st S => o_puti L st S (fun L st S => o_al L st S (fun L st S => o_al L st S (fun L st S => o_get L st S (fun L st S => o_c L st S (fun L st S => o_al L st S (fun L st S => o_get L st S (fun L st S => V MX2_go h 106 L st S Q) 2 8 (5, 7, 0)) 0) (nI 1)) 2 18 (1, 0, 0)) 0) 0) 2 10) (-1)) 0) 2 8 7) : V MX2_go h 88 L st S Q :=
  v_putr dX2_go_88 rfl iX2 tyX2_ok nmX2 LY_2 rfl (by decide) rfl fl_X2_51 rfl rfl (fun L st S k => v_aload_n dX2_go_91 rfl (fun L st S k => v_iconst dX2_go_92 (by decide) (fun L st S k => v_puti dX2_go_93 rfl iX2 tyX2_ok nmX2 LY_2 rfl (by decide) rfl fl_X2_145 rfl rfl (fun L st S k => v_aload_n dX2_go_96 rfl (fun L st S k => v_aload_n dX2_go_97 rfl (fun L st S k => v_get dX2_go_98 rfl iX2 LY_2 rfl (by decide) rfl fl_X2_81 (fun L st S k => v_iconst dX2_go_101 (by decide) (fun L st S k => v_aload_n dX2_go_102 rfl (fun L st S k => v_get dX2_go_103 rfl iX2 LY_2 rfl (by decide) rfl fl_X2_51 (fun L st S k => k) k) k) k) k) k) k) k) k) k) k
theorem k_X2_go_106 {h : Nat} {L : LVs} {st : List AV} {S : ST} {Q Q' : Option AV → ST → Prop} {j : Nat} (hC : Ct MX7_rowCount h [vR 7 j] S Q') (k : ∀ (r : Option AV) (S' : ST), Q' r S' → V MX2_go (h + 1) 109 L (r.toList ++ st) S' Q) (hj : j < NI 7) (hw : wid st ≤ 8) : V MX2_go (h + 1) 106 L (vR 7 j :: st) S Q :=
  v_callV (M' := MX7_rowCount) (c := 7) (As := []) dX2_go_106 ml_X2_177 im_X7_rowCount se_X7_rowCount in_X7 cd_X7_rowCount rfl LY_7 np_X7_rowCount (by decide) hw hj hC k
theorem b_X2_go_109 {h : Nat} {L : LVs} {st : List AV} {S : ST} {Q : Option AV → ST → Prop} (k : o_max L st S (fun L st S => o_i2l L st S (fun L st S => o_lmul L st S (fun L st S => o_putl L st S (fun L st S => V MX2_go (h + 1) 227 L st S Q) 2 18)))) : V MX2_go (h + 1) 109 L st S Q :=
  v_max dX2_go_109 mm_X2_171 (fun L st S k => v_i2l dX2_go_112 (fun L st S k => v_lmul dX2_go_113 (fun L st S k => v_putl dX2_go_114 rfl iX2 tyX2_ok nmX2 LY_2 rfl (by decide) rfl fl_X2_81 rfl rfl (fun L st S k => v_goto dX2_go_117 (by decide) k) k) k) k) k
theorem b_X2_go_120 {h : Nat} {L : LVs} {st : List AV} {S : ST} {Q : Option AV → ST → Prop} (k : o_al L st S (fun L st S => o_dup L st S (fun L st S => o_get L st S (fun L st S => o_c L st S (fun L st S => o_iadd L st S (fun L st S => o_puti L st S (fun L st S => o_al L st S (fun L st S => o_get L st S (fun L st S => o_al L st S (fun L st S => o_get L st S (fun L st S => V MX2_go h 138 L st S Q) 2 7 (5, 7, 0)) 0) 2 9 (0, 0, 0)) 0) 2 9)) (nI 1)) 2 9 (0, 0, 0))) 0) : V MX2_go h 120 L st S Q :=
  v_aload_n dX2_go_120 rfl (fun L st S k => v_dup dX2_go_121 (fun L st S k => v_get dX2_go_122 rfl iX2 LY_2 rfl (by decide) rfl fl_X2_132 (fun L st S k => v_iconst dX2_go_125 (by decide) (fun L st S k => v_iadd dX2_go_126 (fun L st S k => v_puti dX2_go_127 rfl iX2 tyX2_ok nmX2 LY_2 rfl (by decide) rfl fl_X2_132 rfl rfl (fun L st S k => v_aload_n dX2_go_130 rfl (fun L st S k => v_get dX2_go_131 rfl iX2 LY_2 rfl (by decide) rfl fl_X2_132 (fun L st S k => v_aload_n dX2_go_134 rfl (fun L st S k => v_get dX2_go_135 rfl iX2 LY_2 rfl (by decide) rfl fl_X2_47 (fun L st S k => k) k) k) k) k) k) k) k) k) k) k
theorem k_X2_go_138 {h : Nat} {L : LVs} {st : List AV} {S : ST} {Q Q' : Option AV → ST → Prop} {j : Nat} (hC : Ct MX7_rowCount h [vR 7 j] S Q') (k : ∀ (r : Option AV) (S' : ST), Q' r S' → V MX2_go (h + 1) 141 L (r.toList ++ st) S' Q) (hj : j < NI 7) (hw : wid st ≤ 8) : V MX2_go (h + 1) 138 L (vR 7 j :: st) S Q :=
  v_callV (M' := MX7_rowCount) (c := 7) (As := []) dX2_go_138 ml_X2_177 im_X7_rowCount se_X7_rowCount in_X7 cd_X7_rowCount rfl LY_7 np_X7_rowCount (by decide) hw hj hC k
theorem b_X2_go_141 {h : Nat} {L : LVs} {st : List AV} {S : ST} {Q : Option AV → ST → Prop} (k : t_2 L st S (fun x y => x < y) (fun L st S => V MX2_go h 227 L st S Q) (fun L st S => V MX2_go h 144 L st S Q)) : V MX2_go h 141 L st S Q :=
  w_icmp_lt dX2_go_141 (by decide) rfl k
theorem b_X2_go_144 {h : Nat} {L : LVs} {st : List AV} {S : ST} {Q : Option AV → ST → Prop} (k : o_al L st S (fun L st S => o_il L st S (fun L st S => o_puti L st S (fun L st S => V MX2_go h 227 L st S Q) 2 13) 2) 0) : V MX2_go h 144 L st S Q :=
  v_aload_n dX2_go_144 rfl (fun L st S k => v_iload_n dX2_go_145 rfl (fun L st S k => v_puti dX2_go_146 rfl iX2 tyX2_ok nmX2 LY_2 rfl (by decide) rfl fl_X2_75 rfl rfl (fun L st S k => v_goto dX2_go_149 (by decide) k) k) k) k
theorem b_X2_go_152 {h : Nat} {L : LVs} {st : List AV} {S : ST} {Q : Option AV → ST → Prop} (k : o_al L st S (fun L st S => o_dup L st S (fun L st S => o_get L st S (fun L st S => o_c L st S (fun L st S => o_iadd L st S (fun L st S => o_puti L st S (fun L st S => o_al L st S (fun L st S => o_get L st S (fun L st S => o_al L st S (fun L st S => o_get L st S (fun L st S => V MX2_go h 170 L st S Q) 2 8 (5, 7, 0)) 0) 2 10 (0, 0, 0)) 0) 2 10)) (nI 1)) 2 10 (0, 0, 0))) 0) : V MX2_go h 152 L st S Q :=
  v_aload_n dX2_go_152 rfl (fun L st S k => v_dup dX2_go_153 (fun L st S k => v_get dX2_go_154 rfl iX2 LY_2 rfl (by decide) rfl fl_X2_145 (fun L st S k => v_iconst dX2_go_157 (by decide) (fun L st S k => v_iadd dX2_go_158 (fun L st S k => v_puti dX2_go_159 rfl iX2 tyX2_ok nmX2 LY_2 rfl (by decide) rfl fl_X2_145 rfl rfl (fun L st S k => v_aload_n dX2_go_162 rfl (fun L st S k => v_get dX2_go_163 rfl iX2 LY_2 rfl (by decide) rfl fl_X2_145 (fun L st S k => v_aload_n dX2_go_166 rfl (fun L st S k => v_get dX2_go_167 rfl iX2 LY_2 rfl (by decide) rfl fl_X2_51 (fun L st S k => k) k) k) k) k) k) k) k) k) k) k
theorem k_X2_go_170 {h : Nat} {L : LVs} {st : List AV} {S : ST} {Q Q' : Option AV → ST → Prop} {j : Nat} (hC : Ct MX7_rowCount h [vR 7 j] S Q') (k : ∀ (r : Option AV) (S' : ST), Q' r S' → V MX2_go (h + 1) 173 L (r.toList ++ st) S' Q) (hj : j < NI 7) (hw : wid st ≤ 8) : V MX2_go (h + 1) 170 L (vR 7 j :: st) S Q :=
  v_callV (M' := MX7_rowCount) (c := 7) (As := []) dX2_go_170 ml_X2_177 im_X7_rowCount se_X7_rowCount in_X7 cd_X7_rowCount rfl LY_7 np_X7_rowCount (by decide) hw hj hC k
theorem b_X2_go_173 {h : Nat} {L : LVs} {st : List AV} {S : ST} {Q : Option AV → ST → Prop} (k : t_2 L st S (fun x y => x < y) (fun L st S => V MX2_go h 227 L st S Q) (fun L st S => V MX2_go h 176 L st S Q)) : V MX2_go h 173 L st S Q :=
  w_icmp_lt dX2_go_173 (by decide) rfl k
theorem b_X2_go_176 {h : Nat} {L : LVs} {st : List AV} {S : ST} {Q : Option AV → ST → Prop} (k : o_al L st S (fun L st S => o_c L st S (fun L st S => o_puti L st S (fun L st S => o_al L st S (fun L st S => o_il L st S (fun L st S => o_puti L st S (fun L st S => V MX2_go h 227 L st S Q) 2 13) 2) 0) 2 10) (-1)) 0) : V MX2_go h 176 L st S Q :=
  v_aload_n dX2_go_176 rfl (fun L st S k => v_iconst dX2_go_177 (by decide) (fun L st S k => v_puti dX2_go_178 rfl iX2 tyX2_ok nmX2 LY_2 rfl (by decide) rfl fl_X2_145 rfl rfl (fun L st S k => v_aload_n dX2_go_181 rfl (fun L st S k => v_iload_n dX2_go_182 rfl (fun L st S k => v_puti dX2_go_183 rfl iX2 tyX2_ok nmX2 LY_2 rfl (by decide) rfl fl_X2_75 rfl rfl (fun L st S k => v_goto dX2_go_186 (by decide) k) k) k) k) k) k) k
theorem b_X2_go_189 {h : Nat} {L : LVs} {st : List AV} {S : ST} {Q : Option AV → ST → Prop} (k : o_al L st S (fun L st S => V MX2_go h 190 L st S Q) 0) : V MX2_go h 189 L st S Q :=
  v_aload_n dX2_go_189 rfl (fun L st S k => k) k
theorem k_X2_go_190 {h : Nat} {L : LVs} {st : List AV} {S : ST} {Q Q' : Option AV → ST → Prop} {j : Nat} (hC : Ct MX2_pop h [vR 2 j] S Q') (k : ∀ (r : Option AV) (S' : ST), Q' r S' → V MX2_go (h + 1) 193 L (r.toList ++ st) S' Q) (hj : j < NI 2) (hw : wid st ≤ 8) : V MX2_go (h + 1) 190 L (vR 2 j :: st) S Q :=
  v_callV (M' := MX2_pop) (c := 2) (As := []) dX2_go_190 ml_X2_148 im_X2_pop se_X2_pop in_X2 cd_X2_pop rfl LY_2 np_X2_pop (by decide) hw hj hC k
theorem b_X2_go_193 {h : Nat} {L : LVs} {st : List AV} {S : ST} {Q : Option AV → ST → Prop} (k : o_al L st S (fun L st S => o_get L st S (fun L st S => o_al L st S (fun L st S => o_get L st S (fun L st S => o_iald L st S (fun L st S => o_c L st S (fun L st S => t_2 L st S (fun x y => x = y) (fun L st S => V MX2_go h 227 L st S Q) (fun L st S => V MX2_go h 206 L st S Q)) (nI 2))) 2 11 (0, 0, 0)) 0) 2 2 (3, 15, 0)) 0) : V MX2_go h 193 L st S Q :=
  v_aload_n dX2_go_193 rfl (fun L st S k => v_get dX2_go_194 rfl iX2 LY_2 rfl (by decide) rfl fl_X2_19 (fun L st S k => v_aload_n dX2_go_197 rfl (fun L st S k => v_get dX2_go_198 rfl iX2 LY_2 rfl (by decide) rfl fl_X2_68 (fun L st S k => v_iaload dX2_go_201 (fun L st S k => v_iconst dX2_go_202 (by decide) (fun L st S k => w_icmp_eq dX2_go_203 (by decide) rfl k) k) k) k) k) k) k
theorem b_X2_go_206 {h : Nat} {L : LVs} {st : List AV} {S : ST} {Q : Option AV → ST → Prop} (k : o_al L st S (fun L st S => o_il L st S (fun L st S => o_puti L st S (fun L st S => V MX2_go h 227 L st S Q) 2 13) 2) 0) : V MX2_go h 206 L st S Q :=
  v_aload_n dX2_go_206 rfl (fun L st S k => v_iload_n dX2_go_207 rfl (fun L st S k => v_puti dX2_go_208 rfl iX2 tyX2_ok nmX2 LY_2 rfl (by decide) rfl fl_X2_75 rfl rfl (fun L st S k => v_goto dX2_go_211 (by decide) k) k) k) k
theorem b_X2_go_214 {h : Nat} {L : LVs} {st : List AV} {S : ST} {Q : Option AV → ST → Prop} (k : o_al L st S (fun L st S => o_il L st S (fun L st S => o_puti L st S (fun L st S => V MX2_go h 227 L st S Q) 2 13) 2) 0) : V MX2_go h 214 L st S Q :=
  v_aload_n dX2_go_214 rfl (fun L st S k => v_iload_n dX2_go_215 rfl (fun L st S k => v_puti dX2_go_216 rfl iX2 tyX2_ok nmX2 LY_2 rfl (by decide) rfl fl_X2_75 rfl rfl (fun L st S k => v_goto dX2_go_219 (by decide) k) k) k) k
theorem b_X2_go_222 {h : Nat} {L : LVs} {st : List AV} {S : ST} {Q : Option AV → ST → Prop} (k : o_al L st S (fun L st S => o_c L st S (fun L st S => o_putz L st S (fun L st S => V MX2_go h 227 L st S Q) 2 15) (nI 0)) 0) : V MX2_go h 222 L st S Q :=
  v_aload_n dX2_go_222 rfl (fun L st S k => v_iconst dX2_go_223 (by decide) (fun L st S k => v_putz dX2_go_224 rfl iX2 tyX2_ok nmX2 LY_2 rfl (by decide) rfl fl_X2_84 rfl rfl (fun L st S k => k) k) k) k
theorem b_X2_go_227 {h : Nat} {L : LVs} {st : List AV} {S : ST} {Q : Option AV → ST → Prop} (k : t_vr st S Q) : V MX2_go h 227 L st S Q :=
  w_vr dX2_go_227 rfl k
-- QueryForge$Machine.collect(II)V
theorem dX2_collect_0 : decode cX2_collect 0 = .ok (.iload_n 1, 1) := by decide +kernel
theorem dX2_collect_1 : decode cX2_collect 1 = .ok (.bipush 29, 2) := by decide +kernel
theorem dX2_collect_3 : decode cX2_collect 3 = .ok (.if_icmp .ne 11, 3) := by decide +kernel
theorem dX2_collect_6 : decode cX2_collect 6 = .ok (.aload_n 0, 1) := by decide +kernel
theorem dX2_collect_7 : decode cX2_collect 7 = .ok (.getfield 38, 3) := by decide +kernel
theorem dX2_collect_10 : decode cX2_collect 10 = .ok (.invokevirtual 181, 3) := by decide +kernel
theorem dX2_collect_13 : decode cX2_collect 13 = .ok (.return_, 1) := by decide +kernel
theorem dX2_collect_14 : decode cX2_collect 14 = .ok (.iload_n 1, 1) := by decide +kernel
theorem dX2_collect_15 : decode cX2_collect 15 = .ok (.bipush 30, 2) := by decide +kernel
theorem dX2_collect_17 : decode cX2_collect 17 = .ok (.if_icmp .ne 8, 3) := by decide +kernel
theorem dX2_collect_20 : decode cX2_collect 20 = .ok (.aload_n 0, 1) := by decide +kernel
theorem dX2_collect_21 : decode cX2_collect 21 = .ok (.invokevirtual 184, 3) := by decide +kernel
theorem dX2_collect_24 : decode cX2_collect 24 = .ok (.return_, 1) := by decide +kernel
theorem dX2_collect_25 : decode cX2_collect 25 = .ok (.aload_n 0, 1) := by decide +kernel
theorem dX2_collect_26 : decode cX2_collect 26 = .ok (.invokevirtual 148, 3) := by decide +kernel
theorem dX2_collect_29 : decode cX2_collect 29 = .ok (.iload_n 1, 1) := by decide +kernel
theorem dX2_collect_30 : decode cX2_collect 30 = .ok (.bipush 28, 2) := by decide +kernel
theorem dX2_collect_32 : decode cX2_collect 32 = .ok (.if_icmp .ne 32, 3) := by decide +kernel
theorem dX2_collect_35 : decode cX2_collect 35 = .ok (.aload_n 0, 1) := by decide +kernel
theorem dX2_collect_36 : decode cX2_collect 36 = .ok (.getfield 38, 3) := by decide +kernel
theorem dX2_collect_39 : decode cX2_collect 39 = .ok (.iload_n 2, 1) := by decide +kernel
theorem dX2_collect_40 : decode cX2_collect 40 = .ok (.aload_n 0, 1) := by decide +kernel
theorem dX2_collect_41 : decode cX2_collect 41 = .ok (.getfield 19, 3) := by decide +kernel
theorem dX2_collect_44 : decode cX2_collect 44 = .ok (.aload_n 0, 1) := by decide +kernel
theorem dX2_collect_45 : decode cX2_collect 45 = .ok (.getfield 68, 3) := by decide +kernel
theorem dX2_collect_48 : decode cX2_collect 48 = .ok (.iaload, 1) := by decide +kernel
theorem dX2_collect_49 : decode cX2_collect 49 = .ok (.aload_n 0, 1) := by decide +kernel
theorem dX2_collect_50 : decode cX2_collect 50 = .ok (.getfield 23, 3) := by decide +kernel
theorem dX2_collect_53 : decode cX2_collect 53 = .ok (.aload_n 0, 1) := by decide +kernel
theorem dX2_collect_54 : decode cX2_collect 54 = .ok (.getfield 68, 3) := by decide +kernel
theorem dX2_collect_57 : decode cX2_collect 57 = .ok (.baload, 1) := by decide +kernel
theorem dX2_collect_58 : decode cX2_collect 58 = .ok (.invokevirtual 187, 3) := by decide +kernel
theorem dX2_collect_61 : decode cX2_collect 61 = .ok (.goto 61, 3) := by decide +kernel
theorem dX2_collect_64 : decode cX2_collect 64 = .ok (.iload_n 1, 1) := by decide +kernel
theorem dX2_collect_65 : decode cX2_collect 65 = .ok (.bipush 31, 2) := by decide +kernel
theorem dX2_collect_67 : decode cX2_collect 67 = .ok (.if_icmp .ne 28, 3) := by decide +kernel
theorem dX2_collect_70 : decode cX2_collect 70 = .ok (.aload_n 0, 1) := by decide +kernel
theorem dX2_collect_71 : decode cX2_collect 71 = .ok (.aload_n 0, 1) := by decide +kernel
theorem dX2_collect_72 : decode cX2_collect 72 = .ok (.getfield 19, 3) := by decide +kernel
theorem dX2_collect_75 : decode cX2_collect 75 = .ok (.aload_n 0, 1) := by decide +kernel
theorem dX2_collect_76 : decode cX2_collect 76 = .ok (.getfield 68, 3) := by decide +kernel
theorem dX2_collect_79 : decode cX2_collect 79 = .ok (.iaload, 1) := by decide +kernel
theorem dX2_collect_80 : decode cX2_collect 80 = .ok (.aload_n 0, 1) := by decide +kernel
theorem dX2_collect_81 : decode cX2_collect 81 = .ok (.getfield 23, 3) := by decide +kernel
theorem dX2_collect_84 : decode cX2_collect 84 = .ok (.aload_n 0, 1) := by decide +kernel
theorem dX2_collect_85 : decode cX2_collect 85 = .ok (.getfield 68, 3) := by decide +kernel
theorem dX2_collect_88 : decode cX2_collect 88 = .ok (.baload, 1) := by decide +kernel
theorem dX2_collect_89 : decode cX2_collect 89 = .ok (.invokevirtual 191, 3) := by decide +kernel
theorem dX2_collect_92 : decode cX2_collect 92 = .ok (.goto 30, 3) := by decide +kernel
theorem dX2_collect_95 : decode cX2_collect 95 = .ok (.aload_n 0, 1) := by decide +kernel
theorem dX2_collect_96 : decode cX2_collect 96 = .ok (.getfield 23, 3) := by decide +kernel
theorem dX2_collect_99 : decode cX2_collect 99 = .ok (.aload_n 0, 1) := by decide +kernel
theorem dX2_collect_100 : decode cX2_collect 100 = .ok (.getfield 68, 3) := by decide +kernel
theorem dX2_collect_103 : decode cX2_collect 103 = .ok (.baload, 1) := by decide +kernel
theorem dX2_collect_104 : decode cX2_collect 104 = .ok (.ifCond .ne 18, 3) := by decide +kernel
theorem dX2_collect_107 : decode cX2_collect 107 = .ok (.aload_n 0, 1) := by decide +kernel
theorem dX2_collect_108 : decode cX2_collect 108 = .ok (.iload_n 1, 1) := by decide +kernel
theorem dX2_collect_109 : decode cX2_collect 109 = .ok (.iload_n 2, 1) := by decide +kernel
theorem dX2_collect_110 : decode cX2_collect 110 = .ok (.aload_n 0, 1) := by decide +kernel
theorem dX2_collect_111 : decode cX2_collect 111 = .ok (.getfield 19, 3) := by decide +kernel
theorem dX2_collect_114 : decode cX2_collect 114 = .ok (.aload_n 0, 1) := by decide +kernel
theorem dX2_collect_115 : decode cX2_collect 115 = .ok (.getfield 68, 3) := by decide +kernel
theorem dX2_collect_118 : decode cX2_collect 118 = .ok (.iaload, 1) := by decide +kernel
theorem dX2_collect_119 : decode cX2_collect 119 = .ok (.invokevirtual 194, 3) := by decide +kernel
theorem dX2_collect_122 : decode cX2_collect 122 = .ok (.return_, 1) := by decide +kernel
theorem b_X2_collect_0 {h : Nat} {L : LVs} {st : List AV} {S : ST} {Q : Option AV → ST → Prop} (k : o_il L st S (fun L st S => o_c L st S (fun L st S => t_2 L st S (fun x y => x = y) (fun L st S => V MX2_collect h 6 L st S Q) (fun L st S => V MX2_collect h 14 L st S Q)) (nI 29)) 1) : V MX2_collect h 0 L st S Q :=
  v_iload_n dX2_collect_0 rfl (fun L st S k => v_bipush dX2_collect_1 (by decide) (fun L st S k => w_icmp_ne dX2_collect_3 (by decide) rfl k) k) k
theorem b_X2_collect_6 {h : Nat} {L : LVs} {st : List AV} {S : ST} {Q : Option AV → ST → Prop} (k : o_al L st S (fun L st S => o_get L st S (fun L st S => V MX2_collect h 10 L st S Q) 2 6 (5, 5, 0)) 0) : V MX2_collect h 6 L st S Q :=
  v_aload_n dX2_collect_6 rfl (fun L st S k => v_get dX2_collect_7 rfl iX2 LY_2 rfl (by decide) rfl fl_X2_38 (fun L st S k => k) k) k
theorem k_X2_collect_10 {h : Nat} {L : LVs} {st : List AV} {S : ST} {Q Q' : Option AV → ST → Prop} {j : Nat} (hC : Ct MX5_append h [vR 5 j] S Q') (k : ∀ (r : Option AV) (S' : ST), Q' r S' → V MX2_collect (h + 1) 13 L (r.toList ++ st) S' Q) (hj : j < NI 5) (hw : wid st ≤ 8) : V MX2_collect (h + 1) 10 L (vR 5 j :: st) S Q :=
  v_callV (M' := MX5_append) (c := 5) (As := []) dX2_collect_10 ml_X2_181 im_X5_append se_X5_append in_X5 cd_X5_append rfl LY_5 np_X5_append (by decide) hw hj hC k
theorem b_X2_collect_13 {h : Nat} {L : LVs} {st : List AV} {S : ST} {Q : Option AV → ST → Prop} (k : t_vr st S Q) : V MX2_collect h 13 L st S Q :=
  w_vr dX2_collect_13 rfl k
theorem b_X2_collect_14 {h : Nat} {L : LVs} {st : List AV} {S : ST} {Q : Option AV → ST → Prop} (k : o_il L st S (fun L st S => o_c L st S (fun L st S => t_2 L st S (fun x y => x = y) (fun L st S => V MX2_collect h 20 L st S Q) (fun L st S => V MX2_collect h 25 L st S Q)) (nI 30)) 1) : V MX2_collect h 14 L st S Q :=
  v_iload_n dX2_collect_14 rfl (fun L st S k => v_bipush dX2_collect_15 (by decide) (fun L st S k => w_icmp_ne dX2_collect_17 (by decide) rfl k) k) k
theorem b_X2_collect_20 {h : Nat} {L : LVs} {st : List AV} {S : ST} {Q : Option AV → ST → Prop} (k : o_al L st S (fun L st S => V MX2_collect h 21 L st S Q) 0) : V MX2_collect h 20 L st S Q :=
  v_aload_n dX2_collect_20 rfl (fun L st S k => k) k
theorem k_X2_collect_21 {h : Nat} {L : LVs} {st : List AV} {S : ST} {Q Q' : Option AV → ST → Prop} {j : Nat} (hC : Ct MX2_startGroup h [vR 2 j] S Q') (k : ∀ (r : Option AV) (S' : ST), Q' r S' → V MX2_collect (h + 1) 24 L (r.toList ++ st) S' Q) (hj : j < NI 2) (hw : wid st ≤ 8) : V MX2_collect (h + 1) 21 L (vR 2 j :: st) S Q :=
  v_callV (M' := MX2_startGroup) (c := 2) (As := []) dX2_collect_21 ml_X2_184 im_X2_startGroup se_X2_startGroup in_X2 cd_X2_startGroup rfl LY_2 np_X2_startGroup (by decide) hw hj hC k
theorem b_X2_collect_24 {h : Nat} {L : LVs} {st : List AV} {S : ST} {Q : Option AV → ST → Prop} (k : t_vr st S Q) : V MX2_collect h 24 L st S Q :=
  w_vr dX2_collect_24 rfl k
theorem b_X2_collect_25 {h : Nat} {L : LVs} {st : List AV} {S : ST} {Q : Option AV → ST → Prop} (k : o_al L st S (fun L st S => V MX2_collect h 26 L st S Q) 0) : V MX2_collect h 25 L st S Q :=
  v_aload_n dX2_collect_25 rfl (fun L st S k => k) k
theorem k_X2_collect_26 {h : Nat} {L : LVs} {st : List AV} {S : ST} {Q Q' : Option AV → ST → Prop} {j : Nat} (hC : Ct MX2_pop h [vR 2 j] S Q') (k : ∀ (r : Option AV) (S' : ST), Q' r S' → V MX2_collect (h + 1) 29 L (r.toList ++ st) S' Q) (hj : j < NI 2) (hw : wid st ≤ 8) : V MX2_collect (h + 1) 26 L (vR 2 j :: st) S Q :=
  v_callV (M' := MX2_pop) (c := 2) (As := []) dX2_collect_26 ml_X2_148 im_X2_pop se_X2_pop in_X2 cd_X2_pop rfl LY_2 np_X2_pop (by decide) hw hj hC k
theorem b_X2_collect_29 {h : Nat} {L : LVs} {st : List AV} {S : ST} {Q : Option AV → ST → Prop} (k : o_il L st S (fun L st S => o_c L st S (fun L st S => t_2 L st S (fun x y => x = y) (fun L st S => V MX2_collect h 35 L st S Q) (fun L st S => V MX2_collect h 64 L st S Q)) (nI 28)) 1) : V MX2_collect h 29 L st S Q :=
  v_iload_n dX2_collect_29 rfl (fun L st S k => v_bipush dX2_collect_30 (by decide) (fun L st S k => w_icmp_ne dX2_collect_32 (by decide) rfl k) k) k
theorem b_X2_collect_35 {h : Nat} {L : LVs} {st : List AV} {S : ST} {Q : Option AV → ST → Prop} (k : o_al L st S (fun L st S => o_get L st S (fun L st S => o_il L st S (fun L st S => o_al L st S (fun L st S => o_get L st S (fun L st S => o_al L st S (fun L st S => o_get L st S (fun L st S => o_iald L st S (fun L st S => o_al L st S (fun L st S => o_get L st S (fun L st S => o_al L st S (fun L st S => o_get L st S (fun L st S => o_zald L st S (fun L st S => V MX2_collect h 58 L st S Q)) 2 11 (0, 0, 0)) 0) 2 3 (3, 16, 0)) 0)) 2 11 (0, 0, 0)) 0) 2 2 (3, 15, 0)) 0) 2) 2 6 (5, 5, 0)) 0) : V MX2_collect h 35 L st S Q :=
  v_aload_n dX2_collect_35 rfl (fun L st S k => v_get dX2_collect_36 rfl iX2 LY_2 rfl (by decide) rfl fl_X2_38 (fun L st S k => v_iload_n dX2_collect_39 rfl (fun L st S k => v_aload_n dX2_collect_40 rfl (fun L st S k => v_get dX2_collect_41 rfl iX2 LY_2 rfl (by decide) rfl fl_X2_19 (fun L st S k => v_aload_n dX2_collect_44 rfl (fun L st S k => v_get dX2_collect_45 rfl iX2 LY_2 rfl (by decide) rfl fl_X2_68 (fun L st S k => v_iaload dX2_collect_48 (fun L st S k => v_aload_n dX2_collect_49 rfl (fun L st S k => v_get dX2_collect_50 rfl iX2 LY_2 rfl (by decide) rfl fl_X2_23 (fun L st S k => v_aload_n dX2_collect_53 rfl (fun L st S k => v_get dX2_collect_54 rfl iX2 LY_2 rfl (by decide) rfl fl_X2_68 (fun L st S k => v_zaload dX2_collect_57 (fun L st S k => k) k) k) k) k) k) k) k) k) k) k) k) k) k
theorem k_X2_collect_58 {h : Nat} {L : LVs} {st : List AV} {S : ST} {Q Q' : Option AV → ST → Prop} {j : Nat} {a0 a1 a2 : AV} (hC : Ct MX5_putNext h [vR 5 j, a0, a1, a2] S Q') (k : ∀ (r : Option AV) (S' : ST), Q' r S' → V MX2_collect (h + 1) 61 L (r.toList ++ st) S' Q) (hj : j < NI 5) (hw : wid st ≤ 8) : V MX2_collect (h + 1) 58 L (a2 :: a1 :: a0 :: vR 5 j :: st) S Q :=
  v_callV (M' := MX5_putNext) (c := 5) (As := [a0, a1, a2]) dX2_collect_58 ml_X2_187 im_X5_putNext se_X5_putNext in_X5 cd_X5_putNext rfl LY_5 np_X5_putNext (by decide) hw hj hC k
theorem b_X2_collect_61 {h : Nat} {L : LVs} {st : List AV} {S : ST} {Q : Option AV → ST → Prop} (k : V MX2_collect h 122 L st S Q) : V MX2_collect h 61 L st S Q :=
  v_goto dX2_collect_61 (by decide) k
theorem b_X2_collect_64 {h : Nat} {L : LVs} {st : List AV} {S : ST} {Q : Option AV → ST → Prop} (k : o_il L st S (fun L st S => o_c L st S (fun L st S => t_2 L st S (fun x y => x = y) (fun L st S => V MX2_collect h 70 L st S Q) (fun L st S => V MX2_collect h 95 L st S Q)) (nI 31)) 1) : V MX2_collect h 64 L st S Q :=
  v_iload_n dX2_collect_64 rfl (fun L st S k => v_bipush dX2_collect_65 (by decide) (fun L st S k => w_icmp_ne dX2_collect_67 (by decide) rfl k) k) k
theorem b_X2_collect_70 {h : Nat} {L : LVs} {st : List AV} {S : ST} {Q : Option AV → ST → Prop} (k : o_al L st S (fun L st S => o_al L st S (fun L st S => o_get L st S (fun L st S => o_al L st S (fun L st S => o_get L st S (fun L st S => o_iald L st S (fun L st S => o_al L st S (fun L st S => o_get L st S (fun L st S => o_al L st S (fun L st S => o_get L st S (fun L st S => o_zald L st S (fun L st S => V MX2_collect h 89 L st S Q)) 2 11 (0, 0, 0)) 0) 2 3 (3, 16, 0)) 0)) 2 11 (0, 0, 0)) 0) 2 2 (3, 15, 0)) 0) 0) : V MX2_collect h 70 L st S Q :=
  v_aload_n dX2_collect_70 rfl (fun L st S k => v_aload_n dX2_collect_71 rfl (fun L st S k => v_get dX2_collect_72 rfl iX2 LY_2 rfl (by decide) rfl fl_X2_19 (fun L st S k => v_aload_n dX2_collect_75 rfl (fun L st S k => v_get dX2_collect_76 rfl iX2 LY_2 rfl (by decide) rfl fl_X2_68 (fun L st S k => v_iaload dX2_collect_79 (fun L st S k => v_aload_n dX2_collect_80 rfl (fun L st S k => v_get dX2_collect_81 rfl iX2 LY_2 rfl (by decide) rfl fl_X2_23 (fun L st S k => v_aload_n dX2_collect_84 rfl (fun L st S k => v_get dX2_collect_85 rfl iX2 LY_2 rfl (by decide) rfl fl_X2_68 (fun L st S k => v_zaload dX2_collect_88 (fun L st S k => k) k) k) k) k) k) k) k) k) k) k) k
theorem k_X2_collect_89 {h : Nat} {L : LVs} {st : List AV} {S : ST} {Q Q' : Option AV → ST → Prop} {j : Nat} {a0 a1 : AV} (hC : Ct MX2_findGroup h [vR 2 j, a0, a1] S Q') (k : ∀ (r : Option AV) (S' : ST), Q' r S' → V MX2_collect (h + 1) 92 L (r.toList ++ st) S' Q) (hj : j < NI 2) (hw : wid st ≤ 8) : V MX2_collect (h + 1) 89 L (a1 :: a0 :: vR 2 j :: st) S Q :=
  v_callV (M' := MX2_findGroup) (c := 2) (As := [a0, a1]) dX2_collect_89 ml_X2_191 im_X2_findGroup se_X2_findGroup in_X2 cd_X2_findGroup rfl LY_2 np_X2_findGroup (by decide) hw hj hC k
theorem b_X2_collect_92 {h : Nat} {L : LVs} {st : List AV} {S : ST} {Q : Option AV → ST → Prop} (k : V MX2_collect h 122 L st S Q) : V MX2_collect h 92 L st S Q :=
  v_goto dX2_collect_92 (by decide) k
theorem b_X2_collect_95 {h : Nat} {L : LVs} {st : List AV} {S : ST} {Q : Option AV → ST → Prop} (k : o_al L st S (fun L st S => o_get L st S (fun L st S => o_al L st S (fun L st S => o_get L st S (fun L st S => o_zald L st S (fun L st S => t_1 L st S (fun x => x = nI 0) (fun L st S => V MX2_collect h 107 L st S Q) (fun L st S => V MX2_collect h 122 L st S Q))) 2 11 (0, 0, 0)) 0) 2 3 (3, 16, 0)) 0) : V MX2_collect h 95 L st S Q :=
  v_aload_n dX2_collect_95 rfl (fun L st S k => v_get dX2_collect_96 rfl iX2 LY_2 rfl (by decide) rfl fl_X2_23 (fun L st S k => v_aload_n dX2_collect_99 rfl (fun L st S k => v_get dX2_collect_100 rfl iX2 LY_2 rfl (by decide) rfl fl_X2_68 (fun L st S k => v_zaload dX2_collect_103 (fun L st S k => w_if_ne dX2_collect_104 (by decide) rfl k) k) k) k) k) k
theorem b_X2_collect_107 {h : Nat} {L : LVs} {st : List AV} {S : ST} {Q : Option AV → ST → Prop} (k : o_al L st S (fun L st S => o_il L st S (fun L st S => o_il L st S (fun L st S => o_al L st S (fun L st S => o_get L st S (fun L st S => o_al L st S (fun L st S => o_get L st S (fun L st S => o_iald L st S (fun L st S => V MX2_collect h 119 L st S Q)) 2 11 (0, 0, 0)) 0) 2 2 (3, 15, 0)) 0) 2) 1) 0) : V MX2_collect h 107 L st S Q :=
  v_aload_n dX2_collect_107 rfl (fun L st S k => v_iload_n dX2_collect_108 rfl (fun L st S k => v_iload_n dX2_collect_109 rfl (fun L st S k => v_aload_n dX2_collect_110 rfl (fun L st S k => v_get dX2_collect_111 rfl iX2 LY_2 rfl (by decide) rfl fl_X2_19 (fun L st S k => v_aload_n dX2_collect_114 rfl (fun L st S k => v_get dX2_collect_115 rfl iX2 LY_2 rfl (by decide) rfl fl_X2_68 (fun L st S k => v_iaload dX2_collect_118 (fun L st S k => k) k) k) k) k) k) k) k) k
theorem k_X2_collect_119 {h : Nat} {L : LVs} {st : List AV} {S : ST} {Q Q' : Option AV → ST → Prop} {j : Nat} {a0 a1 a2 : AV} (hC : Ct MX2_gather h [vR 2 j, a0, a1, a2] S Q') (k : ∀ (r : Option AV) (S' : ST), Q' r S' → V MX2_collect (h + 1) 122 L (r.toList ++ st) S' Q) (hj : j < NI 2) (hw : wid st ≤ 8) : V MX2_collect (h + 1) 119 L (a2 :: a1 :: a0 :: vR 2 j :: st) S Q :=
  v_callV (M' := MX2_gather) (c := 2) (As := [a0, a1, a2]) dX2_collect_119 ml_X2_194 im_X2_gather se_X2_gather in_X2 cd_X2_gather rfl LY_2 np_X2_gather (by decide) hw hj hC k
theorem b_X2_collect_122 {h : Nat} {L : LVs} {st : List AV} {S : ST} {Q : Option AV → ST → Prop} (k : t_vr st S Q) : V MX2_collect h 122 L st S Q :=
  w_vr dX2_collect_122 rfl k
-- QueryForge$Machine.findGroup(IZ)V
theorem dX2_findGroup_0 : decode cX2_findGroup 0 = .ok (.aload_n 0, 1) := by decide +kernel
theorem dX2_findGroup_1 : decode cX2_findGroup 1 = .ok (.aload_n 0, 1) := by decide +kernel
theorem dX2_findGroup_2 : decode cX2_findGroup 2 = .ok (.getfield 38, 3) := by decide +kernel
theorem dX2_findGroup_5 : decode cX2_findGroup 5 = .ok (.iload_n 1, 1) := by decide +kernel
theorem dX2_findGroup_6 : decode cX2_findGroup 6 = .ok (.iload_n 2, 1) := by decide +kernel
theorem dX2_findGroup_7 : decode cX2_findGroup 7 = .ok (.invokevirtual 198, 3) := by decide +kernel
theorem dX2_findGroup_10 : decode cX2_findGroup 10 = .ok (.putfield 72, 3) := by decide +kernel
theorem dX2_findGroup_13 : decode cX2_findGroup 13 = .ok (.aload_n 0, 1) := by decide +kernel
theorem dX2_findGroup_14 : decode cX2_findGroup 14 = .ok (.getfield 72, 3) := by decide +kernel
theorem dX2_findGroup_17 : decode cX2_findGroup 17 = .ok (.iconst (-1), 1) := by decide +kernel
theorem dX2_findGroup_18 : decode cX2_findGroup 18 = .ok (.if_icmp .ne 24, 3) := by decide +kernel
theorem dX2_findGroup_21 : decode cX2_findGroup 21 = .ok (.aload_n 0, 1) := by decide +kernel
theorem dX2_findGroup_22 : decode cX2_findGroup 22 = .ok (.invokevirtual 184, 3) := by decide +kernel
theorem dX2_findGroup_25 : decode cX2_findGroup 25 = .ok (.iload_n 2, 1) := by decide +kernel
theorem dX2_findGroup_26 : decode cX2_findGroup 26 = .ok (.ifCond .ne 16, 3) := by decide +kernel
theorem dX2_findGroup_29 : decode cX2_findGroup 29 = .ok (.aload_n 0, 1) := by decide +kernel
theorem dX2_findGroup_30 : decode cX2_findGroup 30 = .ok (.getfield 38, 3) := by decide +kernel
theorem dX2_findGroup_33 : decode cX2_findGroup 33 = .ok (.aload_n 0, 1) := by decide +kernel
theorem dX2_findGroup_34 : decode cX2_findGroup 34 = .ok (.getfield 72, 3) := by decide +kernel
theorem dX2_findGroup_37 : decode cX2_findGroup 37 = .ok (.iconst 0, 1) := by decide +kernel
theorem dX2_findGroup_38 : decode cX2_findGroup 38 = .ok (.iload_n 1, 1) := by decide +kernel
theorem dX2_findGroup_39 : decode cX2_findGroup 39 = .ok (.invokevirtual 202, 3) := by decide +kernel
theorem dX2_findGroup_42 : decode cX2_findGroup 42 = .ok (.return_, 1) := by decide +kernel
theorem b_X2_findGroup_0 {h : Nat} {L : LVs} {st : List AV} {S : ST} {Q : Option AV → ST → Prop} (k : o_al L st S (fun L st S => o_al L st S (fun L st S => o_get L st S (fun L st S => o_il L st S (fun L st S => o_il L st S (fun L st S => V MX2_findGroup h 7 L st S Q) 2) 1) 2 6 (5, 5, 0)) 0) 0) : V MX2_findGroup h 0 L st S Q :=
  v_aload_n dX2_findGroup_0 rfl (fun L st S k => v_aload_n dX2_findGroup_1 rfl (fun L st S k => v_get dX2_findGroup_2 rfl iX2 LY_2 rfl (by decide) rfl fl_X2_38 (fun L st S k => v_iload_n dX2_findGroup_5 rfl (fun L st S k => v_iload_n dX2_findGroup_6 rfl (fun L st S k => k) k) k) k) k) k
theorem k_X2_findGroup_7 {h : Nat} {L : LVs} {st : List AV} {S : ST} {Q Q' : Option AV → ST → Prop} {j : Nat} {a0 a1 : AV} (hC : Ct MX5_findFirstItem h [vR 5 j, a0, a1] S Q') (k : ∀ (r : Option AV) (S' : ST), Q' r S' → V MX2_findGroup (h + 1) 10 L (r.toList ++ st) S' Q) (hj : j < NI 5) (hw : wid st ≤ 8) : V MX2_findGroup (h + 1) 7 L (a1 :: a0 :: vR 5 j :: st) S Q :=
  v_callV (M' := MX5_findFirstItem) (c := 5) (As := [a0, a1]) dX2_findGroup_7 ml_X2_198 im_X5_findFirstItem se_X5_findFirstItem in_X5 cd_X5_findFirstItem rfl LY_5 np_X5_findFirstItem (by decide) hw hj hC k
theorem b_X2_findGroup_10 {h : Nat} {L : LVs} {st : List AV} {S : ST} {Q : Option AV → ST → Prop} (k : o_puti L st S (fun L st S => o_al L st S (fun L st S => o_get L st S (fun L st S => o_c L st S (fun L st S => t_2 L st S (fun x y => x = y) (fun L st S => V MX2_findGroup h 21 L st S Q) (fun L st S => V MX2_findGroup h 42 L st S Q)) (-1)) 2 12 (0, 0, 0)) 0) 2 12) : V MX2_findGroup h 10 L st S Q :=
  v_puti dX2_findGroup_10 rfl iX2 tyX2_ok nmX2 LY_2 rfl (by decide) rfl fl_X2_72 rfl rfl (fun L st S k => v_aload_n dX2_findGroup_13 rfl (fun L st S k => v_get dX2_findGroup_14 rfl iX2 LY_2 rfl (by decide) rfl fl_X2_72 (fun L st S k => v_iconst dX2_findGroup_17 (by decide) (fun L st S k => w_icmp_ne dX2_findGroup_18 (by decide) rfl k) k) k) k) k
theorem b_X2_findGroup_21 {h : Nat} {L : LVs} {st : List AV} {S : ST} {Q : Option AV → ST → Prop} (k : o_al L st S (fun L st S => V MX2_findGroup h 22 L st S Q) 0) : V MX2_findGroup h 21 L st S Q :=
  v_aload_n dX2_findGroup_21 rfl (fun L st S k => k) k
theorem k_X2_findGroup_22 {h : Nat} {L : LVs} {st : List AV} {S : ST} {Q Q' : Option AV → ST → Prop} {j : Nat} (hC : Ct MX2_startGroup h [vR 2 j] S Q') (k : ∀ (r : Option AV) (S' : ST), Q' r S' → V MX2_findGroup (h + 1) 25 L (r.toList ++ st) S' Q) (hj : j < NI 2) (hw : wid st ≤ 8) : V MX2_findGroup (h + 1) 22 L (vR 2 j :: st) S Q :=
  v_callV (M' := MX2_startGroup) (c := 2) (As := []) dX2_findGroup_22 ml_X2_184 im_X2_startGroup se_X2_startGroup in_X2 cd_X2_startGroup rfl LY_2 np_X2_startGroup (by decide) hw hj hC k
theorem b_X2_findGroup_25 {h : Nat} {L : LVs} {st : List AV} {S : ST} {Q : Option AV → ST → Prop} (k : o_il L st S (fun L st S => t_1 L st S (fun x => x = nI 0) (fun L st S => V MX2_findGroup h 29 L st S Q) (fun L st S => V MX2_findGroup h 42 L st S Q)) 2) : V MX2_findGroup h 25 L st S Q :=
  v_iload_n dX2_findGroup_25 rfl (fun L st S k => w_if_ne dX2_findGroup_26 (by decide) rfl k) k
theorem b_X2_findGroup_29 {h : Nat} {L : LVs} {st : List AV} {S : ST} {Q : Option AV → ST → Prop} (k : o_al L st S (fun L st S => o_get L st S (fun L st S => o_al L st S (fun L st S => o_get L st S (fun L st S => o_c L st S (fun L st S => o_il L st S (fun L st S => V MX2_findGroup h 39 L st S Q) 1) (nI 0)) 2 12 (0, 0, 0)) 0) 2 6 (5, 5, 0)) 0) : V MX2_findGroup h 29 L st S Q :=
  v_aload_n dX2_findGroup_29 rfl (fun L st S k => v_get dX2_findGroup_30 rfl iX2 LY_2 rfl (by decide) rfl fl_X2_38 (fun L st S k => v_aload_n dX2_findGroup_33 rfl (fun L st S k => v_get dX2_findGroup_34 rfl iX2 LY_2 rfl (by decide) rfl fl_X2_72 (fun L st S k => v_iconst dX2_findGroup_37 (by decide) (fun L st S k => v_iload_n dX2_findGroup_38 rfl (fun L st S k => k) k) k) k) k) k) k
theorem k_X2_findGroup_39 {h : Nat} {L : LVs} {st : List AV} {S : ST} {Q Q' : Option AV → ST → Prop} {j : Nat} {a0 a1 a2 : AV} (hC : Ct MX5_set h [vR 5 j, a0, a1, a2] S Q') (k : ∀ (r : Option AV) (S' : ST), Q' r S' → V MX2_findGroup (h + 1) 42 L (r.toList ++ st) S' Q) (hj : j < NI 5) (hw : wid st ≤ 8) : V MX2_findGroup (h + 1) 39 L (a2 :: a1 :: a0 :: vR 5 j :: st) S Q :=
  v_callV (M' := MX5_set) (c := 5) (As := [a0, a1, a2]) dX2_findGroup_39 ml_X2_202 im_X5_set se_X5_set in_X5 cd_X5_set rfl LY_5 np_X5_set (by decide) hw hj hC k
theorem b_X2_findGroup_42 {h : Nat} {L : LVs} {st : List AV} {S : ST} {Q : Option AV → ST → Prop} (k : t_vr st S Q) : V MX2_findGroup h 42 L st S Q :=
  w_vr dX2_findGroup_42 rfl k
-- QueryForge$Machine.startGroup()V
theorem dX2_startGroup_0 : decode cX2_startGroup 0 = .ok (.aload_n 0, 1) := by decide +kernel
theorem dX2_startGroup_1 : decode cX2_startGroup 1 = .ok (.aload_n 0, 1) := by decide +kernel
theorem dX2_startGroup_2 : decode cX2_startGroup 2 = .ok (.getfield 38, 3) := by decide +kernel
theorem dX2_startGroup_5 : decode cX2_startGroup 5 = .ok (.invokevirtual 205, 3) := by decide +kernel
theorem dX2_startGroup_8 : decode cX2_startGroup 8 = .ok (.putfield 72, 3) := by decide +kernel
theorem dX2_startGroup_11 : decode cX2_startGroup 11 = .ok (.aload_n 0, 1) := by decide +kernel
theorem dX2_startGroup_12 : decode cX2_startGroup 12 = .ok (.getfield 38, 3) := by decide +kernel
theorem dX2_startGroup_15 : decode cX2_startGroup 15 = .ok (.invokevirtual 206, 3) := by decide +kernel
theorem dX2_startGroup_18 : decode cX2_startGroup 18 = .ok (.iconst 0, 1) := by decide +kernel
theorem dX2_startGroup_19 : decode cX2_startGroup 19 = .ok (.istore_n 1, 1) := by decide +kernel
theorem dX2_startGroup_20 : decode cX2_startGroup 20 = .ok (.iload_n 1, 1) := by decide +kernel
theorem dX2_startGroup_21 : decode cX2_startGroup 21 = .ok (.iconst 4, 1) := by decide +kernel
theorem dX2_startGroup_22 : decode cX2_startGroup 22 = .ok (.if_icmp .ge 32, 3) := by decide +kernel
theorem dX2_startGroup_25 : decode cX2_startGroup 25 = .ok (.aload_n 0, 1) := by decide +kernel
theorem dX2_startGroup_26 : decode cX2_startGroup 26 = .ok (.getfield 72, 3) := by decide +kernel
theorem dX2_startGroup_29 : decode cX2_startGroup 29 = .ok (.bipush 24, 2) := by decide +kernel
theorem dX2_startGroup_31 : decode cX2_startGroup 31 = .ok (.if_icmp .ge 23, 3) := by decide +kernel
theorem dX2_startGroup_34 : decode cX2_startGroup 34 = .ok (.aload_n 0, 1) := by decide +kernel
theorem dX2_startGroup_35 : decode cX2_startGroup 35 = .ok (.getfield 27, 3) := by decide +kernel
theorem dX2_startGroup_38 : decode cX2_startGroup 38 = .ok (.aload_n 0, 1) := by decide +kernel
theorem dX2_startGroup_39 : decode cX2_startGroup 39 = .ok (.getfield 72, 3) := by decide +kernel
theorem dX2_startGroup_42 : decode cX2_startGroup 42 = .ok (.iconst 4, 1) := by decide +kernel
theorem dX2_startGroup_43 : decode cX2_startGroup 43 = .ok (.imul, 1) := by decide +kernel
theorem dX2_startGroup_44 : decode cX2_startGroup 44 = .ok (.iload_n 1, 1) := by decide +kernel
theorem dX2_startGroup_45 : decode cX2_startGroup 45 = .ok (.iadd, 1) := by decide +kernel
theorem dX2_startGroup_46 : decode cX2_startGroup 46 = .ok (.lconst 0, 1) := by decide +kernel
theorem dX2_startGroup_47 : decode cX2_startGroup 47 = .ok (.lastore, 1) := by decide +kernel
theorem dX2_startGroup_48 : decode cX2_startGroup 48 = .ok (.iinc 1 1, 3) := by decide +kernel
theorem dX2_startGroup_51 : decode cX2_startGroup 51 = .ok (.goto (-31), 3) := by decide +kernel
theorem dX2_startGroup_54 : decode cX2_startGroup 54 = .ok (.return_, 1) := by decide +kernel
theorem b_X2_startGroup_0 {h : Nat} {L : LVs} {st : List AV} {S : ST} {Q : Option AV → ST → Prop} (k : o_al L st S (fun L st S => o_al L st S (fun L st S => o_get L st S (fun L st S => V MX2_startGroup h 5 L st S Q) 2 6 (5, 5, 0)) 0) 0) : V MX2_startGroup h 0 L st S Q :=
  v_aload_n dX2_startGroup_0 rfl (fun L st S k => v_aload_n dX2_startGroup_1 rfl (fun L st S k => v_get dX2_startGroup_2 rfl iX2 LY_2 rfl (by decide) rfl fl_X2_38 (fun L st S k => k) k) k) k
theorem k_X2_startGroup_5 {h : Nat} {L : LVs} {st : List AV} {S : ST} {Q Q' : Option AV → ST → Prop} {j : Nat} (hC : Ct MX5_rowCount h [vR 5 j] S Q') (k : ∀ (r : Option AV) (S' : ST), Q' r S' → V MX2_startGroup (h + 1) 8 L (r.toList ++ st) S' Q) (hj : j < NI 5) (hw : wid st ≤ 8) : V MX2_startGroup (h + 1) 5 L (vR 5 j :: st) S Q :=
  v_callV (M' := MX5_rowCount) (c := 5) (As := []) dX2_startGroup_5 ml_X2_205 im_X5_rowCount se_X5_rowCount in_X5 cd_X5_rowCount rfl LY_5 np_X5_rowCount (by decide) hw hj hC k
theorem b_X2_startGroup_8 {h : Nat} {L : LVs} {st : List AV} {S : ST} {Q : Option AV → ST → Prop} (k : o_puti L st S (fun L st S => o_al L st S (fun L st S => o_get L st S (fun L st S => V MX2_startGroup h 15 L st S Q) 2 6 (5, 5, 0)) 0) 2 12) : V MX2_startGroup h 8 L st S Q :=
  v_puti dX2_startGroup_8 rfl iX2 tyX2_ok nmX2 LY_2 rfl (by decide) rfl fl_X2_72 rfl rfl (fun L st S k => v_aload_n dX2_startGroup_11 rfl (fun L st S k => v_get dX2_startGroup_12 rfl iX2 LY_2 rfl (by decide) rfl fl_X2_38 (fun L st S k => k) k) k) k
theorem k_X2_startGroup_15 {h : Nat} {L : LVs} {st : List AV} {S : ST} {Q Q' : Option AV → ST → Prop} {j : Nat} (hC : Ct MX5_appendMissing h [vR 5 j] S Q') (k : ∀ (r : Option AV) (S' : ST), Q' r S' → V MX2_startGroup (h + 1) 18 L (r.toList ++ st) S' Q) (hj : j < NI 5) (hw : wid st ≤ 8) : V MX2_startGroup (h + 1) 15 L (vR 5 j :: st) S Q :=
  v_callV (M' := MX5_appendMissing) (c := 5) (As := []) dX2_startGroup_15 ml_X2_206 im_X5_appendMissing se_X5_appendMissing in_X5 cd_X5_appendMissing rfl LY_5 np_X5_appendMissing (by decide) hw hj hC k
theorem b_X2_startGroup_18 {h : Nat} {L : LVs} {st : List AV} {S : ST} {Q : Option AV → ST → Prop} (k : o_c L st S (fun L st S => o_is L st S (fun L st S => V MX2_startGroup h 20 L st S Q) 1) (nI 0)) : V MX2_startGroup h 18 L st S Q :=
  v_iconst dX2_startGroup_18 (by decide) (fun L st S k => v_istore_n dX2_startGroup_19 rfl (by decide) (fun L st S k => k) k) k
theorem b_X2_startGroup_20 {h : Nat} {L : LVs} {st : List AV} {S : ST} {Q : Option AV → ST → Prop} (k : o_il L st S (fun L st S => o_c L st S (fun L st S => t_2 L st S (fun x y => y ≤ x) (fun L st S => V MX2_startGroup h 54 L st S Q) (fun L st S => V MX2_startGroup h 25 L st S Q)) (nI 4)) 1) : V MX2_startGroup h 20 L st S Q :=
  v_iload_n dX2_startGroup_20 rfl (fun L st S k => v_iconst dX2_startGroup_21 (by decide) (fun L st S k => w_icmp_ge dX2_startGroup_22 (by decide) rfl k) k) k
theorem b_X2_startGroup_25 {h : Nat} {L : LVs} {st : List AV} {S : ST} {Q : Option AV → ST → Prop} (k : o_al L st S (fun L st S => o_get L st S (fun L st S => o_c L st S (fun L st S => t_2 L st S (fun x y => y ≤ x) (fun L st S => V MX2_startGroup h 54 L st S Q) (fun L st S => V MX2_startGroup h 34 L st S Q)) (nI 24)) 2 12 (0, 0, 0)) 0) : V MX2_startGroup h 25 L st S Q :=
  v_aload_n dX2_startGroup_25 rfl (fun L st S k => v_get dX2_startGroup_26 rfl iX2 LY_2 rfl (by decide) rfl fl_X2_72 (fun L st S k => v_bipush dX2_startGroup_29 (by decide) (fun L st S k => w_icmp_ge dX2_startGroup_31 (by decide) rfl k) k) k) k
theorem b_X2_startGroup_34 {h : Nat} {L : LVs} {st : List AV} {S : ST} {Q : Option AV → ST → Prop} (k : o_al L st S (fun L st S => o_get L st S (fun L st S => o_al L st S (fun L st S => o_get L st S (fun L st S => o_c L st S (fun L st S => o_imul L st S (fun L st S => o_il L st S (fun L st S => o_iadd L st S (fun L st S => o_lc L st S (fun L st S => o_last L st S (fun L st S => o_inc L st S (fun L st S => V MX2_startGroup h 20 L st S Q) 1 (nI 1))) (lN 0))) 1)) (nI 4)) 2 12 (0, 0, 0)) 0) 2 4 (3, 17, 0)) 0) : V MX2_startGroup h 34 L st S Q :=
  v_aload_n dX2_startGroup_34 rfl (fun L st S k => v_get dX2_startGroup_35 rfl iX2 LY_2 rfl (by decide) rfl fl_X2_27 (fun L st S k => v_aload_n dX2_startGroup_38 rfl (fun L st S k => v_get dX2_startGroup_39 rfl iX2 LY_2 rfl (by decide) rfl fl_X2_72 (fun L st S k => v_iconst dX2_startGroup_42 (by decide) (fun L st S k => v_imul dX2_startGroup_43 (fun L st S k => v_iload_n dX2_startGroup_44 rfl (fun L st S k => v_iadd dX2_startGroup_45 (fun L st S k => v_lconst dX2_startGroup_46 (by decide) (fun L st S k => v_lastore dX2_startGroup_47 (fun L st S k => v_iinc dX2_startGroup_48 (by decide) (by decide) (fun L st S k => v_goto dX2_startGroup_51 (by decide) k) k) k) k) k) k) k) k) k) k) k) k
theorem b_X2_startGroup_54 {h : Nat} {L : LVs} {st : List AV} {S : ST} {Q : Option AV → ST → Prop} (k : t_vr st S Q) : V MX2_startGroup h 54 L st S Q :=
  w_vr dX2_startGroup_54 rfl k
-- QueryForge$Machine.gather(III)V
theorem dX2_gather_0 : decode cX2_gather 0 = .ok (.aload_n 0, 1) := by decide +kernel
theorem dX2_gather_1 : decode cX2_gather 1 = .ok (.getfield 72, 3) := by decide +kernel
theorem dX2_gather_4 : decode cX2_gather 4 = .ok (.ifCond .lt 21, 3) := by decide +kernel
theorem dX2_gather_7 : decode cX2_gather 7 = .ok (.aload_n 0, 1) := by decide +kernel
theorem dX2_gather_8 : decode cX2_gather 8 = .ok (.getfield 72, 3) := by decide +kernel
theorem dX2_gather_11 : decode cX2_gather 11 = .ok (.bipush 24, 2) := by decide +kernel
theorem dX2_gather_13 : decode cX2_gather 13 = .ok (.if_icmp .ge 12, 3) := by decide +kernel
theorem dX2_gather_16 : decode cX2_gather 16 = .ok (.iload_n 2, 1) := by decide +kernel
theorem dX2_gather_17 : decode cX2_gather 17 = .ok (.ifCond .lt 8, 3) := by decide +kernel
theorem dX2_gather_20 : decode cX2_gather 20 = .ok (.iload_n 2, 1) := by decide +kernel
theorem dX2_gather_21 : decode cX2_gather 21 = .ok (.iconst 4, 1) := by decide +kernel
theorem dX2_gather_22 : decode cX2_gather 22 = .ok (.if_icmp .lt 4, 3) := by decide +kernel
theorem dX2_gather_25 : decode cX2_gather 25 = .ok (.return_, 1) := by decide +kernel
theorem dX2_gather_26 : decode cX2_gather 26 = .ok (.aload_n 0, 1) := by decide +kernel
theorem dX2_gather_27 : decode cX2_gather 27 = .ok (.getfield 38, 3) := by decide +kernel
theorem dX2_gather_30 : decode cX2_gather 30 = .ok (.aload_n 0, 1) := by decide +kernel
theorem dX2_gather_31 : decode cX2_gather 31 = .ok (.getfield 72, 3) := by decide +kernel
theorem dX2_gather_34 : decode cX2_gather 34 = .ok (.iload_n 2, 1) := by decide +kernel
theorem dX2_gather_35 : decode cX2_gather 35 = .ok (.invokevirtual 209, 3) := by decide +kernel
theorem dX2_gather_38 : decode cX2_gather 38 = .ok (.istore 4, 2) := by decide +kernel
theorem dX2_gather_40 : decode cX2_gather 40 = .ok (.aload_n 0, 1) := by decide +kernel
theorem dX2_gather_41 : decode cX2_gather 41 = .ok (.getfield 38, 3) := by decide +kernel
theorem dX2_gather_44 : decode cX2_gather 44 = .ok (.aload_n 0, 1) := by decide +kernel
theorem dX2_gather_45 : decode cX2_gather 45 = .ok (.getfield 72, 3) := by decide +kernel
theorem dX2_gather_48 : decode cX2_gather 48 = .ok (.iload_n 2, 1) := by decide +kernel
theorem dX2_gather_49 : decode cX2_gather 49 = .ok (.invokevirtual 210, 3) := by decide +kernel
theorem dX2_gather_52 : decode cX2_gather 52 = .ok (.istore 5, 2) := by decide +kernel
theorem dX2_gather_54 : decode cX2_gather 54 = .ok (.aload_n 0, 1) := by decide +kernel
theorem dX2_gather_55 : decode cX2_gather 55 = .ok (.getfield 72, 3) := by decide +kernel
theorem dX2_gather_58 : decode cX2_gather 58 = .ok (.iconst 4, 1) := by decide +kernel
theorem dX2_gather_59 : decode cX2_gather 59 = .ok (.imul, 1) := by decide +kernel
theorem dX2_gather_60 : decode cX2_gather 60 = .ok (.iload_n 2, 1) := by decide +kernel
theorem dX2_gather_61 : decode cX2_gather 61 = .ok (.iadd, 1) := by decide +kernel
theorem dX2_gather_62 : decode cX2_gather 62 = .ok (.istore 6, 2) := by decide +kernel
theorem dX2_gather_64 : decode cX2_gather 64 = .ok (.iload_n 1, 1) := by decide +kernel
theorem dX2_gather_65 : decode cX2_gather 65 = .ok (.tableswitch 99 32 34 #[27, 41, 69], 27) := by decide +kernel
theorem dX2_gather_92 : decode cX2_gather 92 = .ok (.aload_n 0, 1) := by decide +kernel
theorem dX2_gather_93 : decode cX2_gather 93 = .ok (.getfield 27, 3) := by decide +kernel
theorem dX2_gather_96 : decode cX2_gather 96 = .ok (.iload 6, 2) := by decide +kernel
theorem dX2_gather_98 : decode cX2_gather 98 = .ok (.dup2, 1) := by decide +kernel
theorem dX2_gather_99 : decode cX2_gather 99 = .ok (.laload, 1) := by decide +kernel
theorem dX2_gather_100 : decode cX2_gather 100 = .ok (.lconst 1, 1) := by decide +kernel
theorem dX2_gather_101 : decode cX2_gather 101 = .ok (.ladd, 1) := by decide +kernel
theorem dX2_gather_102 : decode cX2_gather 102 = .ok (.lastore, 1) := by decide +kernel
theorem dX2_gather_103 : decode cX2_gather 103 = .ok (.goto 88, 3) := by decide +kernel
theorem dX2_gather_106 : decode cX2_gather 106 = .ok (.aload_n 0, 1) := by decide +kernel
theorem dX2_gather_107 : decode cX2_gather 107 = .ok (.getfield 27, 3) := by decide +kernel
theorem dX2_gather_110 : decode cX2_gather 110 = .ok (.iload 6, 2) := by decide +kernel
theorem dX2_gather_112 : decode cX2_gather 112 = .ok (.dup2, 1) := by decide +kernel
theorem dX2_gather_113 : decode cX2_gather 113 = .ok (.laload, 1) := by decide +kernel
theorem dX2_gather_114 : decode cX2_gather 114 = .ok (.iload_n 3, 1) := by decide +kernel
theorem dX2_gather_115 : decode cX2_gather 115 = .ok (.i2l, 1) := by decide +kernel
theorem dX2_gather_116 : decode cX2_gather 116 = .ok (.ladd, 1) := by decide +kernel
theorem dX2_gather_117 : decode cX2_gather 117 = .ok (.lastore, 1) := by decide +kernel
theorem dX2_gather_118 : decode cX2_gather 118 = .ok (.aload_n 0, 1) := by decide +kernel
theorem dX2_gather_119 : decode cX2_gather 119 = .ok (.getfield 38, 3) := by decide +kernel
theorem dX2_gather_122 : decode cX2_gather 122 = .ok (.aload_n 0, 1) := by decide +kernel
theorem dX2_gather_123 : decode cX2_gather 123 = .ok (.getfield 72, 3) := by decide +kernel
theorem dX2_gather_126 : decode cX2_gather 126 = .ok (.iload_n 2, 1) := by decide +kernel
theorem dX2_gather_127 : decode cX2_gather 127 = .ok (.iconst 0, 1) := by decide +kernel
theorem dX2_gather_128 : decode cX2_gather 128 = .ok (.invokevirtual 202, 3) := by decide +kernel
theorem dX2_gather_131 : decode cX2_gather 131 = .ok (.goto 60, 3) := by decide +kernel
theorem dX2_gather_134 : decode cX2_gather 134 = .ok (.aload_n 0, 1) := by decide +kernel
theorem dX2_gather_135 : decode cX2_gather 135 = .ok (.getfield 38, 3) := by decide +kernel
theorem dX2_gather_138 : decode cX2_gather 138 = .ok (.aload_n 0, 1) := by decide +kernel
theorem dX2_gather_139 : decode cX2_gather 139 = .ok (.getfield 72, 3) := by decide +kernel
theorem dX2_gather_142 : decode cX2_gather 142 = .ok (.iload_n 2, 1) := by decide +kernel
theorem dX2_gather_143 : decode cX2_gather 143 = .ok (.iload 4, 2) := by decide +kernel
theorem dX2_gather_145 : decode cX2_gather 145 = .ok (.ifCond .eq 7, 3) := by decide +kernel
theorem dX2_gather_148 : decode cX2_gather 148 = .ok (.iload_n 3, 1) := by decide +kernel
theorem dX2_gather_149 : decode cX2_gather 149 = .ok (.goto 9, 3) := by decide +kernel
theorem dX2_gather_152 : decode cX2_gather 152 = .ok (.iload 5, 2) := by decide +kernel
theorem dX2_gather_154 : decode cX2_gather 154 = .ok (.iload_n 3, 1) := by decide +kernel
theorem dX2_gather_155 : decode cX2_gather 155 = .ok (.invokestatic 166, 3) := by decide +kernel
theorem dX2_gather_158 : decode cX2_gather 158 = .ok (.invokevirtual 202, 3) := by decide +kernel
theorem dX2_gather_161 : decode cX2_gather 161 = .ok (.goto 30, 3) := by decide +kernel
theorem dX2_gather_164 : decode cX2_gather 164 = .ok (.aload_n 0, 1) := by decide +kernel
theorem dX2_gather_165 : decode cX2_gather 165 = .ok (.getfield 38, 3) := by decide +kernel
theorem dX2_gather_168 : decode cX2_gather 168 = .ok (.aload_n 0, 1) := by decide +kernel
theorem dX2_gather_169 : decode cX2_gather 169 = .ok (.getfield 72, 3) := by decide +kernel
theorem dX2_gather_172 : decode cX2_gather 172 = .ok (.iload_n 2, 1) := by decide +kernel
theorem dX2_gather_173 : decode cX2_gather 173 = .ok (.iload 4, 2) := by decide +kernel
theorem dX2_gather_175 : decode cX2_gather 175 = .ok (.ifCond .eq 7, 3) := by decide +kernel
theorem dX2_gather_178 : decode cX2_gather 178 = .ok (.iload_n 3, 1) := by decide +kernel
theorem dX2_gather_179 : decode cX2_gather 179 = .ok (.goto 9, 3) := by decide +kernel
theorem dX2_gather_182 : decode cX2_gather 182 = .ok (.iload 5, 2) := by decide +kernel
theorem dX2_gather_184 : decode cX2_gather 184 = .ok (.iload_n 3, 1) := by decide +kernel
theorem dX2_gather_185 : decode cX2_gather 185 = .ok (.invokestatic 171, 3) := by decide +kernel
theorem dX2_gather_188 : decode cX2_gather 188 = .ok (.invokevirtual 202, 3) := by decide +kernel
theorem dX2_gather_191 : decode cX2_gather 191 = .ok (.return_, 1) := by decide +kernel
theorem b_X2_gather_0 {h : Nat} {L : LVs} {st : List AV} {S : ST} {Q : Option AV → ST → Prop} (k : o_al L st S (fun L st S => o_get L st S (fun L st S => t_1 L st S (fun x => x < nI 0) (fun L st S => V MX2_gather h 25 L st S Q) (fun L st S => V MX2_gather h 7 L st S Q)) 2 12 (0, 0, 0)) 0) : V MX2_gather h 0 L st S Q :=
  v_aload_n dX2_gather_0 rfl (fun L st S k => v_get dX2_gather_1 rfl iX2 LY_2 rfl (by decide) rfl fl_X2_72 (fun L st S k => w_if_lt dX2_gather_4 (by decide) rfl k) k) k
theorem b_X2_gather_7 {h : Nat} {L : LVs} {st : List AV} {S : ST} {Q : Option AV → ST → Prop} (k : o_al L st S (fun L st S => o_get L st S (fun L st S => o_c L st S (fun L st S => t_2 L st S (fun x y => y ≤ x) (fun L st S => V MX2_gather h 25 L st S Q) (fun L st S => V MX2_gather h 16 L st S Q)) (nI 24)) 2 12 (0, 0, 0)) 0) : V MX2_gather h 7 L st S Q :=
  v_aload_n dX2_gather_7 rfl (fun L st S k => v_get dX2_gather_8 rfl iX2 LY_2 rfl (by decide) rfl fl_X2_72 (fun L st S k => v_bipush dX2_gather_11 (by decide) (fun L st S k => w_icmp_ge dX2_gather_13 (by decide) rfl k) k) k) k
theorem b_X2_gather_16 {h : Nat} {L : LVs} {st : List AV} {S : ST} {Q : Option AV → ST → Prop} (k : o_il L st S (fun L st S => t_1 L st S (fun x => x < nI 0) (fun L st S => V MX2_gather h 25 L st S Q) (fun L st S => V MX2_gather h 20 L st S Q)) 2) : V MX2_gather h 16 L st S Q :=
  v_iload_n dX2_gather_16 rfl (fun L st S k => w_if_lt dX2_gather_17 (by decide) rfl k) k
theorem b_X2_gather_20 {h : Nat} {L : LVs} {st : List AV} {S : ST} {Q : Option AV → ST → Prop} (k : o_il L st S (fun L st S => o_c L st S (fun L st S => t_2 L st S (fun x y => x < y) (fun L st S => V MX2_gather h 26 L st S Q) (fun L st S => V MX2_gather h 25 L st S Q)) (nI 4)) 2) : V MX2_gather h 20 L st S Q :=
  v_iload_n dX2_gather_20 rfl (fun L st S k => v_iconst dX2_gather_21 (by decide) (fun L st S k => w_icmp_lt dX2_gather_22 (by decide) rfl k) k) k
theorem b_X2_gather_25 {h : Nat} {L : LVs} {st : List AV} {S : ST} {Q : Option AV → ST → Prop} (k : t_vr st S Q) : V MX2_gather h 25 L st S Q :=
  w_vr dX2_gather_25 rfl k
theorem b_X2_gather_26 {h : Nat} {L : LVs} {st : List AV} {S : ST} {Q : Option AV → ST → Prop} (k : o_al L st S (fun L st S => o_get L st S (fun L st S => o_al L st S (fun L st S => o_get L st S (fun L st S => o_il L st S (fun L st S => V MX2_gather h 35 L st S Q) 2) 2 12 (0, 0, 0)) 0) 2 6 (5, 5, 0)) 0) : V MX2_gather h 26 L st S Q :=
  v_aload_n dX2_gather_26 rfl (fun L st S k => v_get dX2_gather_27 rfl iX2 LY_2 rfl (by decide) rfl fl_X2_38 (fun L st S k => v_aload_n dX2_gather_30 rfl (fun L st S k => v_get dX2_gather_31 rfl iX2 LY_2 rfl (by decide) rfl fl_X2_72 (fun L st S k => v_iload_n dX2_gather_34 rfl (fun L st S k => k) k) k) k) k) k
theorem k_X2_gather_35 {h : Nat} {L : LVs} {st : List AV} {S : ST} {Q Q' : Option AV → ST → Prop} {j : Nat} {a0 a1 : AV} (hC : Ct MX5_missingAt h [vR 5 j, a0, a1] S Q') (k : ∀ (r : Option AV) (S' : ST), Q' r S' → V MX2_gather (h + 1) 38 L (r.toList ++ st) S' Q) (hj : j < NI 5) (hw : wid st ≤ 8) : V MX2_gather (h + 1) 35 L (a1 :: a0 :: vR 5 j :: st) S Q :=
  v_callV (M' := MX5_missingAt) (c := 5) (As := [a0, a1]) dX2_gather_35 ml_X2_209 im_X5_missingAt se_X5_missingAt in_X5 cd_X5_missingAt rfl LY_5 np_X5_missingAt (by decide) hw hj hC k
theorem b_X2_gather_38 {h : Nat} {L : LVs} {st : List AV} {S : ST} {Q : Option AV → ST → Prop} (k : o_is L st S (fun L st S => o_al L st S (fun L st S => o_get L st S (fun L st S => o_al L st S (fun L st S => o_get L st S (fun L st S => o_il L st S (fun L st S => V MX2_gather h 49 L st S Q) 2) 2 12 (0, 0, 0)) 0) 2 6 (5, 5, 0)) 0) 4) : V MX2_gather h 38 L st S Q :=
  v_istore dX2_gather_38 (by decide) (fun L st S k => v_aload_n dX2_gather_40 rfl (fun L st S k => v_get dX2_gather_41 rfl iX2 LY_2 rfl (by decide) rfl fl_X2_38 (fun L st S k => v_aload_n dX2_gather_44 rfl (fun L st S k => v_get dX2_gather_45 rfl iX2 LY_2 rfl (by decide) rfl fl_X2_72 (fun L st S k => v_iload_n dX2_gather_48 rfl (fun L st S k => k) k) k) k) k) k) k
theorem k_X2_gather_49 {h : Nat} {L : LVs} {st : List AV} {S : ST} {Q Q' : Option AV → ST → Prop} {j : Nat} {a0 a1 : AV} (hC : Ct MX5_valueAt h [vR 5 j, a0, a1] S Q') (k : ∀ (r : Option AV) (S' : ST), Q' r S' → V MX2_gather (h + 1) 52 L (r.toList ++ st) S' Q) (hj : j < NI 5) (hw : wid st ≤ 8) : V MX2_gather (h + 1) 49 L (a1 :: a0 :: vR 5 j :: st) S Q :=
  v_callV (M' := MX5_valueAt) (c := 5) (As := [a0, a1]) dX2_gather_49 ml_X2_210 im_X5_valueAt se_X5_valueAt in_X5 cd_X5_valueAt rfl LY_5 np_X5_valueAt (by decide) hw hj hC k
theorem b_X2_gather_52 {h : Nat} {L : LVs} {st : List AV} {S : ST} {Q : Option AV → ST → Prop} (k : o_is L st S (fun L st S => o_al L st S (fun L st S => o_get L st S (fun L st S => o_c L st S (fun L st S => o_imul L st S (fun L st S => o_il L st S (fun L st S => o_iadd L st S (fun L st S => o_is L st S (fun L st S => o_il L st S (fun L st S => t_sw L st S [((nI 32), fun L st S => V MX2_gather h 92 L st S Q), ((nI 33), fun L st S => V MX2_gather h 106 L st S Q), ((nI 34), fun L st S => V MX2_gather h 134 L st S Q)] (fun L st S => V MX2_gather h 164 L st S Q)) 1) 6)) 2)) (nI 4)) 2 12 (0, 0, 0)) 0) 5) : V MX2_gather h 52 L st S Q :=
  v_istore dX2_gather_52 (by decide) (fun L st S k => v_aload_n dX2_gather_54 rfl (fun L st S k => v_get dX2_gather_55 rfl iX2 LY_2 rfl (by decide) rfl fl_X2_72 (fun L st S k => v_iconst dX2_gather_58 (by decide) (fun L st S k => v_imul dX2_gather_59 (fun L st S k => v_iload_n dX2_gather_60 rfl (fun L st S k => v_iadd dX2_gather_61 (fun L st S k => v_istore dX2_gather_62 (by decide) (fun L st S k => v_iload_n dX2_gather_64 rfl (fun L st S k => w_tsw [((nI 32), 92), ((nI 33), 106), ((nI 34), 134)] dX2_gather_65 (n := 3) (by decide) rfl (by decide) (by decide) (by decide) k) k) k) k) k) k) k) k) k) k
theorem b_X2_gather_92 {h : Nat} {L : LVs} {st : List AV} {S : ST} {Q : Option AV → ST → Prop} (k : o_al L st S (fun L st S => o_get L st S (fun L st S => o_il L st S (fun L st S => o_dup2 L st S (fun L st S => o_lald L st S (fun L st S => o_lc L st S (fun L st S => o_ladd L st S (fun L st S => o_last L st S (fun L st S => V MX2_gather h 191 L st S Q))) (lN 1)))) 6) 2 4 (3, 17, 0)) 0) : V MX2_gather h 92 L st S Q :=
  v_aload_n dX2_gather_92 rfl (fun L st S k => v_get dX2_gather_93 rfl iX2 LY_2 rfl (by decide) rfl fl_X2_27 (fun L st S k => v_iload dX2_gather_96 (fun L st S k => v_dup2 dX2_gather_98 (fun L st S k => v_laload dX2_gather_99 (fun L st S k => v_lconst dX2_gather_100 (by decide) (fun L st S k => v_ladd dX2_gather_101 (fun L st S k => v_lastore dX2_gather_102 (fun L st S k => v_goto dX2_gather_103 (by decide) k) k) k) k) k) k) k) k) k
theorem b_X2_gather_106 {h : Nat} {L : LVs} {st : List AV} {S : ST} {Q : Option AV → ST → Prop} (k : o_al L st S (fun L st S => o_get L st S (fun L st S => o_il L st S (fun L st S => o_dup2 L st S (fun L st S => o_lald L st S (fun L st S => o_il L st S (fun L st S => o_i2l L st S (fun L st S => o_ladd L st S (fun L st S => o_last L st S (fun L st S => o_al L st S (fun L st S => o_get L st S (fun L st S => o_al L st S (fun L st S => o_get L st S (fun L st S => o_il L st S (fun L st S => o_c L st S (fun L st S => V MX2_gather h 128 L st S Q) (nI 0)) 2) 2 12 (0, 0, 0)) 0) 2 6 (5, 5, 0)) 0)))) 3))) 6) 2 4 (3, 17, 0)) 0) : V MX2_gather h 106 L st S Q :=
  v_aload_n dX2_gather_106 rfl (fun L st S k => v_get dX2_gather_107 rfl iX2 LY_2 rfl (by decide) rfl fl_X2_27 (fun L st S k => v_iload dX2_gather_110 (fun L st S k => v_dup2 dX2_gather_112 (fun L st S k => v_laload dX2_gather_113 (fun L st S k => v_iload_n dX2_gather_114 rfl (fun L st S k => v_i2l dX2_gather_115 (fun L st S k => v_ladd dX2_gather_116 (fun L st S k => v_lastore dX2_gather_117 (fun L st S k => v_aload_n dX2_gather_118 rfl (fun L st S k => v_get dX2_gather_119 rfl iX2 LY_2 rfl (by decide) rfl fl_X2_38 (fun L st S k => v_aload_n dX2_gather_122 rfl (fun L st S k => v_get dX2_gather_123 rfl iX2 LY_2 rfl (by decide) rfl fl_X2_72 (fun L st S k => v_iload_n dX2_gather_126 rfl (fun L st S k => v_iconst dX2_gather_127 (by decide) (fun L st S k => k) k) k) k) k) k) k) k) k) k) k) k) k) k) k) k
theorem k_X2_gather_128 {h : Nat} {L : LVs} {st : List AV} {S : ST} {Q Q' : Option AV → ST → Prop} {j : Nat} {a0 a1 a2 : AV} (hC : Ct MX5_set h [vR 5 j, a0, a1, a2] S Q') (k : ∀ (r : Option AV) (S' : ST), Q' r S' → V MX2_gather (h + 1) 131 L (r.toList ++ st) S' Q) (hj : j < NI 5) (hw : wid st ≤ 8) : V MX2_gather (h + 1) 128 L (a2 :: a1 :: a0 :: vR 5 j :: st) S Q :=
  v_callV (M' := MX5_set) (c := 5) (As := [a0, a1, a2]) dX2_gather_128 ml_X2_202 im_X5_set se_X5_set in_X5 cd_X5_set rfl LY_5 np_X5_set (by decide) hw hj hC k
theorem b_X2_gather_131 {h : Nat} {L : LVs} {st : List AV} {S : ST} {Q : Option AV → ST → Prop} (k : V MX2_gather h 191 L st S Q) : V MX2_gather h 131 L st S Q :=
  v_goto dX2_gather_131 (by decide) k
theorem b_X2_gather_134 {h : Nat} {L : LVs} {st : List AV} {S : ST} {Q : Option AV → ST → Prop} (k : o_al L st S (fun L st S => o_get L st S (fun L st S => o_al L st S (fun L st S => o_get L st S (fun L st S => o_il L st S (fun L st S => o_il L st S (fun L st S => t_1 L st S (fun x => x = nI 0) (fun L st S => V MX2_gather h 152 L st S Q) (fun L st S => V MX2_gather h 148 L st S Q)) 4) 2) 2 12 (0, 0, 0)) 0) 2 6 (5, 5, 0)) 0) : V MX2_gather h 134 L st S Q :=
  v_aload_n dX2_gather_134 rfl (fun L st S k => v_get dX2_gather_135 rfl iX2 LY_2 rfl (by decide) rfl fl_X2_38 (fun L st S k => v_aload_n dX2_gather_138 rfl (fun L st S k => v_get dX2_gather_139 rfl iX2 LY_2 rfl (by decide) rfl fl_X2_72 (fun L st S k => v_iload_n dX2_gather_142 rfl (fun L st S k => v_iload dX2_gather_143 (fun L st S k => w_if_eq dX2_gather_145 (by decide) rfl k) k) k) k) k) k) k
theorem b_X2_gather_148 {h : Nat} {L : LVs} {st : List AV} {S : ST} {Q : Option AV → ST → Prop} (k : o_il L st S (fun L st S => V MX2_gather h 158 L st S Q) 3) : V MX2_gather h 148 L st S Q :=
  v_iload_n dX2_gather_148 rfl (fun L st S k => v_goto dX2_gather_149 (by decide) k) k
theorem b_X2_gather_152 {h : Nat} {L : LVs} {st : List AV} {S : ST} {Q : Option AV → ST → Prop} (k : o_il L st S (fun L st S => o_il L st S (fun L st S => o_min L st S (fun L st S => V MX2_gather (h + 1) 158 L st S Q)) 3) 5) : V MX2_gather (h + 1) 152 L st S Q :=
  v_iload dX2_gather_152 (fun L st S k => v_iload_n dX2_gather_154 rfl (fun L st S k => v_min dX2_gather_155 mm_X2_166 (fun L st S k => k) k) k) k
theorem k_X2_gather_158 {h : Nat} {L : LVs} {st : List AV} {S : ST} {Q Q' : Option AV → ST → Prop} {j : Nat} {a0 a1 a2 : AV} (hC : Ct MX5_set h [vR 5 j, a0, a1, a2] S Q') (k : ∀ (r : Option AV) (S' : ST), Q' r S' → V MX2_gather (h + 1) 161 L (r.toList ++ st) S' Q) (hj : j < NI 5) (hw : wid st ≤ 8) : V MX2_gather (h + 1) 158 L (a2 :: a1 :: a0 :: vR 5 j :: st) S Q :=
  v_callV (M' := MX5_set) (c := 5) (As := [a0, a1, a2]) dX2_gather_158 ml_X2_202 im_X5_set se_X5_set in_X5 cd_X5_set rfl LY_5 np_X5_set (by decide) hw hj hC k
theorem b_X2_gather_161 {h : Nat} {L : LVs} {st : List AV} {S : ST} {Q : Option AV → ST → Prop} (k : V MX2_gather h 191 L st S Q) : V MX2_gather h 161 L st S Q :=
  v_goto dX2_gather_161 (by decide) k
theorem b_X2_gather_164 {h : Nat} {L : LVs} {st : List AV} {S : ST} {Q : Option AV → ST → Prop} (k : o_al L st S (fun L st S => o_get L st S (fun L st S => o_al L st S (fun L st S => o_get L st S (fun L st S => o_il L st S (fun L st S => o_il L st S (fun L st S => t_1 L st S (fun x => x = nI 0) (fun L st S => V MX2_gather h 182 L st S Q) (fun L st S => V MX2_gather h 178 L st S Q)) 4) 2) 2 12 (0, 0, 0)) 0) 2 6 (5, 5, 0)) 0) : V MX2_gather h 164 L st S Q :=
  v_aload_n dX2_gather_164 rfl (fun L st S k => v_get dX2_gather_165 rfl iX2 LY_2 rfl (by decide) rfl fl_X2_38 (fun L st S k => v_aload_n dX2_gather_168 rfl (fun L st S k => v_get dX2_gather_169 rfl iX2 LY_2 rfl (by decide) rfl fl_X2_72 (fun L st S k => v_iload_n dX2_gather_172 rfl (fun L st S k => v_iload dX2_gather_173 (fun L st S k => w_if_eq dX2_gather_175 (by decide) rfl k) k) k) k) k) k) k
theorem b_X2_gather_178 {h : Nat} {L : LVs} {st : List AV} {S : ST} {Q : Option AV → ST → Prop} (k : o_il L st S (fun L st S => V MX2_gather h 188 L st S Q) 3) : V MX2_gather h 178 L st S Q :=
  v_iload_n dX2_gather_178 rfl (fun L st S k => v_goto dX2_gather_179 (by decide) k) k
theorem b_X2_gather_182 {h : Nat} {L : LVs} {st : List AV} {S : ST} {Q : Option AV → ST → Prop} (k : o_il L st S (fun L st S => o_il L st S (fun L st S => o_max L st S (fun L st S => V MX2_gather (h + 1) 188 L st S Q)) 3) 5) : V MX2_gather (h + 1) 182 L st S Q :=
  v_iload dX2_gather_182 (fun L st S k => v_iload_n dX2_gather_184 rfl (fun L st S k => v_max dX2_gather_185 mm_X2_171 (fun L st S k => k) k) k) k
theorem k_X2_gather_188 {h : Nat} {L : LVs} {st : List AV} {S : ST} {Q Q' : Option AV → ST → Prop} {j : Nat} {a0 a1 a2 : AV} (hC : Ct MX5_set h [vR 5 j, a0, a1, a2] S Q') (k : ∀ (r : Option AV) (S' : ST), Q' r S' → V MX2_gather (h + 1) 191 L (r.toList ++ st) S' Q) (hj : j < NI 5) (hw : wid st ≤ 8) : V MX2_gather (h + 1) 188 L (a2 :: a1 :: a0 :: vR 5 j :: st) S Q :=
  v_callV (M' := MX5_set) (c := 5) (As := [a0, a1, a2]) dX2_gather_188 ml_X2_202 im_X5_set se_X5_set in_X5 cd_X5_set rfl LY_5 np_X5_set (by decide) hw hj hC k
theorem b_X2_gather_191 {h : Nat} {L : LVs} {st : List AV} {S : ST} {Q : Option AV → ST → Prop} (k : t_vr st S Q) : V MX2_gather h 191 L st S Q :=
  w_vr dX2_gather_191 rfl k
-- QueryForge$Machine.finishRows(II)V
theorem dX2_finishRows_0 : decode cX2_finishRows 0 = .ok (.iload_n 1, 1) := by decide +kernel
theorem dX2_finishRows_1 : decode cX2_finishRows 1 = .ok (.tableswitch 64 36 39 #[31, 31, 40, 52], 31) := by decide +kernel
theorem dX2_finishRows_32 : decode cX2_finishRows 32 = .ok (.aload_n 0, 1) := by decide +kernel
theorem dX2_finishRows_33 : decode cX2_finishRows 33 = .ok (.iload_n 1, 1) := by decide +kernel
theorem dX2_finishRows_34 : decode cX2_finishRows 34 = .ok (.iload_n 2, 1) := by decide +kernel
theorem dX2_finishRows_35 : decode cX2_finishRows 35 = .ok (.invokevirtual 211, 3) := by decide +kernel
theorem dX2_finishRows_38 : decode cX2_finishRows 38 = .ok (.goto 32, 3) := by decide +kernel
theorem dX2_finishRows_41 : decode cX2_finishRows 41 = .ok (.aload_n 0, 1) := by decide +kernel
theorem dX2_finishRows_42 : decode cX2_finishRows 42 = .ok (.getfield 38, 3) := by decide +kernel
theorem dX2_finishRows_45 : decode cX2_finishRows 45 = .ok (.iload_n 2, 1) := by decide +kernel
theorem dX2_finishRows_46 : decode cX2_finishRows 46 = .ok (.iconst 0, 1) := by decide +kernel
theorem dX2_finishRows_47 : decode cX2_finishRows 47 = .ok (.invokevirtual 214, 3) := by decide +kernel
theorem dX2_finishRows_50 : decode cX2_finishRows 50 = .ok (.goto 20, 3) := by decide +kernel
theorem dX2_finishRows_53 : decode cX2_finishRows 53 = .ok (.aload_n 0, 1) := by decide +kernel
theorem dX2_finishRows_54 : decode cX2_finishRows 54 = .ok (.getfield 38, 3) := by decide +kernel
theorem dX2_finishRows_57 : decode cX2_finishRows 57 = .ok (.iload_n 2, 1) := by decide +kernel
theorem dX2_finishRows_58 : decode cX2_finishRows 58 = .ok (.iconst 1, 1) := by decide +kernel
theorem dX2_finishRows_59 : decode cX2_finishRows 59 = .ok (.invokevirtual 214, 3) := by decide +kernel
theorem dX2_finishRows_62 : decode cX2_finishRows 62 = .ok (.goto 8, 3) := by decide +kernel
theorem dX2_finishRows_65 : decode cX2_finishRows 65 = .ok (.aload_n 0, 1) := by decide +kernel
theorem dX2_finishRows_66 : decode cX2_finishRows 66 = .ok (.iload_n 2, 1) := by decide +kernel
theorem dX2_finishRows_67 : decode cX2_finishRows 67 = .ok (.invokevirtual 217, 3) := by decide +kernel
theorem dX2_finishRows_70 : decode cX2_finishRows 70 = .ok (.return_, 1) := by decide +kernel
theorem b_X2_finishRows_0 {h : Nat} {L : LVs} {st : List AV} {S : ST} {Q : Option AV → ST → Prop} (k : o_il L st S (fun L st S => t_sw L st S [((nI 36), fun L st S => V MX2_finishRows h 32 L st S Q), ((nI 37), fun L st S => V MX2_finishRows h 32 L st S Q), ((nI 38), fun L st S => V MX2_finishRows h 41 L st S Q), ((nI 39), fun L st S => V MX2_finishRows h 53 L st S Q)] (fun L st S => V MX2_finishRows h 65 L st S Q)) 1) : V MX2_finishRows h 0 L st S Q :=
  v_iload_n dX2_finishRows_0 rfl (fun L st S k => w_tsw [((nI 36), 32), ((nI 37), 32), ((nI 38), 41), ((nI 39), 53)] dX2_finishRows_1 (n := 4) (by decide) rfl (by decide) (by decide) (by decide) k) k
theorem b_X2_finishRows_32 {h : Nat} {L : LVs} {st : List AV} {S : ST} {Q : Option AV → ST → Prop} (k : o_al L st S (fun L st S => o_il L st S (fun L st S => o_il L st S (fun L st S => V MX2_finishRows h 35 L st S Q) 2) 1) 0) : V MX2_finishRows h 32 L st S Q :=
  v_aload_n dX2_finishRows_32 rfl (fun L st S k => v_iload_n dX2_finishRows_33 rfl (fun L st S k => v_iload_n dX2_finishRows_34 rfl (fun L st S k => k) k) k) k
theorem k_X2_finishRows_35 {h : Nat} {L : LVs} {st : List AV} {S : ST} {Q Q' : Option AV → ST → Prop} {j : Nat} {a0 a1 : AV} (hC : Ct MX2_bringTotals h [vR 2 j, a0, a1] S Q') (k : ∀ (r : Option AV) (S' : ST), Q' r S' → V MX2_finishRows (h + 1) 38 L (r.toList ++ st) S' Q) (hj : j < NI 2) (hw : wid st ≤ 8) : V MX2_finishRows (h + 1) 35 L (a1 :: a0 :: vR 2 j :: st) S Q :=
  v_callV (M' := MX2_bringTotals) (c := 2) (As := [a0, a1]) dX2_finishRows_35 ml_X2_211 im_X2_bringTotals se_X2_bringTotals in_X2 cd_X2_bringTotals rfl LY_2 np_X2_bringTotals (by decide) hw hj hC k
theorem b_X2_finishRows_38 {h : Nat} {L : LVs} {st : List AV} {S : ST} {Q : Option AV → ST → Prop} (k : V MX2_finishRows h 70 L st S Q) : V MX2_finishRows h 38 L st S Q :=
  v_goto dX2_finishRows_38 (by decide) k
theorem b_X2_finishRows_41 {h : Nat} {L : LVs} {st : List AV} {S : ST} {Q : Option AV → ST → Prop} (k : o_al L st S (fun L st S => o_get L st S (fun L st S => o_il L st S (fun L st S => o_c L st S (fun L st S => V MX2_finishRows h 47 L st S Q) (nI 0)) 2) 2 6 (5, 5, 0)) 0) : V MX2_finishRows h 41 L st S Q :=
  v_aload_n dX2_finishRows_41 rfl (fun L st S k => v_get dX2_finishRows_42 rfl iX2 LY_2 rfl (by decide) rfl fl_X2_38 (fun L st S k => v_iload_n dX2_finishRows_45 rfl (fun L st S k => v_iconst dX2_finishRows_46 (by decide) (fun L st S k => k) k) k) k) k
theorem k_X2_finishRows_47 {h : Nat} {L : LVs} {st : List AV} {S : ST} {Q Q' : Option AV → ST → Prop} {j : Nat} {a0 a1 : AV} (hC : Ct MX5_sort h [vR 5 j, a0, a1] S Q') (k : ∀ (r : Option AV) (S' : ST), Q' r S' → V MX2_finishRows (h + 1) 50 L (r.toList ++ st) S' Q) (hj : j < NI 5) (hw : wid st ≤ 8) : V MX2_finishRows (h + 1) 47 L (a1 :: a0 :: vR 5 j :: st) S Q :=
  v_callV (M' := MX5_sort) (c := 5) (As := [a0, a1]) dX2_finishRows_47 ml_X2_214 im_X5_sort se_X5_sort in_X5 cd_X5_sort rfl LY_5 np_X5_sort (by decide) hw hj hC k
theorem b_X2_finishRows_50 {h : Nat} {L : LVs} {st : List AV} {S : ST} {Q : Option AV → ST → Prop} (k : V MX2_finishRows h 70 L st S Q) : V MX2_finishRows h 50 L st S Q :=
  v_goto dX2_finishRows_50 (by decide) k
theorem b_X2_finishRows_53 {h : Nat} {L : LVs} {st : List AV} {S : ST} {Q : Option AV → ST → Prop} (k : o_al L st S (fun L st S => o_get L st S (fun L st S => o_il L st S (fun L st S => o_c L st S (fun L st S => V MX2_finishRows h 59 L st S Q) (nI 1)) 2) 2 6 (5, 5, 0)) 0) : V MX2_finishRows h 53 L st S Q :=
  v_aload_n dX2_finishRows_53 rfl (fun L st S k => v_get dX2_finishRows_54 rfl iX2 LY_2 rfl (by decide) rfl fl_X2_38 (fun L st S k => v_iload_n dX2_finishRows_57 rfl (fun L st S k => v_iconst dX2_finishRows_58 (by decide) (fun L st S k => k) k) k) k) k
theorem k_X2_finishRows_59 {h : Nat} {L : LVs} {st : List AV} {S : ST} {Q Q' : Option AV → ST → Prop} {j : Nat} {a0 a1 : AV} (hC : Ct MX5_sort h [vR 5 j, a0, a1] S Q') (k : ∀ (r : Option AV) (S' : ST), Q' r S' → V MX2_finishRows (h + 1) 62 L (r.toList ++ st) S' Q) (hj : j < NI 5) (hw : wid st ≤ 8) : V MX2_finishRows (h + 1) 59 L (a1 :: a0 :: vR 5 j :: st) S Q :=
  v_callV (M' := MX5_sort) (c := 5) (As := [a0, a1]) dX2_finishRows_59 ml_X2_214 im_X5_sort se_X5_sort in_X5 cd_X5_sort rfl LY_5 np_X5_sort (by decide) hw hj hC k
theorem b_X2_finishRows_62 {h : Nat} {L : LVs} {st : List AV} {S : ST} {Q : Option AV → ST → Prop} (k : V MX2_finishRows h 70 L st S Q) : V MX2_finishRows h 62 L st S Q :=
  v_goto dX2_finishRows_62 (by decide) k
theorem b_X2_finishRows_65 {h : Nat} {L : LVs} {st : List AV} {S : ST} {Q : Option AV → ST → Prop} (k : o_al L st S (fun L st S => o_il L st S (fun L st S => V MX2_finishRows h 67 L st S Q) 2) 0) : V MX2_finishRows h 65 L st S Q :=
  v_aload_n dX2_finishRows_65 rfl (fun L st S k => v_iload_n dX2_finishRows_66 rfl (fun L st S k => k) k) k
theorem k_X2_finishRows_67 {h : Nat} {L : LVs} {st : List AV} {S : ST} {Q Q' : Option AV → ST → Prop} {j : Nat} {a0 : AV} (hC : Ct MX2_show h [vR 2 j, a0] S Q') (k : ∀ (r : Option AV) (S' : ST), Q' r S' → V MX2_finishRows (h + 1) 70 L (r.toList ++ st) S' Q) (hj : j < NI 2) (hw : wid st ≤ 8) : V MX2_finishRows (h + 1) 67 L (a0 :: vR 2 j :: st) S Q :=
  v_callV (M' := MX2_show) (c := 2) (As := [a0]) dX2_finishRows_67 ml_X2_217 im_X2_show se_X2_show in_X2 cd_X2_show rfl LY_2 np_X2_show (by decide) hw hj hC k
theorem b_X2_finishRows_70 {h : Nat} {L : LVs} {st : List AV} {S : ST} {Q : Option AV → ST → Prop} (k : t_vr st S Q) : V MX2_finishRows h 70 L st S Q :=
  w_vr dX2_finishRows_70 rfl k
-- QueryForge$Machine.bringTotals(II)V
theorem dX2_bringTotals_0 : decode cX2_bringTotals 0 = .ok (.iconst 0, 1) := by decide +kernel
theorem dX2_bringTotals_1 : decode cX2_bringTotals 1 = .ok (.istore_n 3, 1) := by decide +kernel
theorem dX2_bringTotals_2 : decode cX2_bringTotals 2 = .ok (.iload_n 3, 1) := by decide +kernel
theorem dX2_bringTotals_3 : decode cX2_bringTotals 3 = .ok (.aload_n 0, 1) := by decide +kernel
theorem dX2_bringTotals_4 : decode cX2_bringTotals 4 = .ok (.getfield 38, 3) := by decide +kernel
theorem dX2_bringTotals_7 : decode cX2_bringTotals 7 = .ok (.invokevirtual 205, 3) := by decide +kernel
theorem dX2_bringTotals_10 : decode cX2_bringTotals 10 = .ok (.if_icmp .ge 112, 3) := by decide +kernel
theorem dX2_bringTotals_13 : decode cX2_bringTotals 13 = .ok (.iload_n 3, 1) := by decide +kernel
theorem dX2_bringTotals_14 : decode cX2_bringTotals 14 = .ok (.bipush 24, 2) := by decide +kernel
theorem dX2_bringTotals_16 : decode cX2_bringTotals 16 = .ok (.if_icmp .ge 106, 3) := by decide +kernel
theorem dX2_bringTotals_19 : decode cX2_bringTotals 19 = .ok (.aload_n 0, 1) := by decide +kernel
theorem dX2_bringTotals_20 : decode cX2_bringTotals 20 = .ok (.getfield 84, 3) := by decide +kernel
theorem dX2_bringTotals_23 : decode cX2_bringTotals 23 = .ok (.ifCond .eq 99, 3) := by decide +kernel
theorem dX2_bringTotals_26 : decode cX2_bringTotals 26 = .ok (.iload_n 1, 1) := by decide +kernel
theorem dX2_bringTotals_27 : decode cX2_bringTotals 27 = .ok (.bipush 36, 2) := by decide +kernel
theorem dX2_bringTotals_29 : decode cX2_bringTotals 29 = .ok (.if_icmp .eq 15, 3) := by decide +kernel
theorem dX2_bringTotals_32 : decode cX2_bringTotals 32 = .ok (.aload_n 0, 1) := by decide +kernel
theorem dX2_bringTotals_33 : decode cX2_bringTotals 33 = .ok (.getfield 38, 3) := by decide +kernel
theorem dX2_bringTotals_36 : decode cX2_bringTotals 36 = .ok (.iload_n 3, 1) := by decide +kernel
theorem dX2_bringTotals_37 : decode cX2_bringTotals 37 = .ok (.iload_n 2, 1) := by decide +kernel
theorem dX2_bringTotals_38 : decode cX2_bringTotals 38 = .ok (.invokevirtual 209, 3) := by decide +kernel
theorem dX2_bringTotals_41 : decode cX2_bringTotals 41 = .ok (.ifCond .ne 7, 3) := by decide +kernel
theorem dX2_bringTotals_44 : decode cX2_bringTotals 44 = .ok (.iconst 1, 1) := by decide +kernel
theorem dX2_bringTotals_45 : decode cX2_bringTotals 45 = .ok (.goto 4, 3) := by decide +kernel
theorem dX2_bringTotals_48 : decode cX2_bringTotals 48 = .ok (.iconst 0, 1) := by decide +kernel
theorem dX2_bringTotals_49 : decode cX2_bringTotals 49 = .ok (.istore 4, 2) := by decide +kernel
theorem dX2_bringTotals_51 : decode cX2_bringTotals 51 = .ok (.iload_n 2, 1) := by decide +kernel
theorem dX2_bringTotals_52 : decode cX2_bringTotals 52 = .ok (.ifCond .lt 21, 3) := by decide +kernel
theorem dX2_bringTotals_55 : decode cX2_bringTotals 55 = .ok (.iload_n 2, 1) := by decide +kernel
theorem dX2_bringTotals_56 : decode cX2_bringTotals 56 = .ok (.iconst 4, 1) := by decide +kernel
theorem dX2_bringTotals_57 : decode cX2_bringTotals 57 = .ok (.if_icmp .ge 16, 3) := by decide +kernel
theorem dX2_bringTotals_60 : decode cX2_bringTotals 60 = .ok (.aload_n 0, 1) := by decide +kernel
theorem dX2_bringTotals_61 : decode cX2_bringTotals 61 = .ok (.getfield 27, 3) := by decide +kernel
theorem dX2_bringTotals_64 : decode cX2_bringTotals 64 = .ok (.iload_n 3, 1) := by decide +kernel
theorem dX2_bringTotals_65 : decode cX2_bringTotals 65 = .ok (.iconst 4, 1) := by decide +kernel
theorem dX2_bringTotals_66 : decode cX2_bringTotals 66 = .ok (.imul, 1) := by decide +kernel
theorem dX2_bringTotals_67 : decode cX2_bringTotals 67 = .ok (.iload_n 2, 1) := by decide +kernel
theorem dX2_bringTotals_68 : decode cX2_bringTotals 68 = .ok (.iadd, 1) := by decide +kernel
theorem dX2_bringTotals_69 : decode cX2_bringTotals 69 = .ok (.laload, 1) := by decide +kernel
theorem dX2_bringTotals_70 : decode cX2_bringTotals 70 = .ok (.goto 4, 3) := by decide +kernel
theorem dX2_bringTotals_73 : decode cX2_bringTotals 73 = .ok (.lconst 0, 1) := by decide +kernel
theorem dX2_bringTotals_74 : decode cX2_bringTotals 74 = .ok (.lstore 5, 2) := by decide +kernel
theorem dX2_bringTotals_76 : decode cX2_bringTotals 76 = .ok (.iload 4, 2) := by decide +kernel
theorem dX2_bringTotals_78 : decode cX2_bringTotals 78 = .ok (.ifCond .eq 21, 3) := by decide +kernel
theorem dX2_bringTotals_81 : decode cX2_bringTotals 81 = .ok (.lload 5, 2) := by decide +kernel
theorem dX2_bringTotals_83 : decode cX2_bringTotals 83 = .ok (.invokestatic 158, 3) := by decide +kernel
theorem dX2_bringTotals_86 : decode cX2_bringTotals 86 = .ok (.ifCond .ne 13, 3) := by decide +kernel
theorem dX2_bringTotals_89 : decode cX2_bringTotals 89 = .ok (.aload_n 0, 1) := by decide +kernel
theorem dX2_bringTotals_90 : decode cX2_bringTotals 90 = .ok (.sipush (-1005), 3) := by decide +kernel
theorem dX2_bringTotals_93 : decode cX2_bringTotals 93 = .ok (.invokevirtual 151, 3) := by decide +kernel
theorem dX2_bringTotals_96 : decode cX2_bringTotals 96 = .ok (.goto 20, 3) := by decide +kernel
theorem dX2_bringTotals_99 : decode cX2_bringTotals 99 = .ok (.iload 4, 2) := by decide +kernel
theorem dX2_bringTotals_101 : decode cX2_bringTotals 101 = .ok (.ifCond .eq 15, 3) := by decide +kernel
theorem dX2_bringTotals_104 : decode cX2_bringTotals 104 = .ok (.aload_n 0, 1) := by decide +kernel
theorem dX2_bringTotals_105 : decode cX2_bringTotals 105 = .ok (.getfield 38, 3) := by decide +kernel
theorem dX2_bringTotals_108 : decode cX2_bringTotals 108 = .ok (.iload_n 3, 1) := by decide +kernel
theorem dX2_bringTotals_109 : decode cX2_bringTotals 109 = .ok (.iload_n 2, 1) := by decide +kernel
theorem dX2_bringTotals_110 : decode cX2_bringTotals 110 = .ok (.lload 5, 2) := by decide +kernel
theorem dX2_bringTotals_112 : decode cX2_bringTotals 112 = .ok (.l2i, 1) := by decide +kernel
theorem dX2_bringTotals_113 : decode cX2_bringTotals 113 = .ok (.invokevirtual 202, 3) := by decide +kernel
theorem dX2_bringTotals_116 : decode cX2_bringTotals 116 = .ok (.iinc 3 1, 3) := by decide +kernel
theorem dX2_bringTotals_119 : decode cX2_bringTotals 119 = .ok (.goto (-117), 3) := by decide +kernel
theorem dX2_bringTotals_122 : decode cX2_bringTotals 122 = .ok (.return_, 1) := by decide +kernel
theorem b_X2_bringTotals_0 {h : Nat} {L : LVs} {st : List AV} {S : ST} {Q : Option AV → ST → Prop} (k : o_c L st S (fun L st S => o_is L st S (fun L st S => V MX2_bringTotals h 2 L st S Q) 3) (nI 0)) : V MX2_bringTotals h 0 L st S Q :=
  v_iconst dX2_bringTotals_0 (by decide) (fun L st S k => v_istore_n dX2_bringTotals_1 rfl (by decide) (fun L st S k => k) k) k
theorem b_X2_bringTotals_2 {h : Nat} {L : LVs} {st : List AV} {S : ST} {Q : Option AV → ST → Prop} (k : o_il L st S (fun L st S => o_al L st S (fun L st S => o_get L st S (fun L st S => V MX2_bringTotals h 7 L st S Q) 2 6 (5, 5, 0)) 0) 3) : V MX2_bringTotals h 2 L st S Q :=
  v_iload_n dX2_bringTotals_2 rfl (fun L st S k => v_aload_n dX2_bringTotals_3 rfl (fun L st S k => v_get dX2_bringTotals_4 rfl iX2 LY_2 rfl (by decide) rfl fl_X2_38 (fun L st S k => k) k) k) k
theorem k_X2_bringTotals_7 {h : Nat} {L : LVs} {st : List AV} {S : ST} {Q Q' : Option AV → ST → Prop} {j : Nat} (hC : Ct MX5_rowCount h [vR 5 j] S Q') (k : ∀ (r : Option AV) (S' : ST), Q' r S' → V MX2_bringTotals (h + 1) 10 L (r.toList ++ st) S' Q) (hj : j < NI 5) (hw : wid st ≤ 8) : V MX2_bringTotals (h + 1) 7 L (vR 5 j :: st) S Q :=
  v_callV (M' := MX5_rowCount) (c := 5) (As := []) dX2_bringTotals_7 ml_X2_205 im_X5_rowCount se_X5_rowCount in_X5 cd_X5_rowCount rfl LY_5 np_X5_rowCount (by decide) hw hj hC k
theorem b_X2_bringTotals_10 {h : Nat} {L : LVs} {st : List AV} {S : ST} {Q : Option AV → ST → Prop} (k : t_2 L st S (fun x y => y ≤ x) (fun L st S => V MX2_bringTotals h 122 L st S Q) (fun L st S => V MX2_bringTotals h 13 L st S Q)) : V MX2_bringTotals h 10 L st S Q :=
  w_icmp_ge dX2_bringTotals_10 (by decide) rfl k
theorem b_X2_bringTotals_13 {h : Nat} {L : LVs} {st : List AV} {S : ST} {Q : Option AV → ST → Prop} (k : o_il L st S (fun L st S => o_c L st S (fun L st S => t_2 L st S (fun x y => y ≤ x) (fun L st S => V MX2_bringTotals h 122 L st S Q) (fun L st S => V MX2_bringTotals h 19 L st S Q)) (nI 24)) 3) : V MX2_bringTotals h 13 L st S Q :=
  v_iload_n dX2_bringTotals_13 rfl (fun L st S k => v_bipush dX2_bringTotals_14 (by decide) (fun L st S k => w_icmp_ge dX2_bringTotals_16 (by decide) rfl k) k) k
theorem b_X2_bringTotals_19 {h : Nat} {L : LVs} {st : List AV} {S : ST} {Q : Option AV → ST → Prop} (k : o_al L st S (fun L st S => o_get L st S (fun L st S => t_1 L st S (fun x => x = nI 0) (fun L st S => V MX2_bringTotals h 122 L st S Q) (fun L st S => V MX2_bringTotals h 26 L st S Q)) 2 15 (2, 0, 0)) 0) : V MX2_bringTotals h 19 L st S Q :=
  v_aload_n dX2_bringTotals_19 rfl (fun L st S k => v_get dX2_bringTotals_20 rfl iX2 LY_2 rfl (by decide) rfl fl_X2_84 (fun L st S k => w_if_eq dX2_bringTotals_23 (by decide) rfl k) k) k
theorem b_X2_bringTotals_26 {h : Nat} {L : LVs} {st : List AV} {S : ST} {Q : Option AV → ST → Prop} (k : o_il L st S (fun L st S => o_c L st S (fun L st S => t_2 L st S (fun x y => x = y) (fun L st S => V MX2_bringTotals h 44 L st S Q) (fun L st S => V MX2_bringTotals h 32 L st S Q)) (nI 36)) 1) : V MX2_bringTotals h 26 L st S Q :=
  v_iload_n dX2_bringTotals_26 rfl (fun L st S k => v_bipush dX2_bringTotals_27 (by decide) (fun L st S k => w_icmp_eq dX2_bringTotals_29 (by decide) rfl k) k) k
theorem b_X2_bringTotals_32 {h : Nat} {L : LVs} {st : List AV} {S : ST} {Q : Option AV → ST → Prop} (k : o_al L st S (fun L st S => o_get L st S (fun L st S => o_il L st S (fun L st S => o_il L st S (fun L st S => V MX2_bringTotals h 38 L st S Q) 2) 3) 2 6 (5, 5, 0)) 0) : V MX2_bringTotals h 32 L st S Q :=
  v_aload_n dX2_bringTotals_32 rfl (fun L st S k => v_get dX2_bringTotals_33 rfl iX2 LY_2 rfl (by decide) rfl fl_X2_38 (fun L st S k => v_iload_n dX2_bringTotals_36 rfl (fun L st S k => v_iload_n dX2_bringTotals_37 rfl (fun L st S k => k) k) k) k) k
theorem k_X2_bringTotals_38 {h : Nat} {L : LVs} {st : List AV} {S : ST} {Q Q' : Option AV → ST → Prop} {j : Nat} {a0 a1 : AV} (hC : Ct MX5_missingAt h [vR 5 j, a0, a1] S Q') (k : ∀ (r : Option AV) (S' : ST), Q' r S' → V MX2_bringTotals (h + 1) 41 L (r.toList ++ st) S' Q) (hj : j < NI 5) (hw : wid st ≤ 8) : V MX2_bringTotals (h + 1) 38 L (a1 :: a0 :: vR 5 j :: st) S Q :=
  v_callV (M' := MX5_missingAt) (c := 5) (As := [a0, a1]) dX2_bringTotals_38 ml_X2_209 im_X5_missingAt se_X5_missingAt in_X5 cd_X5_missingAt rfl LY_5 np_X5_missingAt (by decide) hw hj hC k
theorem b_X2_bringTotals_41 {h : Nat} {L : LVs} {st : List AV} {S : ST} {Q : Option AV → ST → Prop} (k : t_1 L st S (fun x => x = nI 0) (fun L st S => V MX2_bringTotals h 44 L st S Q) (fun L st S => V MX2_bringTotals h 48 L st S Q)) : V MX2_bringTotals h 41 L st S Q :=
  w_if_ne dX2_bringTotals_41 (by decide) rfl k
theorem b_X2_bringTotals_44 {h : Nat} {L : LVs} {st : List AV} {S : ST} {Q : Option AV → ST → Prop} (k : o_c L st S (fun L st S => V MX2_bringTotals h 49 L st S Q) (nI 1)) : V MX2_bringTotals h 44 L st S Q :=
  v_iconst dX2_bringTotals_44 (by decide) (fun L st S k => v_goto dX2_bringTotals_45 (by decide) k) k
theorem b_X2_bringTotals_48 {h : Nat} {L : LVs} {st : List AV} {S : ST} {Q : Option AV → ST → Prop} (k : o_c L st S (fun L st S => V MX2_bringTotals h 49 L st S Q) (nI 0)) : V MX2_bringTotals h 48 L st S Q :=
  v_iconst dX2_bringTotals_48 (by decide) (fun L st S k => k) k
theorem b_X2_bringTotals_49 {h : Nat} {L : LVs} {st : List AV} {S : ST} {Q : Option AV → ST → Prop} (k : o_is L st S (fun L st S => o_il L st S (fun L st S => t_1 L st S (fun x => x < nI 0) (fun L st S => V MX2_bringTotals h 73 L st S Q) (fun L st S => V MX2_bringTotals h 55 L st S Q)) 2) 4) : V MX2_bringTotals h 49 L st S Q :=
  v_istore dX2_bringTotals_49 (by decide) (fun L st S k => v_iload_n dX2_bringTotals_51 rfl (fun L st S k => w_if_lt dX2_bringTotals_52 (by decide) rfl k) k) k
theorem b_X2_bringTotals_55 {h : Nat} {L : LVs} {st : List AV} {S : ST} {Q : Option AV → ST → Prop} (k : o_il L st S (fun L st S => o_c L st S (fun L st S => t_2 L st S (fun x y => y ≤ x) (fun L st S => V MX2_bringTotals h 73 L st S Q) (fun L st S => V MX2_bringTotals h 60 L st S Q)) (nI 4)) 2) : V MX2_bringTotals h 55 L st S Q :=
  v_iload_n dX2_bringTotals_55 rfl (fun L st S k => v_iconst dX2_bringTotals_56 (by decide) (fun L st S k => w_icmp_ge dX2_bringTotals_57 (by decide) rfl k) k) k
theorem b_X2_bringTotals_60 {h : Nat} {L : LVs} {st : List AV} {S : ST} {Q : Option AV → ST → Prop} (k : o_al L st S (fun L st S => o_get L st S (fun L st S => o_il L st S (fun L st S => o_c L st S (fun L st S => o_imul L st S (fun L st S => o_il L st S (fun L st S => o_iadd L st S (fun L st S => o_lald L st S (fun L st S => V MX2_bringTotals h 74 L st S Q))) 2)) (nI 4)) 3) 2 4 (3, 17, 0)) 0) : V MX2_bringTotals h 60 L st S Q :=
  v_aload_n dX2_bringTotals_60 rfl (fun L st S k => v_get dX2_bringTotals_61 rfl iX2 LY_2 rfl (by decide) rfl fl_X2_27 (fun L st S k => v_iload_n dX2_bringTotals_64 rfl (fun L st S k => v_iconst dX2_bringTotals_65 (by decide) (fun L st S k => v_imul dX2_bringTotals_66 (fun L st S k => v_iload_n dX2_bringTotals_67 rfl (fun L st S k => v_iadd dX2_bringTotals_68 (fun L st S k => v_laload dX2_bringTotals_69 (fun L st S k => v_goto dX2_bringTotals_70 (by decide) k) k) k) k) k) k) k) k) k
theorem b_X2_bringTotals_73 {h : Nat} {L : LVs} {st : List AV} {S : ST} {Q : Option AV → ST → Prop} (k : o_lc L st S (fun L st S => V MX2_bringTotals h 74 L st S Q) (lN 0)) : V MX2_bringTotals h 73 L st S Q :=
  v_lconst dX2_bringTotals_73 (by decide) (fun L st S k => k) k
theorem b_X2_bringTotals_74 {h : Nat} {L : LVs} {st : List AV} {S : ST} {Q : Option AV → ST → Prop} (k : o_ls L st S (fun L st S => o_il L st S (fun L st S => t_1 L st S (fun x => x = nI 0) (fun L st S => V MX2_bringTotals h 99 L st S Q) (fun L st S => V MX2_bringTotals h 81 L st S Q)) 4) 5) : V MX2_bringTotals h 74 L st S Q :=
  v_lstore dX2_bringTotals_74 (by decide) (fun L st S k => v_iload dX2_bringTotals_76 (fun L st S k => w_if_eq dX2_bringTotals_78 (by decide) rfl k) k) k
theorem b_X2_bringTotals_81 {h : Nat} {L : LVs} {st : List AV} {S : ST} {Q : Option AV → ST → Prop} (k : o_ll L st S (fun L st S => V MX2_bringTotals h 83 L st S Q) 5) : V MX2_bringTotals h 81 L st S Q :=
  v_lload dX2_bringTotals_81 (fun L st S k => k) k
theorem k_X2_bringTotals_83 {h : Nat} {L : LVs} {st : List AV} {S : ST} {Q Q' : Option AV → ST → Prop} {a0 : AV} (hC : Ct MX2_fits h [a0] S Q') (k : ∀ (r : Option AV) (S' : ST), Q' r S' → V MX2_bringTotals (h + 1) 86 L (r.toList ++ st) S' Q) (hw : wid st ≤ 8) : V MX2_bringTotals (h + 1) 83 L (a0 :: st) S Q :=
  v_callS (M' := MX2_fits) (As := [a0]) dX2_bringTotals_83 ml_X2_158 sm_X2_fits in_X2 cd_X2_fits ⟨rfl, np_X2_fits⟩ (by decide) hw hC k
theorem b_X2_bringTotals_86 {h : Nat} {L : LVs} {st : List AV} {S : ST} {Q : Option AV → ST → Prop} (k : t_1 L st S (fun x => x = nI 0) (fun L st S => V MX2_bringTotals h 89 L st S Q) (fun L st S => V MX2_bringTotals h 99 L st S Q)) : V MX2_bringTotals h 86 L st S Q :=
  w_if_ne dX2_bringTotals_86 (by decide) rfl k
theorem b_X2_bringTotals_89 {h : Nat} {L : LVs} {st : List AV} {S : ST} {Q : Option AV → ST → Prop} (k : o_al L st S (fun L st S => o_c L st S (fun L st S => V MX2_bringTotals h 93 L st S Q) (-1005)) 0) : V MX2_bringTotals h 89 L st S Q :=
  v_aload_n dX2_bringTotals_89 rfl (fun L st S k => v_sipush dX2_bringTotals_90 (by decide) (fun L st S k => k) k) k
theorem k_X2_bringTotals_93 {h : Nat} {L : LVs} {st : List AV} {S : ST} {Q Q' : Option AV → ST → Prop} {j : Nat} {a0 : AV} (hC : Ct MX2_fail h [vR 2 j, a0] S Q') (k : ∀ (r : Option AV) (S' : ST), Q' r S' → V MX2_bringTotals (h + 1) 96 L (r.toList ++ st) S' Q) (hj : j < NI 2) (hw : wid st ≤ 8) : V MX2_bringTotals (h + 1) 93 L (a0 :: vR 2 j :: st) S Q :=
  v_callV (M' := MX2_fail) (c := 2) (As := [a0]) dX2_bringTotals_93 ml_X2_151 im_X2_fail se_X2_fail in_X2 cd_X2_fail rfl LY_2 np_X2_fail (by decide) hw hj hC k
theorem b_X2_bringTotals_96 {h : Nat} {L : LVs} {st : List AV} {S : ST} {Q : Option AV → ST → Prop} (k : V MX2_bringTotals h 116 L st S Q) : V MX2_bringTotals h 96 L st S Q :=
  v_goto dX2_bringTotals_96 (by decide) k
theorem b_X2_bringTotals_99 {h : Nat} {L : LVs} {st : List AV} {S : ST} {Q : Option AV → ST → Prop} (k : o_il L st S (fun L st S => t_1 L st S (fun x => x = nI 0) (fun L st S => V MX2_bringTotals h 116 L st S Q) (fun L st S => V MX2_bringTotals h 104 L st S Q)) 4) : V MX2_bringTotals h 99 L st S Q :=
  v_iload dX2_bringTotals_99 (fun L st S k => w_if_eq dX2_bringTotals_101 (by decide) rfl k) k
theorem b_X2_bringTotals_104 {h : Nat} {L : LVs} {st : List AV} {S : ST} {Q : Option AV → ST → Prop} (k : o_al L st S (fun L st S => o_get L st S (fun L st S => o_il L st S (fun L st S => o_il L st S (fun L st S => o_ll L st S (fun L st S => o_l2i L st S (fun L st S => V MX2_bringTotals h 113 L st S Q)) 5) 2) 3) 2 6 (5, 5, 0)) 0) : V MX2_bringTotals h 104 L st S Q :=
  v_aload_n dX2_bringTotals_104 rfl (fun L st S k => v_get dX2_bringTotals_105 rfl iX2 LY_2 rfl (by decide) rfl fl_X2_38 (fun L st S k => v_iload_n dX2_bringTotals_108 rfl (fun L st S k => v_iload_n dX2_bringTotals_109 rfl (fun L st S k => v_lload dX2_bringTotals_110 (fun L st S k => v_l2i dX2_bringTotals_112 (fun L st S k => k) k) k) k) k) k) k
theorem k_X2_bringTotals_113 {h : Nat} {L : LVs} {st : List AV} {S : ST} {Q Q' : Option AV → ST → Prop} {j : Nat} {a0 a1 a2 : AV} (hC : Ct MX5_set h [vR 5 j, a0, a1, a2] S Q') (k : ∀ (r : Option AV) (S' : ST), Q' r S' → V MX2_bringTotals (h + 1) 116 L (r.toList ++ st) S' Q) (hj : j < NI 5) (hw : wid st ≤ 8) : V MX2_bringTotals (h + 1) 113 L (a2 :: a1 :: a0 :: vR 5 j :: st) S Q :=
  v_callV (M' := MX5_set) (c := 5) (As := [a0, a1, a2]) dX2_bringTotals_113 ml_X2_202 im_X5_set se_X5_set in_X5 cd_X5_set rfl LY_5 np_X5_set (by decide) hw hj hC k
theorem b_X2_bringTotals_116 {h : Nat} {L : LVs} {st : List AV} {S : ST} {Q : Option AV → ST → Prop} (k : o_inc L st S (fun L st S => V MX2_bringTotals h 2 L st S Q) 3 (nI 1)) : V MX2_bringTotals h 116 L st S Q :=
  v_iinc dX2_bringTotals_116 (by decide) (by decide) (fun L st S k => v_goto dX2_bringTotals_119 (by decide) k) k
theorem b_X2_bringTotals_122 {h : Nat} {L : LVs} {st : List AV} {S : ST} {Q : Option AV → ST → Prop} (k : t_vr st S Q) : V MX2_bringTotals h 122 L st S Q :=
  w_vr dX2_bringTotals_122 rfl k
-- QueryForge$Machine.show(I)V
theorem dX2_show_0 : decode cX2_show 0 = .ok (.aload_n 0, 1) := by decide +kernel
theorem dX2_show_1 : decode cX2_show 1 = .ok (.getfield 38, 3) := by decide +kernel
theorem dX2_show_4 : decode cX2_show 4 = .ok (.iload_n 1, 1) := by decide +kernel
theorem dX2_show_5 : decode cX2_show 5 = .ok (.invokevirtual 220, 3) := by decide +kernel
theorem dX2_show_8 : decode cX2_show 8 = .ok (.aload_n 0, 1) := by decide +kernel
theorem dX2_show_9 : decode cX2_show 9 = .ok (.getfield 34, 3) := by decide +kernel
theorem dX2_show_12 : decode cX2_show 12 = .ok (.astore_n 2, 1) := by decide +kernel
theorem dX2_show_13 : decode cX2_show 13 = .ok (.aload_n 0, 1) := by decide +kernel
theorem dX2_show_14 : decode cX2_show 14 = .ok (.aload_n 0, 1) := by decide +kernel
theorem dX2_show_15 : decode cX2_show 15 = .ok (.getfield 38, 3) := by decide +kernel
theorem dX2_show_18 : decode cX2_show 18 = .ok (.putfield 34, 3) := by decide +kernel
theorem dX2_show_21 : decode cX2_show 21 = .ok (.aload_n 0, 1) := by decide +kernel
theorem dX2_show_22 : decode cX2_show 22 = .ok (.aload_n 2, 1) := by decide +kernel
theorem dX2_show_23 : decode cX2_show 23 = .ok (.putfield 38, 3) := by decide +kernel
theorem dX2_show_26 : decode cX2_show 26 = .ok (.aload_n 0, 1) := by decide +kernel
theorem dX2_show_27 : decode cX2_show 27 = .ok (.aload_n 0, 1) := by decide +kernel
theorem dX2_show_28 : decode cX2_show 28 = .ok (.getfield 34, 3) := by decide +kernel
theorem dX2_show_31 : decode cX2_show 31 = .ok (.invokevirtual 205, 3) := by decide +kernel
theorem dX2_show_34 : decode cX2_show 34 = .ok (.putfield 78, 3) := by decide +kernel
theorem dX2_show_37 : decode cX2_show 37 = .ok (.return_, 1) := by decide +kernel
theorem b_X2_show_0 {h : Nat} {L : LVs} {st : List AV} {S : ST} {Q : Option AV → ST → Prop} (k : o_al L st S (fun L st S => o_get L st S (fun L st S => o_il L st S (fun L st S => V MX2_show h 5 L st S Q) 1) 2 6 (5, 5, 0)) 0) : V MX2_show h 0 L st S Q :=
  v_aload_n dX2_show_0 rfl (fun L st S k => v_get dX2_show_1 rfl iX2 LY_2 rfl (by decide) rfl fl_X2_38 (fun L st S k => v_iload_n dX2_show_4 rfl (fun L st S k => k) k) k) k
theorem k_X2_show_5 {h : Nat} {L : LVs} {st : List AV} {S : ST} {Q Q' : Option AV → ST → Prop} {j : Nat} {a0 : AV} (hC : Ct MX5_setItemCount h [vR 5 j, a0] S Q') (k : ∀ (r : Option AV) (S' : ST), Q' r S' → V MX2_show (h + 1) 8 L (r.toList ++ st) S' Q) (hj : j < NI 5) (hw : wid st ≤ 8) : V MX2_show (h + 1) 5 L (a0 :: vR 5 j :: st) S Q :=
  v_callV (M' := MX5_setItemCount) (c := 5) (As := [a0]) dX2_show_5 ml_X2_220 im_X5_setItemCount se_X5_setItemCount in_X5 cd_X5_setItemCount rfl LY_5 np_X5_setItemCount (by decide) hw hj hC k
theorem b_X2_show_8 {h : Nat} {L : LVs} {st : List AV} {S : ST} {Q : Option AV → ST → Prop} (k : o_al L st S (fun L st S => o_get L st S (fun L st S => o_as L st S (fun L st S => o_al L st S (fun L st S => o_al L st S (fun L st S => o_get L st S (fun L st S => o_putr L st S (fun L st S => o_al L st S (fun L st S => o_al L st S (fun L st S => o_putr L st S (fun L st S => o_al L st S (fun L st S => o_al L st S (fun L st S => o_get L st S (fun L st S => V MX2_show h 31 L st S Q) 2 5 (5, 5, 0)) 0) 0) 2 6 5) 2) 0) 2 5 5) 2 6 (5, 5, 0)) 0) 0) 2) 2 5 (5, 5, 0)) 0) : V MX2_show h 8 L st S Q :=
  v_aload_n dX2_show_8 rfl (fun L st S k => v_get dX2_show_9 rfl iX2 LY_2 rfl (by decide) rfl fl_X2_34 (fun L st S k => v_astore_n dX2_show_12 rfl (by decide) (fun L st S k => v_aload_n dX2_show_13 rfl (fun L st S k => v_aload_n dX2_show_14 rfl (fun L st S k => v_get dX2_show_15 rfl iX2 LY_2 rfl (by decide) rfl fl_X2_38 (fun L st S k => v_putr dX2_show_18 rfl iX2 tyX2_ok nmX2 LY_2 rfl (by decide) rfl fl_X2_34 rfl rfl (fun L st S k => v_aload_n dX2_show_21 rfl (fun L st S k => v_aload_n dX2_show_22 rfl (fun L st S k => v_putr dX2_show_23 rfl iX2 tyX2_ok nmX2 LY_2 rfl (by decide) rfl fl_X2_38 rfl rfl (fun L st S k => v_aload_n dX2_show_26 rfl (fun L st S k => v_aload_n dX2_show_27 rfl (fun L st S k => v_get dX2_show_28 rfl iX2 LY_2 rfl (by decide) rfl fl_X2_34 (fun L st S k => k) k) k) k) k) k) k) k) k) k) k) k) k) k
theorem k_X2_show_31 {h : Nat} {L : LVs} {st : List AV} {S : ST} {Q Q' : Option AV → ST → Prop} {j : Nat} (hC : Ct MX5_rowCount h [vR 5 j] S Q') (k : ∀ (r : Option AV) (S' : ST), Q' r S' → V MX2_show (h + 1) 34 L (r.toList ++ st) S' Q) (hj : j < NI 5) (hw : wid st ≤ 8) : V MX2_show (h + 1) 31 L (vR 5 j :: st) S Q :=
  v_callV (M' := MX5_rowCount) (c := 5) (As := []) dX2_show_31 ml_X2_205 im_X5_rowCount se_X5_rowCount in_X5 cd_X5_rowCount rfl LY_5 np_X5_rowCount (by decide) hw hj hC k
theorem b_X2_show_34 {h : Nat} {L : LVs} {st : List AV} {S : ST} {Q : Option AV → ST → Prop} (k : o_puti L st S (fun L st S => t_vr st S Q) 2 14) : V MX2_show h 34 L st S Q :=
  v_puti dX2_show_34 rfl iX2 tyX2_ok nmX2 LY_2 rfl (by decide) rfl fl_X2_78 rfl rfl (fun L st S k => w_vr dX2_show_37 rfl k) k
-- QueryForge$Machine.changeTables(II)V
theorem dX2_changeTables_0 : decode cX2_changeTables 0 = .ok (.iload_n 1, 1) := by decide +kernel
theorem dX2_changeTables_1 : decode cX2_changeTables 1 = .ok (.tableswitch 200 41 48 #[47, 63, 99, 113, 128, 161, 176, 188], 47) := by decide +kernel
theorem dX2_changeTables_48 : decode cX2_changeTables 48 = .ok (.aload_n 0, 1) := by decide +kernel
theorem dX2_changeTables_49 : decode cX2_changeTables 49 = .ok (.getfield 47, 3) := by decide +kernel
theorem dX2_changeTables_52 : decode cX2_changeTables 52 = .ok (.aload_n 0, 1) := by decide +kernel
theorem dX2_changeTables_53 : decode cX2_changeTables 53 = .ok (.getfield 132, 3) := by decide +kernel
theorem dX2_changeTables_56 : decode cX2_changeTables 56 = .ok (.iconst 0, 1) := by decide +kernel
theorem dX2_changeTables_57 : decode cX2_changeTables 57 = .ok (.iconst 1, 1) := by decide +kernel
theorem dX2_changeTables_58 : decode cX2_changeTables 58 = .ok (.invokevirtual 223, 3) := by decide +kernel
theorem dX2_changeTables_61 : decode cX2_changeTables 61 = .ok (.goto 148, 3) := by decide +kernel
theorem dX2_changeTables_64 : decode cX2_changeTables 64 = .ok (.aload_n 0, 1) := by decide +kernel
theorem dX2_changeTables_65 : decode cX2_changeTables 65 = .ok (.invokevirtual 148, 3) := by decide +kernel
theorem dX2_changeTables_68 : decode cX2_changeTables 68 = .ok (.aload_n 0, 1) := by decide +kernel
theorem dX2_changeTables_69 : decode cX2_changeTables 69 = .ok (.getfield 47, 3) := by decide +kernel
theorem dX2_changeTables_72 : decode cX2_changeTables 72 = .ok (.aload_n 0, 1) := by decide +kernel
theorem dX2_changeTables_73 : decode cX2_changeTables 73 = .ok (.getfield 132, 3) := by decide +kernel
theorem dX2_changeTables_76 : decode cX2_changeTables 76 = .ok (.aload_n 0, 1) := by decide +kernel
theorem dX2_changeTables_77 : decode cX2_changeTables 77 = .ok (.getfield 19, 3) := by decide +kernel
theorem dX2_changeTables_80 : decode cX2_changeTables 80 = .ok (.aload_n 0, 1) := by decide +kernel
theorem dX2_changeTables_81 : decode cX2_changeTables 81 = .ok (.getfield 68, 3) := by decide +kernel
theorem dX2_changeTables_84 : decode cX2_changeTables 84 = .ok (.iaload, 1) := by decide +kernel
theorem dX2_changeTables_85 : decode cX2_changeTables 85 = .ok (.aload_n 0, 1) := by decide +kernel
theorem dX2_changeTables_86 : decode cX2_changeTables 86 = .ok (.getfield 23, 3) := by decide +kernel
theorem dX2_changeTables_89 : decode cX2_changeTables 89 = .ok (.aload_n 0, 1) := by decide +kernel
theorem dX2_changeTables_90 : decode cX2_changeTables 90 = .ok (.getfield 68, 3) := by decide +kernel
theorem dX2_changeTables_93 : decode cX2_changeTables 93 = .ok (.baload, 1) := by decide +kernel
theorem dX2_changeTables_94 : decode cX2_changeTables 94 = .ok (.invokevirtual 223, 3) := by decide +kernel
theorem dX2_changeTables_97 : decode cX2_changeTables 97 = .ok (.goto 112, 3) := by decide +kernel
theorem dX2_changeTables_100 : decode cX2_changeTables 100 = .ok (.aload_n 0, 1) := by decide +kernel
theorem dX2_changeTables_101 : decode cX2_changeTables 101 = .ok (.aload_n 0, 1) := by decide +kernel
theorem dX2_changeTables_102 : decode cX2_changeTables 102 = .ok (.getfield 47, 3) := by decide +kernel
theorem dX2_changeTables_105 : decode cX2_changeTables 105 = .ok (.invokevirtual 226, 3) := by decide +kernel
theorem dX2_changeTables_108 : decode cX2_changeTables 108 = .ok (.putfield 78, 3) := by decide +kernel
theorem dX2_changeTables_111 : decode cX2_changeTables 111 = .ok (.goto 98, 3) := by decide +kernel
theorem dX2_changeTables_114 : decode cX2_changeTables 114 = .ok (.aload_n 0, 1) := by decide +kernel
theorem dX2_changeTables_115 : decode cX2_changeTables 115 = .ok (.aload_n 0, 1) := by decide +kernel
theorem dX2_changeTables_116 : decode cX2_changeTables 116 = .ok (.getfield 47, 3) := by decide +kernel
theorem dX2_changeTables_119 : decode cX2_changeTables 119 = .ok (.iload_n 2, 1) := by decide +kernel
theorem dX2_changeTables_120 : decode cX2_changeTables 120 = .ok (.invokevirtual 229, 3) := by decide +kernel
theorem dX2_changeTables_123 : decode cX2_changeTables 123 = .ok (.putfield 78, 3) := by decide +kernel
theorem dX2_changeTables_126 : decode cX2_changeTables 126 = .ok (.goto 83, 3) := by decide +kernel
theorem dX2_changeTables_129 : decode cX2_changeTables 129 = .ok (.aload_n 0, 1) := by decide +kernel
theorem dX2_changeTables_130 : decode cX2_changeTables 130 = .ok (.invokevirtual 148, 3) := by decide +kernel
theorem dX2_changeTables_133 : decode cX2_changeTables 133 = .ok (.aload_n 0, 1) := by decide +kernel
theorem dX2_changeTables_134 : decode cX2_changeTables 134 = .ok (.getfield 47, 3) := by decide +kernel
theorem dX2_changeTables_137 : decode cX2_changeTables 137 = .ok (.iload_n 2, 1) := by decide +kernel
theorem dX2_changeTables_138 : decode cX2_changeTables 138 = .ok (.aload_n 0, 1) := by decide +kernel
theorem dX2_changeTables_139 : decode cX2_changeTables 139 = .ok (.getfield 19, 3) := by decide +kernel
theorem dX2_changeTables_142 : decode cX2_changeTables 142 = .ok (.aload_n 0, 1) := by decide +kernel
theorem dX2_changeTables_143 : decode cX2_changeTables 143 = .ok (.getfield 68, 3) := by decide +kernel
theorem dX2_changeTables_146 : decode cX2_changeTables 146 = .ok (.iaload, 1) := by decide +kernel
theorem dX2_changeTables_147 : decode cX2_changeTables 147 = .ok (.aload_n 0, 1) := by decide +kernel
theorem dX2_changeTables_148 : decode cX2_changeTables 148 = .ok (.getfield 23, 3) := by decide +kernel
theorem dX2_changeTables_151 : decode cX2_changeTables 151 = .ok (.aload_n 0, 1) := by decide +kernel
theorem dX2_changeTables_152 : decode cX2_changeTables 152 = .ok (.getfield 68, 3) := by decide +kernel
theorem dX2_changeTables_155 : decode cX2_changeTables 155 = .ok (.baload, 1) := by decide +kernel
theorem dX2_changeTables_156 : decode cX2_changeTables 156 = .ok (.invokevirtual 232, 3) := by decide +kernel
theorem dX2_changeTables_159 : decode cX2_changeTables 159 = .ok (.goto 50, 3) := by decide +kernel
theorem dX2_changeTables_162 : decode cX2_changeTables 162 = .ok (.aload_n 0, 1) := by decide +kernel
theorem dX2_changeTables_163 : decode cX2_changeTables 163 = .ok (.getfield 47, 3) := by decide +kernel
theorem dX2_changeTables_166 : decode cX2_changeTables 166 = .ok (.invokevirtual 233, 3) := by decide +kernel
theorem dX2_changeTables_169 : decode cX2_changeTables 169 = .ok (.aload_n 0, 1) := by decide +kernel
theorem dX2_changeTables_170 : decode cX2_changeTables 170 = .ok (.iconst 1, 1) := by decide +kernel
theorem dX2_changeTables_171 : decode cX2_changeTables 171 = .ok (.putfield 78, 3) := by decide +kernel
theorem dX2_changeTables_174 : decode cX2_changeTables 174 = .ok (.goto 35, 3) := by decide +kernel
theorem dX2_changeTables_177 : decode cX2_changeTables 177 = .ok (.aload_n 0, 1) := by decide +kernel
theorem dX2_changeTables_178 : decode cX2_changeTables 178 = .ok (.getfield 15, 3) := by decide +kernel
theorem dX2_changeTables_181 : decode cX2_changeTables 181 = .ok (.iload_n 2, 1) := by decide +kernel
theorem dX2_changeTables_182 : decode cX2_changeTables 182 = .ok (.iconst 1, 1) := by decide +kernel
theorem dX2_changeTables_183 : decode cX2_changeTables 183 = .ok (.invokevirtual 234, 3) := by decide +kernel
theorem dX2_changeTables_186 : decode cX2_changeTables 186 = .ok (.goto 23, 3) := by decide +kernel
theorem dX2_changeTables_189 : decode cX2_changeTables 189 = .ok (.aload_n 0, 1) := by decide +kernel
theorem dX2_changeTables_190 : decode cX2_changeTables 190 = .ok (.getfield 15, 3) := by decide +kernel
theorem dX2_changeTables_193 : decode cX2_changeTables 193 = .ok (.iload_n 2, 1) := by decide +kernel
theorem dX2_changeTables_194 : decode cX2_changeTables 194 = .ok (.iconst 2, 1) := by decide +kernel
theorem dX2_changeTables_195 : decode cX2_changeTables 195 = .ok (.invokevirtual 234, 3) := by decide +kernel
theorem dX2_changeTables_198 : decode cX2_changeTables 198 = .ok (.goto 11, 3) := by decide +kernel
theorem dX2_changeTables_201 : decode cX2_changeTables 201 = .ok (.aload_n 0, 1) := by decide +kernel
theorem dX2_changeTables_202 : decode cX2_changeTables 202 = .ok (.getfield 15, 3) := by decide +kernel
theorem dX2_changeTables_205 : decode cX2_changeTables 205 = .ok (.iload_n 2, 1) := by decide +kernel
theorem dX2_changeTables_206 : decode cX2_changeTables 206 = .ok (.invokevirtual 237, 3) := by decide +kernel
theorem dX2_changeTables_209 : decode cX2_changeTables 209 = .ok (.return_, 1) := by decide +kernel
theorem b_X2_changeTables_0 {h : Nat} {L : LVs} {st : List AV} {S : ST} {Q : Option AV → ST → Prop} (k : o_il L st S (fun L st S => t_sw L st S [((nI 41), fun L st S => V MX2_changeTables h 48 L st S Q), ((nI 42), fun L st S => V MX2_changeTables h 64 L st S Q), ((nI 43), fun L st S => V MX2_changeTables h 100 L st S Q), ((nI 44), fun L st S => V MX2_changeTables h 114 L st S Q), ((nI 45), fun L st S => V MX2_changeTables h 129 L st S Q), ((nI 46), fun L st S => V MX2_changeTables h 162 L st S Q), ((nI 47), fun L st S => V MX2_changeTables h 177 L st S Q), ((nI 48), fun L st S => V MX2_changeTables h 189 L st S Q)] (fun L st S => V MX2_changeTables h 201 L st S Q)) 1) : V MX2_changeTables h 0 L st S Q :=
  v_iload_n dX2_changeTables_0 rfl (fun L st S k => w_tsw [((nI 41), 48), ((nI 42), 64), ((nI 43), 100), ((nI 44), 114), ((nI 45), 129), ((nI 46), 162), ((nI 47), 177), ((nI 48), 189)] dX2_changeTables_1 (n := 8) (by decide) rfl (by decide) (by decide) (by decide) k) k
theorem b_X2_changeTables_48 {h : Nat} {L : LVs} {st : List AV} {S : ST} {Q : Option AV → ST → Prop} (k : o_al L st S (fun L st S => o_get L st S (fun L st S => o_al L st S (fun L st S => o_get L st S (fun L st S => o_c L st S (fun L st S => o_c L st S (fun L st S => V MX2_changeTables h 58 L st S Q) (nI 1)) (nI 0)) 2 9 (0, 0, 0)) 0) 2 7 (5, 7, 0)) 0) : V MX2_changeTables h 48 L st S Q :=
  v_aload_n dX2_changeTables_48 rfl (fun L st S k => v_get dX2_changeTables_49 rfl iX2 LY_2 rfl (by decide) rfl fl_X2_47 (fun L st S k => v_aload_n dX2_changeTables_52 rfl (fun L st S k => v_get dX2_changeTables_53 rfl iX2 LY_2 rfl (by decide) rfl fl_X2_132 (fun L st S k => v_iconst dX2_changeTables_56 (by decide) (fun L st S k => v_iconst dX2_changeTables_57 (by decide) (fun L st S k => k) k) k) k) k) k) k
theorem k_X2_changeTables_58 {h : Nat} {L : LVs} {st : List AV} {S : ST} {Q Q' : Option AV → ST → Prop} {j : Nat} {a0 a1 a2 : AV} (hC : Ct MX7_mark h [vR 7 j, a0, a1, a2] S Q') (k : ∀ (r : Option AV) (S' : ST), Q' r S' → V MX2_changeTables (h + 1) 61 L (r.toList ++ st) S' Q) (hj : j < NI 7) (hw : wid st ≤ 8) : V MX2_changeTables (h + 1) 58 L (a2 :: a1 :: a0 :: vR 7 j :: st) S Q :=
  v_callV (M' := MX7_mark) (c := 7) (As := [a0, a1, a2]) dX2_changeTables_58 ml_X2_223 im_X7_mark se_X7_mark in_X7 cd_X7_mark rfl LY_7 np_X7_mark (by decide) hw hj hC k
theorem b_X2_changeTables_61 {h : Nat} {L : LVs} {st : List AV} {S : ST} {Q : Option AV → ST → Prop} (k : V MX2_changeTables h 209 L st S Q) : V MX2_changeTables h 61 L st S Q :=
  v_goto dX2_changeTables_61 (by decide) k
theorem b_X2_changeTables_64 {h : Nat} {L : LVs} {st : List AV} {S : ST} {Q : Option AV → ST → Prop} (k : o_al L st S (fun L st S => V MX2_changeTables h 65 L st S Q) 0) : V MX2_changeTables h 64 L st S Q :=
  v_aload_n dX2_changeTables_64 rfl (fun L st S k => k) k
theorem k_X2_changeTables_65 {h : Nat} {L : LVs} {st : List AV} {S : ST} {Q Q' : Option AV → ST → Prop} {j : Nat} (hC : Ct MX2_pop h [vR 2 j] S Q') (k : ∀ (r : Option AV) (S' : ST), Q' r S' → V MX2_changeTables (h + 1) 68 L (r.toList ++ st) S' Q) (hj : j < NI 2) (hw : wid st ≤ 8) : V MX2_changeTables (h + 1) 65 L (vR 2 j :: st) S Q :=
  v_callV (M' := MX2_pop) (c := 2) (As := []) dX2_changeTables_65 ml_X2_148 im_X2_pop se_X2_pop in_X2 cd_X2_pop rfl LY_2 np_X2_pop (by decide) hw hj hC k
theorem b_X2_changeTables_68 {h : Nat} {L : LVs} {st : List AV} {S : ST} {Q : Option AV → ST → Prop} (k : o_al L st S (fun L st S => o_get L st S (fun L st S => o_al L st S (fun L st S => o_get L st S (fun L st S => o_al L st S (fun L st S => o_get L st S (fun L st S => o_al L st S (fun L st S => o_get L st S (fun L st S => o_iald L st S (fun L st S => o_al L st S (fun L st S => o_get L st S (fun L st S => o_al L st S (fun L st S => o_get L st S (fun L st S => o_zald L st S (fun L st S => V MX2_changeTables h 94 L st S Q)) 2 11 (0, 0, 0)) 0) 2 3 (3, 16, 0)) 0)) 2 11 (0, 0, 0)) 0) 2 2 (3, 15, 0)) 0) 2 9 (0, 0, 0)) 0) 2 7 (5, 7, 0)) 0) : V MX2_changeTables h 68 L st S Q :=
  v_aload_n dX2_changeTables_68 rfl (fun L st S k => v_get dX2_changeTables_69 rfl iX2 LY_2 rfl (by decide) rfl fl_X2_47 (fun L st S k => v_aload_n dX2_changeTables_72 rfl (fun L st S k => v_get dX2_changeTables_73 rfl iX2 LY_2 rfl (by decide) rfl fl_X2_132 (fun L st S k => v_aload_n dX2_changeTables_76 rfl (fun L st S k => v_get dX2_changeTables_77 rfl iX2 LY_2 rfl (by decide) rfl fl_X2_19 (fun L st S k => v_aload_n dX2_changeTables_80 rfl (fun L st S k => v_get dX2_changeTables_81 rfl iX2 LY_2 rfl (by decide) rfl fl_X2_68 (fun L st S k => v_iaload dX2_changeTables_84 (fun L st S k => v_aload_n dX2_changeTables_85 rfl (fun L st S k => v_get dX2_changeTables_86 rfl iX2 LY_2 rfl (by decide) rfl fl_X2_23 (fun L st S k => v_aload_n dX2_changeTables_89 rfl (fun L st S k => v_get dX2_changeTables_90 rfl iX2 LY_2 rfl (by decide) rfl fl_X2_68 (fun L st S k => v_zaload dX2_changeTables_93 (fun L st S k => k) k) k) k) k) k) k) k) k) k) k) k) k) k) k
theorem k_X2_changeTables_94 {h : Nat} {L : LVs} {st : List AV} {S : ST} {Q Q' : Option AV → ST → Prop} {j : Nat} {a0 a1 a2 : AV} (hC : Ct MX7_mark h [vR 7 j, a0, a1, a2] S Q') (k : ∀ (r : Option AV) (S' : ST), Q' r S' → V MX2_changeTables (h + 1) 97 L (r.toList ++ st) S' Q) (hj : j < NI 7) (hw : wid st ≤ 8) : V MX2_changeTables (h + 1) 94 L (a2 :: a1 :: a0 :: vR 7 j :: st) S Q :=
  v_callV (M' := MX7_mark) (c := 7) (As := [a0, a1, a2]) dX2_changeTables_94 ml_X2_223 im_X7_mark se_X7_mark in_X7 cd_X7_mark rfl LY_7 np_X7_mark (by decide) hw hj hC k
theorem b_X2_changeTables_97 {h : Nat} {L : LVs} {st : List AV} {S : ST} {Q : Option AV → ST → Prop} (k : V MX2_changeTables h 209 L st S Q) : V MX2_changeTables h 97 L st S Q :=
  v_goto dX2_changeTables_97 (by decide) k
theorem b_X2_changeTables_100 {h : Nat} {L : LVs} {st : List AV} {S : ST} {Q : Option AV → ST → Prop} (k : o_al L st S (fun L st S => o_al L st S (fun L st S => o_get L st S (fun L st S => V MX2_changeTables h 105 L st S Q) 2 7 (5, 7, 0)) 0) 0) : V MX2_changeTables h 100 L st S Q :=
  v_aload_n dX2_changeTables_100 rfl (fun L st S k => v_aload_n dX2_changeTables_101 rfl (fun L st S k => v_get dX2_changeTables_102 rfl iX2 LY_2 rfl (by decide) rfl fl_X2_47 (fun L st S k => k) k) k) k
theorem k_X2_changeTables_105 {h : Nat} {L : LVs} {st : List AV} {S : ST} {Q Q' : Option AV → ST → Prop} {j : Nat} (hC : Ct MX7_dropMarked h [vR 7 j] S Q') (k : ∀ (r : Option AV) (S' : ST), Q' r S' → V MX2_changeTables (h + 1) 108 L (r.toList ++ st) S' Q) (hj : j < NI 7) (hw : wid st ≤ 8) : V MX2_changeTables (h + 1) 105 L (vR 7 j :: st) S Q :=
  v_callV (M' := MX7_dropMarked) (c := 7) (As := []) dX2_changeTables_105 ml_X2_226 im_X7_dropMarked se_X7_dropMarked in_X7 cd_X7_dropMarked rfl LY_7 np_X7_dropMarked (by decide) hw hj hC k
theorem b_X2_changeTables_108 {h : Nat} {L : LVs} {st : List AV} {S : ST} {Q : Option AV → ST → Prop} (k : o_puti L st S (fun L st S => V MX2_changeTables h 209 L st S Q) 2 14) : V MX2_changeTables h 108 L st S Q :=
  v_puti dX2_changeTables_108 rfl iX2 tyX2_ok nmX2 LY_2 rfl (by decide) rfl fl_X2_78 rfl rfl (fun L st S k => v_goto dX2_changeTables_111 (by decide) k) k
theorem b_X2_changeTables_114 {h : Nat} {L : LVs} {st : List AV} {S : ST} {Q : Option AV → ST → Prop} (k : o_al L st S (fun L st S => o_al L st S (fun L st S => o_get L st S (fun L st S => o_il L st S (fun L st S => V MX2_changeTables h 120 L st S Q) 2) 2 7 (5, 7, 0)) 0) 0) : V MX2_changeTables h 114 L st S Q :=
  v_aload_n dX2_changeTables_114 rfl (fun L st S k => v_aload_n dX2_changeTables_115 rfl (fun L st S k => v_get dX2_changeTables_116 rfl iX2 LY_2 rfl (by decide) rfl fl_X2_47 (fun L st S k => v_iload_n dX2_changeTables_119 rfl (fun L st S k => k) k) k) k) k
theorem k_X2_changeTables_120 {h : Nat} {L : LVs} {st : List AV} {S : ST} {Q Q' : Option AV → ST → Prop} {j : Nat} {a0 : AV} (hC : Ct MX7_changeMarked h [vR 7 j, a0] S Q') (k : ∀ (r : Option AV) (S' : ST), Q' r S' → V MX2_changeTables (h + 1) 123 L (r.toList ++ st) S' Q) (hj : j < NI 7) (hw : wid st ≤ 8) : V MX2_changeTables (h + 1) 120 L (a0 :: vR 7 j :: st) S Q :=
  v_callV (M' := MX7_changeMarked) (c := 7) (As := [a0]) dX2_changeTables_120 ml_X2_229 im_X7_changeMarked se_X7_changeMarked in_X7 cd_X7_changeMarked rfl LY_7 np_X7_changeMarked (by decide) hw hj hC k
theorem b_X2_changeTables_123 {h : Nat} {L : LVs} {st : List AV} {S : ST} {Q : Option AV → ST → Prop} (k : o_puti L st S (fun L st S => V MX2_changeTables h 209 L st S Q) 2 14) : V MX2_changeTables h 123 L st S Q :=
  v_puti dX2_changeTables_123 rfl iX2 tyX2_ok nmX2 LY_2 rfl (by decide) rfl fl_X2_78 rfl rfl (fun L st S k => v_goto dX2_changeTables_126 (by decide) k) k
theorem b_X2_changeTables_129 {h : Nat} {L : LVs} {st : List AV} {S : ST} {Q : Option AV → ST → Prop} (k : o_al L st S (fun L st S => V MX2_changeTables h 130 L st S Q) 0) : V MX2_changeTables h 129 L st S Q :=
  v_aload_n dX2_changeTables_129 rfl (fun L st S k => k) k
theorem k_X2_changeTables_130 {h : Nat} {L : LVs} {st : List AV} {S : ST} {Q Q' : Option AV → ST → Prop} {j : Nat} (hC : Ct MX2_pop h [vR 2 j] S Q') (k : ∀ (r : Option AV) (S' : ST), Q' r S' → V MX2_changeTables (h + 1) 133 L (r.toList ++ st) S' Q) (hj : j < NI 2) (hw : wid st ≤ 8) : V MX2_changeTables (h + 1) 130 L (vR 2 j :: st) S Q :=
  v_callV (M' := MX2_pop) (c := 2) (As := []) dX2_changeTables_130 ml_X2_148 im_X2_pop se_X2_pop in_X2 cd_X2_pop rfl LY_2 np_X2_pop (by decide) hw hj hC k
theorem b_X2_changeTables_133 {h : Nat} {L : LVs} {st : List AV} {S : ST} {Q : Option AV → ST → Prop} (k : o_al L st S (fun L st S => o_get L st S (fun L st S => o_il L st S (fun L st S => o_al L st S (fun L st S => o_get L st S (fun L st S => o_al L st S (fun L st S => o_get L st S (fun L st S => o_iald L st S (fun L st S => o_al L st S (fun L st S => o_get L st S (fun L st S => o_al L st S (fun L st S => o_get L st S (fun L st S => o_zald L st S (fun L st S => V MX2_changeTables h 156 L st S Q)) 2 11 (0, 0, 0)) 0) 2 3 (3, 16, 0)) 0)) 2 11 (0, 0, 0)) 0) 2 2 (3, 15, 0)) 0) 2) 2 7 (5, 7, 0)) 0) : V MX2_changeTables h 133 L st S Q :=
  v_aload_n dX2_changeTables_133 rfl (fun L st S k => v_get dX2_changeTables_134 rfl iX2 LY_2 rfl (by decide) rfl fl_X2_47 (fun L st S k => v_iload_n dX2_changeTables_137 rfl (fun L st S k => v_aload_n dX2_changeTables_138 rfl (fun L st S k => v_get dX2_changeTables_139 rfl iX2 LY_2 rfl (by decide) rfl fl_X2_19 (fun L st S k => v_aload_n dX2_changeTables_142 rfl (fun L st S k => v_get dX2_changeTables_143 rfl iX2 LY_2 rfl (by decide) rfl fl_X2_68 (fun L st S k => v_iaload dX2_changeTables_146 (fun L st S k => v_aload_n dX2_changeTables_147 rfl (fun L st S k => v_get dX2_changeTables_148 rfl iX2 LY_2 rfl (by decide) rfl fl_X2_23 (fun L st S k => v_aload_n dX2_changeTables_151 rfl (fun L st S k => v_get dX2_changeTables_152 rfl iX2 LY_2 rfl (by decide) rfl fl_X2_68 (fun L st S k => v_zaload dX2_changeTables_155 (fun L st S k => k) k) k) k) k) k) k) k) k) k) k) k) k) k
theorem k_X2_changeTables_156 {h : Nat} {L : LVs} {st : List AV} {S : ST} {Q Q' : Option AV → ST → Prop} {j : Nat} {a0 a1 a2 : AV} (hC : Ct MX7_putNext h [vR 7 j, a0, a1, a2] S Q') (k : ∀ (r : Option AV) (S' : ST), Q' r S' → V MX2_changeTables (h + 1) 159 L (r.toList ++ st) S' Q) (hj : j < NI 7) (hw : wid st ≤ 8) : V MX2_changeTables (h + 1) 156 L (a2 :: a1 :: a0 :: vR 7 j :: st) S Q :=
  v_callV (M' := MX7_putNext) (c := 7) (As := [a0, a1, a2]) dX2_changeTables_156 ml_X2_232 im_X7_putNext se_X7_putNext in_X7 cd_X7_putNext rfl LY_7 np_X7_putNext (by decide) hw hj hC k
theorem b_X2_changeTables_159 {h : Nat} {L : LVs} {st : List AV} {S : ST} {Q : Option AV → ST → Prop} (k : V MX2_changeTables h 209 L st S Q) : V MX2_changeTables h 159 L st S Q :=
  v_goto dX2_changeTables_159 (by decide) k
theorem b_X2_changeTables_162 {h : Nat} {L : LVs} {st : List AV} {S : ST} {Q : Option AV → ST → Prop} (k : o_al L st S (fun L st S => o_get L st S (fun L st S => V MX2_changeTables h 166 L st S Q) 2 7 (5, 7, 0)) 0) : V MX2_changeTables h 162 L st S Q :=
  v_aload_n dX2_changeTables_162 rfl (fun L st S k => v_get dX2_changeTables_163 rfl iX2 LY_2 rfl (by decide) rfl fl_X2_47 (fun L st S k => k) k) k
theorem k_X2_changeTables_166 {h : Nat} {L : LVs} {st : List AV} {S : ST} {Q Q' : Option AV → ST → Prop} {j : Nat} (hC : Ct MX7_append h [vR 7 j] S Q') (k : ∀ (r : Option AV) (S' : ST), Q' r S' → V MX2_changeTables (h + 1) 169 L (r.toList ++ st) S' Q) (hj : j < NI 7) (hw : wid st ≤ 8) : V MX2_changeTables (h + 1) 166 L (vR 7 j :: st) S Q :=
  v_callV (M' := MX7_append) (c := 7) (As := []) dX2_changeTables_166 ml_X2_233 im_X7_append se_X7_append in_X7 cd_X7_append rfl LY_7 np_X7_append (by decide) hw hj hC k
theorem b_X2_changeTables_169 {h : Nat} {L : LVs} {st : List AV} {S : ST} {Q : Option AV → ST → Prop} (k : o_al L st S (fun L st S => o_c L st S (fun L st S => o_puti L st S (fun L st S => V MX2_changeTables h 209 L st S Q) 2 14) (nI 1)) 0) : V MX2_changeTables h 169 L st S Q :=
  v_aload_n dX2_changeTables_169 rfl (fun L st S k => v_iconst dX2_changeTables_170 (by decide) (fun L st S k => v_puti dX2_changeTables_171 rfl iX2 tyX2_ok nmX2 LY_2 rfl (by decide) rfl fl_X2_78 rfl rfl (fun L st S k => v_goto dX2_changeTables_174 (by decide) k) k) k) k
theorem b_X2_changeTables_177 {h : Nat} {L : LVs} {st : List AV} {S : ST} {Q : Option AV → ST → Prop} (k : o_al L st S (fun L st S => o_get L st S (fun L st S => o_il L st S (fun L st S => o_c L st S (fun L st S => V MX2_changeTables h 183 L st S Q) (nI 1)) 2) 2 1 (4, 8, 0)) 0) : V MX2_changeTables h 177 L st S Q :=
  v_aload_n dX2_changeTables_177 rfl (fun L st S k => v_get dX2_changeTables_178 rfl iX2 LY_2 rfl (by decide) rfl fl_X2_15 (fun L st S k => v_iload_n dX2_changeTables_181 rfl (fun L st S k => v_iconst dX2_changeTables_182 (by decide) (fun L st S k => k) k) k) k) k
theorem k_X2_changeTables_183 {h : Nat} {L : LVs} {st : List AV} {S : ST} {Q Q' : Option AV → ST → Prop} {j : Nat} {a0 a1 : AV} (hC : Ct MX8_addNextColumn h [vR 8 j, a0, a1] S Q') (k : ∀ (r : Option AV) (S' : ST), Q' r S' → V MX2_changeTables (h + 1) 186 L (r.toList ++ st) S' Q) (hj : j < NI 8) (hw : wid st ≤ 8) : V MX2_changeTables (h + 1) 183 L (a1 :: a0 :: vR 8 j :: st) S Q :=
  v_callV (M' := MX8_addNextColumn) (c := 8) (As := [a0, a1]) dX2_changeTables_183 ml_X2_234 im_X8_addNextColumn se_X8_addNextColumn in_X8 cd_X8_addNextColumn rfl LY_8 np_X8_addNextColumn (by decide) hw hj hC k
theorem b_X2_changeTables_186 {h : Nat} {L : LVs} {st : List AV} {S : ST} {Q : Option AV → ST → Prop} (k : V MX2_changeTables h 209 L st S Q) : V MX2_changeTables h 186 L st S Q :=
  v_goto dX2_changeTables_186 (by decide) k
theorem b_X2_changeTables_189 {h : Nat} {L : LVs} {st : List AV} {S : ST} {Q : Option AV → ST → Prop} (k : o_al L st S (fun L st S => o_get L st S (fun L st S => o_il L st S (fun L st S => o_c L st S (fun L st S => V MX2_changeTables h 195 L st S Q) (nI 2)) 2) 2 1 (4, 8, 0)) 0) : V MX2_changeTables h 189 L st S Q :=
  v_aload_n dX2_changeTables_189 rfl (fun L st S k => v_get dX2_changeTables_190 rfl iX2 LY_2 rfl (by decide) rfl fl_X2_15 (fun L st S k => v_iload_n dX2_changeTables_193 rfl (fun L st S k => v_iconst dX2_changeTables_194 (by decide) (fun L st S k => k) k) k) k) k
theorem k_X2_changeTables_195 {h : Nat} {L : LVs} {st : List AV} {S : ST} {Q Q' : Option AV → ST → Prop} {j : Nat} {a0 a1 : AV} (hC : Ct MX8_addNextColumn h [vR 8 j, a0, a1] S Q') (k : ∀ (r : Option AV) (S' : ST), Q' r S' → V MX2_changeTables (h + 1) 198 L (r.toList ++ st) S' Q) (hj : j < NI 8) (hw : wid st ≤ 8) : V MX2_changeTables (h + 1) 195 L (a1 :: a0 :: vR 8 j :: st) S Q :=
  v_callV (M' := MX8_addNextColumn) (c := 8) (As := [a0, a1]) dX2_changeTables_195 ml_X2_234 im_X8_addNextColumn se_X8_addNextColumn in_X8 cd_X8_addNextColumn rfl LY_8 np_X8_addNextColumn (by decide) hw hj hC k
theorem b_X2_changeTables_198 {h : Nat} {L : LVs} {st : List AV} {S : ST} {Q : Option AV → ST → Prop} (k : V MX2_changeTables h 209 L st S Q) : V MX2_changeTables h 198 L st S Q :=
  v_goto dX2_changeTables_198 (by decide) k
theorem b_X2_changeTables_201 {h : Nat} {L : LVs} {st : List AV} {S : ST} {Q : Option AV → ST → Prop} (k : o_al L st S (fun L st S => o_get L st S (fun L st S => o_il L st S (fun L st S => V MX2_changeTables h 206 L st S Q) 2) 2 1 (4, 8, 0)) 0) : V MX2_changeTables h 201 L st S Q :=
  v_aload_n dX2_changeTables_201 rfl (fun L st S k => v_get dX2_changeTables_202 rfl iX2 LY_2 rfl (by decide) rfl fl_X2_15 (fun L st S k => v_iload_n dX2_changeTables_205 rfl (fun L st S k => k) k) k) k
theorem k_X2_changeTables_206 {h : Nat} {L : LVs} {st : List AV} {S : ST} {Q Q' : Option AV → ST → Prop} {j : Nat} {a0 : AV} (hC : Ct MX8_append h [vR 8 j, a0] S Q') (k : ∀ (r : Option AV) (S' : ST), Q' r S' → V MX2_changeTables (h + 1) 209 L (r.toList ++ st) S' Q) (hj : j < NI 8) (hw : wid st ≤ 8) : V MX2_changeTables (h + 1) 206 L (a0 :: vR 8 j :: st) S Q :=
  v_callV (M' := MX8_append) (c := 8) (As := [a0]) dX2_changeTables_206 ml_X2_237 im_X8_append se_X8_append in_X8 cd_X8_append rfl LY_8 np_X8_append (by decide) hw hj hC k
theorem b_X2_changeTables_209 {h : Nat} {L : LVs} {st : List AV} {S : ST} {Q : Option AV → ST → Prop} (k : t_vr st S Q) : V MX2_changeTables h 209 L st S Q :=
  w_vr dX2_changeTables_209 rfl k
-- QueryForge$Machine.push(IZ)V
theorem dX2_push_0 : decode cX2_push 0 = .ok (.aload_n 0, 1) := by decide +kernel
theorem dX2_push_1 : decode cX2_push 1 = .ok (.getfield 68, 3) := by decide +kernel
theorem dX2_push_4 : decode cX2_push 4 = .ok (.bipush 10, 2) := by decide +kernel
theorem dX2_push_6 : decode cX2_push 6 = .ok (.if_icmp .ge 33, 3) := by decide +kernel
theorem dX2_push_9 : decode cX2_push 9 = .ok (.aload_n 0, 1) := by decide +kernel
theorem dX2_push_10 : decode cX2_push 10 = .ok (.getfield 19, 3) := by decide +kernel
theorem dX2_push_13 : decode cX2_push 13 = .ok (.aload_n 0, 1) := by decide +kernel
theorem dX2_push_14 : decode cX2_push 14 = .ok (.getfield 68, 3) := by decide +kernel
theorem dX2_push_17 : decode cX2_push 17 = .ok (.iload_n 1, 1) := by decide +kernel
theorem dX2_push_18 : decode cX2_push 18 = .ok (.iastore, 1) := by decide +kernel
theorem dX2_push_19 : decode cX2_push 19 = .ok (.aload_n 0, 1) := by decide +kernel
theorem dX2_push_20 : decode cX2_push 20 = .ok (.getfield 23, 3) := by decide +kernel
theorem dX2_push_23 : decode cX2_push 23 = .ok (.aload_n 0, 1) := by decide +kernel
theorem dX2_push_24 : decode cX2_push 24 = .ok (.getfield 68, 3) := by decide +kernel
theorem dX2_push_27 : decode cX2_push 27 = .ok (.iload_n 2, 1) := by decide +kernel
theorem dX2_push_28 : decode cX2_push 28 = .ok (.bastore, 1) := by decide +kernel
theorem dX2_push_29 : decode cX2_push 29 = .ok (.aload_n 0, 1) := by decide +kernel
theorem dX2_push_30 : decode cX2_push 30 = .ok (.dup, 1) := by decide +kernel
theorem dX2_push_31 : decode cX2_push 31 = .ok (.getfield 68, 3) := by decide +kernel
theorem dX2_push_34 : decode cX2_push 34 = .ok (.iconst 1, 1) := by decide +kernel
theorem dX2_push_35 : decode cX2_push 35 = .ok (.iadd, 1) := by decide +kernel
theorem dX2_push_36 : decode cX2_push 36 = .ok (.putfield 68, 3) := by decide +kernel
theorem dX2_push_39 : decode cX2_push 39 = .ok (.return_, 1) := by decide +kernel
theorem b_X2_push_0 {h : Nat} {L : LVs} {st : List AV} {S : ST} {Q : Option AV → ST → Prop} (k : o_al L st S (fun L st S => o_get L st S (fun L st S => o_c L st S (fun L st S => t_2 L st S (fun x y => y ≤ x) (fun L st S => V MX2_push h 39 L st S Q) (fun L st S => V MX2_push h 9 L st S Q)) (nI 10)) 2 11 (0, 0, 0)) 0) : V MX2_push h 0 L st S Q :=
  v_aload_n dX2_push_0 rfl (fun L st S k => v_get dX2_push_1 rfl iX2 LY_2 rfl (by decide) rfl fl_X2_68 (fun L st S k => v_bipush dX2_push_4 (by decide) (fun L st S k => w_icmp_ge dX2_push_6 (by decide) rfl k) k) k) k
theorem b_X2_push_9 {h : Nat} {L : LVs} {st : List AV} {S : ST} {Q : Option AV → ST → Prop} (k : o_al L st S (fun L st S => o_get L st S (fun L st S => o_al L st S (fun L st S => o_get L st S (fun L st S => o_il L st S (fun L st S => o_iast L st S (fun L st S => o_al L st S (fun L st S => o_get L st S (fun L st S => o_al L st S (fun L st S => o_get L st S (fun L st S => o_il L st S (fun L st S => o_zast L st S (fun L st S => o_al L st S (fun L st S => o_dup L st S (fun L st S => o_get L st S (fun L st S => o_c L st S (fun L st S => o_iadd L st S (fun L st S => o_puti L st S (fun L st S => V MX2_push h 39 L st S Q) 2 11)) (nI 1)) 2 11 (0, 0, 0))) 0)) 2) 2 11 (0, 0, 0)) 0) 2 3 (3, 16, 0)) 0)) 1) 2 11 (0, 0, 0)) 0) 2 2 (3, 15, 0)) 0) : V MX2_push h 9 L st S Q :=
  v_aload_n dX2_push_9 rfl (fun L st S k => v_get dX2_push_10 rfl iX2 LY_2 rfl (by decide) rfl fl_X2_19 (fun L st S k => v_aload_n dX2_push_13 rfl (fun L st S k => v_get dX2_push_14 rfl iX2 LY_2 rfl (by decide) rfl fl_X2_68 (fun L st S k => v_iload_n dX2_push_17 rfl (fun L st S k => v_iastore dX2_push_18 (fun L st S k => v_aload_n dX2_push_19 rfl (fun L st S k => v_get dX2_push_20 rfl iX2 LY_2 rfl (by decide) rfl fl_X2_23 (fun L st S k => v_aload_n dX2_push_23 rfl (fun L st S k => v_get dX2_push_24 rfl iX2 LY_2 rfl (by decide) rfl fl_X2_68 (fun L st S k => v_iload_n dX2_push_27 rfl (fun L st S k => v_zastore dX2_push_28 (fun L st S k => v_aload_n dX2_push_29 rfl (fun L st S k => v_dup dX2_push_30 (fun L st S k => v_get dX2_push_31 rfl iX2 LY_2 rfl (by decide) rfl fl_X2_68 (fun L st S k => v_iconst dX2_push_34 (by decide) (fun L st S k => v_iadd dX2_push_35 (fun L st S k => v_puti dX2_push_36 rfl iX2 tyX2_ok nmX2 LY_2 rfl (by decide) rfl fl_X2_68 rfl rfl (fun L st S k => k) k) k) k) k) k) k) k) k) k) k) k) k) k) k) k) k) k) k
theorem b_X2_push_39 {h : Nat} {L : LVs} {st : List AV} {S : ST} {Q : Option AV → ST → Prop} (k : t_vr st S Q) : V MX2_push h 39 L st S Q :=
  w_vr dX2_push_39 rfl k
-- QueryForge$Machine.pop()V
theorem dX2_pop_0 : decode cX2_pop 0 = .ok (.aload_n 0, 1) := by decide +kernel
theorem dX2_pop_1 : decode cX2_pop 1 = .ok (.getfield 68, 3) := by decide +kernel
theorem dX2_pop_4 : decode cX2_pop 4 = .ok (.ifCond .le 13, 3) := by decide +kernel
theorem dX2_pop_7 : decode cX2_pop 7 = .ok (.aload_n 0, 1) := by decide +kernel
theorem dX2_pop_8 : decode cX2_pop 8 = .ok (.dup, 1) := by decide +kernel
theorem dX2_pop_9 : decode cX2_pop 9 = .ok (.getfield 68, 3) := by decide +kernel
theorem dX2_pop_12 : decode cX2_pop 12 = .ok (.iconst 1, 1) := by decide +kernel
theorem dX2_pop_13 : decode cX2_pop 13 = .ok (.isub, 1) := by decide +kernel
theorem dX2_pop_14 : decode cX2_pop 14 = .ok (.putfield 68, 3) := by decide +kernel
theorem dX2_pop_17 : decode cX2_pop 17 = .ok (.return_, 1) := by decide +kernel
theorem b_X2_pop_0 {h : Nat} {L : LVs} {st : List AV} {S : ST} {Q : Option AV → ST → Prop} (k : o_al L st S (fun L st S => o_get L st S (fun L st S => t_1 L st S (fun x => x ≤ nI 0) (fun L st S => V MX2_pop h 17 L st S Q) (fun L st S => V MX2_pop h 7 L st S Q)) 2 11 (0, 0, 0)) 0) : V MX2_pop h 0 L st S Q :=
  v_aload_n dX2_pop_0 rfl (fun L st S k => v_get dX2_pop_1 rfl iX2 LY_2 rfl (by decide) rfl fl_X2_68 (fun L st S k => w_if_le dX2_pop_4 (by decide) rfl k) k) k
theorem b_X2_pop_7 {h : Nat} {L : LVs} {st : List AV} {S : ST} {Q : Option AV → ST → Prop} (k : o_al L st S (fun L st S => o_dup L st S (fun L st S => o_get L st S (fun L st S => o_c L st S (fun L st S => o_isub L st S (fun L st S => o_puti L st S (fun L st S => V MX2_pop h 17 L st S Q) 2 11)) (nI 1)) 2 11 (0, 0, 0))) 0) : V MX2_pop h 7 L st S Q :=
  v_aload_n dX2_pop_7 rfl (fun L st S k => v_dup dX2_pop_8 (fun L st S k => v_get dX2_pop_9 rfl iX2 LY_2 rfl (by decide) rfl fl_X2_68 (fun L st S k => v_iconst dX2_pop_12 (by decide) (fun L st S k => v_isub dX2_pop_13 (fun L st S k => v_puti dX2_pop_14 rfl iX2 tyX2_ok nmX2 LY_2 rfl (by decide) rfl fl_X2_68 rfl rfl (fun L st S k => k) k) k) k) k) k) k
theorem b_X2_pop_17 {h : Nat} {L : LVs} {st : List AV} {S : ST} {Q : Option AV → ST → Prop} (k : t_vr st S Q) : V MX2_pop h 17 L st S Q :=
  w_vr dX2_pop_17 rfl k
-- QueryForge$Machine.fail(I)V
theorem dX2_fail_0 : decode cX2_fail 0 = .ok (.aload_n 0, 1) := by decide +kernel
theorem dX2_fail_1 : decode cX2_fail 1 = .ok (.iload_n 1, 1) := by decide +kernel
theorem dX2_fail_2 : decode cX2_fail 2 = .ok (.putfield 78, 3) := by decide +kernel
theorem dX2_fail_5 : decode cX2_fail 5 = .ok (.aload_n 0, 1) := by decide +kernel
theorem dX2_fail_6 : decode cX2_fail 6 = .ok (.iconst 0, 1) := by decide +kernel
theorem dX2_fail_7 : decode cX2_fail 7 = .ok (.putfield 84, 3) := by decide +kernel
theorem dX2_fail_10 : decode cX2_fail 10 = .ok (.return_, 1) := by decide +kernel
theorem b_X2_fail_0 {h : Nat} {L : LVs} {st : List AV} {S : ST} {Q : Option AV → ST → Prop} (k : o_al L st S (fun L st S => o_il L st S (fun L st S => o_puti L st S (fun L st S => o_al L st S (fun L st S => o_c L st S (fun L st S => o_putz L st S (fun L st S => t_vr st S Q) 2 15) (nI 0)) 0) 2 14) 1) 0) : V MX2_fail h 0 L st S Q :=
  v_aload_n dX2_fail_0 rfl (fun L st S k => v_iload_n dX2_fail_1 rfl (fun L st S k => v_puti dX2_fail_2 rfl iX2 tyX2_ok nmX2 LY_2 rfl (by decide) rfl fl_X2_78 rfl rfl (fun L st S k => v_aload_n dX2_fail_5 rfl (fun L st S k => v_iconst dX2_fail_6 (by decide) (fun L st S k => v_putz dX2_fail_7 rfl iX2 tyX2_ok nmX2 LY_2 rfl (by decide) rfl fl_X2_84 rfl rfl (fun L st S k => w_vr dX2_fail_10 rfl k) k) k) k) k) k) k
-- QueryForge$Machine.fits(J)Z
theorem dX2_fits_0 : decode cX2_fits 0 = .ok (.lload_n 0, 1) := by decide +kernel
theorem dX2_fits_1 : decode cX2_fits 1 = .ok (.ldc2_w 239, 3) := by decide +kernel
theorem dX2_fits_4 : decode cX2_fits 4 = .ok (.lcmp, 1) := by decide +kernel
theorem dX2_fits_5 : decode cX2_fits 5 = .ok (.ifCond .lt 15, 3) := by decide +kernel
theorem dX2_fits_8 : decode cX2_fits 8 = .ok (.lload_n 0, 1) := by decide +kernel
theorem dX2_fits_9 : decode cX2_fits 9 = .ok (.ldc2_w 241, 3) := by decide +kernel
theorem dX2_fits_12 : decode cX2_fits 12 = .ok (.lcmp, 1) := by decide +kernel
theorem dX2_fits_13 : decode cX2_fits 13 = .ok (.ifCond .gt 7, 3) := by decide +kernel
theorem dX2_fits_16 : decode cX2_fits 16 = .ok (.iconst 1, 1) := by decide +kernel
theorem dX2_fits_17 : decode cX2_fits 17 = .ok (.goto 4, 3) := by decide +kernel
theorem dX2_fits_20 : decode cX2_fits 20 = .ok (.iconst 0, 1) := by decide +kernel
theorem dX2_fits_21 : decode cX2_fits 21 = .ok (.ireturn, 1) := by decide +kernel
theorem b_X2_fits_0 {h : Nat} {L : LVs} {st : List AV} {S : ST} {Q : Option AV → ST → Prop} (k : o_ll L st S (fun L st S => o_lc L st S (fun L st S => o_lcmp L st S (fun L st S => t_1 L st S (fun x => x < nI 0) (fun L st S => V MX2_fits h 20 L st S Q) (fun L st S => V MX2_fits h 8 L st S Q))) (-2147483648)) 0) : V MX2_fits h 0 L st S Q :=
  v_lload_n dX2_fits_0 rfl (fun L st S k => v_ldc2 dX2_fits_1 kl_X2_239 (fun L st S k => v_lcmp dX2_fits_4 (fun L st S k => w_if_lt dX2_fits_5 (by decide) rfl k) k) k) k
theorem b_X2_fits_8 {h : Nat} {L : LVs} {st : List AV} {S : ST} {Q : Option AV → ST → Prop} (k : o_ll L st S (fun L st S => o_lc L st S (fun L st S => o_lcmp L st S (fun L st S => t_1 L st S (fun x => nI 0 < x) (fun L st S => V MX2_fits h 20 L st S Q) (fun L st S => V MX2_fits h 16 L st S Q))) (lN 2147483647)) 0) : V MX2_fits h 8 L st S Q :=
  v_lload_n dX2_fits_8 rfl (fun L st S k => v_ldc2 dX2_fits_9 kl_X2_241 (fun L st S k => v_lcmp dX2_fits_12 (fun L st S k => w_if_gt dX2_fits_13 (by decide) rfl k) k) k) k
theorem b_X2_fits_16 {h : Nat} {L : LVs} {st : List AV} {S : ST} {Q : Option AV → ST → Prop} (k : o_c L st S (fun L st S => V MX2_fits h 21 L st S Q) (nI 1)) : V MX2_fits h 16 L st S Q :=
  v_iconst dX2_fits_16 (by decide) (fun L st S k => v_goto dX2_fits_17 (by decide) k) k
theorem b_X2_fits_20 {h : Nat} {L : LVs} {st : List AV} {S : ST} {Q : Option AV → ST → Prop} (k : o_c L st S (fun L st S => V MX2_fits h 21 L st S Q) (nI 0)) : V MX2_fits h 20 L st S Q :=
  v_iconst dX2_fits_20 (by decide) (fun L st S k => k) k
theorem b_X2_fits_21 {h : Nat} {L : LVs} {st : List AV} {S : ST} {Q : Option AV → ST → Prop} (k : t_zr st S Q) : V MX2_fits h 21 L st S Q :=
  w_zr dX2_fits_21 rfl k
