-- QueryForge$Machine.result()LQueryForge$Result;
theorem dX2_result_0 : decode cX2_result 0 = .ok (.aload_n 0, 1) := by decide +kernel
theorem dX2_result_1 : decode cX2_result 1 = .ok (.getfield 26, 3) := by decide +kernel
theorem dX2_result_4 : decode cX2_result 4 = .ok (.areturn, 1) := by decide +kernel
theorem b_X2_result_0 {h : Nat} {L : LVs} {st : List AV} {S : ST} {Q : Option AV → ST → Prop} (k : o_al L st S (fun L st S => o_get L st S (fun L st S => t_ar st S Q) 2 3 (5, 5, 0)) 0) : V MX2_result h 0 L st S Q :=
  v_aload_n dX2_result_0 rfl (fun L st S k => v_get dX2_result_1 rfl iX2 LY_2 rfl (by decide) rfl fl_X2_26 (fun L st S k => w_ar dX2_result_4 rfl k) k) k
-- QueryForge$Machine.keptBound()Z
theorem dX2_keptBound_0 : decode cX2_keptBound 0 = .ok (.aload_n 0, 1) := by decide +kernel
theorem dX2_keptBound_1 : decode cX2_keptBound 1 = .ok (.getfield 50, 3) := by decide +kernel
theorem dX2_keptBound_4 : decode cX2_keptBound 4 = .ok (.aload_n 0, 1) := by decide +kernel
theorem dX2_keptBound_5 : decode cX2_keptBound 5 = .ok (.getfield 54, 3) := by decide +kernel
theorem dX2_keptBound_8 : decode cX2_keptBound 8 = .ok (.lcmp, 1) := by decide +kernel
theorem dX2_keptBound_9 : decode cX2_keptBound 9 = .ok (.ifCond .gt 7, 3) := by decide +kernel
theorem dX2_keptBound_12 : decode cX2_keptBound 12 = .ok (.iconst 1, 1) := by decide +kernel
theorem dX2_keptBound_13 : decode cX2_keptBound 13 = .ok (.goto 4, 3) := by decide +kernel
theorem dX2_keptBound_16 : decode cX2_keptBound 16 = .ok (.iconst 0, 1) := by decide +kernel
theorem dX2_keptBound_17 : decode cX2_keptBound 17 = .ok (.ireturn, 1) := by decide +kernel
theorem b_X2_keptBound_0 {h : Nat} {L : LVs} {st : List AV} {S : ST} {Q : Option AV → ST → Prop} (k : o_al L st S (fun L st S => o_get L st S (fun L st S => o_al L st S (fun L st S => o_get L st S (fun L st S => o_lcmp L st S (fun L st S => t_1 L st S (fun x => nI 0 < x) (fun L st S => V MX2_keptBound h 16 L st S Q) (fun L st S => V MX2_keptBound h 12 L st S Q))) 2 17 (1, 0, 0)) 0) 2 15 (1, 0, 0)) 0) : V MX2_keptBound h 0 L st S Q :=
  v_aload_n dX2_keptBound_0 rfl (fun L st S k => v_get dX2_keptBound_1 rfl iX2 LY_2 rfl (by decide) rfl fl_X2_50 (fun L st S k => v_aload_n dX2_keptBound_4 rfl (fun L st S k => v_get dX2_keptBound_5 rfl iX2 LY_2 rfl (by decide) rfl fl_X2_54 (fun L st S k => v_lcmp dX2_keptBound_8 (fun L st S k => w_if_gt dX2_keptBound_9 (by decide) rfl k) k) k) k) k) k
theorem b_X2_keptBound_12 {h : Nat} {L : LVs} {st : List AV} {S : ST} {Q : Option AV → ST → Prop} (k : o_c L st S (fun L st S => V MX2_keptBound h 17 L st S Q) (nI 1)) : V MX2_keptBound h 12 L st S Q :=
  v_iconst dX2_keptBound_12 (by decide) (fun L st S k => v_goto dX2_keptBound_13 (by decide) k) k
theorem b_X2_keptBound_16 {h : Nat} {L : LVs} {st : List AV} {S : ST} {Q : Option AV → ST → Prop} (k : o_c L st S (fun L st S => V MX2_keptBound h 17 L st S Q) (nI 0)) : V MX2_keptBound h 16 L st S Q :=
  v_iconst dX2_keptBound_16 (by decide) (fun L st S k => k) k
theorem b_X2_keptBound_17 {h : Nat} {L : LVs} {st : List AV} {S : ST} {Q : Option AV → ST → Prop} (k : t_zr st S Q) : V MX2_keptBound h 17 L st S Q :=
  w_zr dX2_keptBound_17 rfl k
-- QueryForge$Machine.knewAll()Z
theorem dX2_knewAll_0 : decode cX2_knewAll 0 = .ok (.aload_n 0, 1) := by decide +kernel
theorem dX2_knewAll_1 : decode cX2_knewAll 1 = .ok (.getfield 46, 3) := by decide +kernel
theorem dX2_knewAll_4 : decode cX2_knewAll 4 = .ok (.ireturn, 1) := by decide +kernel
theorem b_X2_knewAll_0 {h : Nat} {L : LVs} {st : List AV} {S : ST} {Q : Option AV → ST → Prop} (k : o_al L st S (fun L st S => o_get L st S (fun L st S => t_zr st S Q) 2 14 (2, 0, 0)) 0) : V MX2_knewAll h 0 L st S Q :=
  v_aload_n dX2_knewAll_0 rfl (fun L st S k => v_get dX2_knewAll_1 rfl iX2 LY_2 rfl (by decide) rfl fl_X2_46 (fun L st S k => w_zr dX2_knewAll_4 rfl k) k) k
-- QueryForge$Machine.run(I)I
theorem dX2_run_0 : decode cX2_run 0 = .ok (.aload_n 0, 1) := by decide +kernel
theorem dX2_run_1 : decode cX2_run 1 = .ok (.getfield 30, 3) := by decide +kernel
theorem dX2_run_4 : decode cX2_run 4 = .ok (.invokevirtual 57, 3) := by decide +kernel
theorem dX2_run_7 : decode cX2_run 7 = .ok (.aload_n 0, 1) := by decide +kernel
theorem dX2_run_8 : decode cX2_run 8 = .ok (.iconst 0, 1) := by decide +kernel
theorem dX2_run_9 : decode cX2_run 9 = .ok (.putfield 60, 3) := by decide +kernel
theorem dX2_run_12 : decode cX2_run 12 = .ok (.aload_n 0, 1) := by decide +kernel
theorem dX2_run_13 : decode cX2_run 13 = .ok (.iconst 0, 1) := by decide +kernel
theorem dX2_run_14 : decode cX2_run 14 = .ok (.putfield 64, 3) := by decide +kernel
theorem dX2_run_17 : decode cX2_run 17 = .ok (.aload_n 0, 1) := by decide +kernel
theorem dX2_run_18 : decode cX2_run 18 = .ok (.iconst 0, 1) := by decide +kernel
theorem dX2_run_19 : decode cX2_run 19 = .ok (.putfield 67, 3) := by decide +kernel
theorem dX2_run_22 : decode cX2_run 22 = .ok (.aload_n 0, 1) := by decide +kernel
theorem dX2_run_23 : decode cX2_run 23 = .ok (.iconst 0, 1) := by decide +kernel
theorem dX2_run_24 : decode cX2_run 24 = .ok (.putfield 70, 3) := by decide +kernel
theorem dX2_run_27 : decode cX2_run 27 = .ok (.aload_n 0, 1) := by decide +kernel
theorem dX2_run_28 : decode cX2_run 28 = .ok (.lconst 0, 1) := by decide +kernel
theorem dX2_run_29 : decode cX2_run 29 = .ok (.putfield 50, 3) := by decide +kernel
theorem dX2_run_32 : decode cX2_run 32 = .ok (.aload_n 0, 1) := by decide +kernel
theorem dX2_run_33 : decode cX2_run 33 = .ok (.lconst 0, 1) := by decide +kernel
theorem dX2_run_34 : decode cX2_run 34 = .ok (.putfield 73, 3) := by decide +kernel
theorem dX2_run_37 : decode cX2_run 37 = .ok (.aload_n 0, 1) := by decide +kernel
theorem dX2_run_38 : decode cX2_run 38 = .ok (.iconst 1, 1) := by decide +kernel
theorem dX2_run_39 : decode cX2_run 39 = .ok (.putfield 46, 3) := by decide +kernel
theorem dX2_run_42 : decode cX2_run 42 = .ok (.aload_n 0, 1) := by decide +kernel
theorem dX2_run_43 : decode cX2_run 43 = .ok (.iconst 1, 1) := by decide +kernel
theorem dX2_run_44 : decode cX2_run 44 = .ok (.putfield 76, 3) := by decide +kernel
theorem dX2_run_47 : decode cX2_run 47 = .ok (.iconst 0, 1) := by decide +kernel
theorem dX2_run_48 : decode cX2_run 48 = .ok (.istore_n 2, 1) := by decide +kernel
theorem dX2_run_49 : decode cX2_run 49 = .ok (.iload_n 2, 1) := by decide +kernel
theorem dX2_run_50 : decode cX2_run 50 = .ok (.ldc 79, 2) := by decide +kernel
theorem dX2_run_52 : decode cX2_run 52 = .ok (.if_icmp .ge 61, 3) := by decide +kernel
theorem dX2_run_55 : decode cX2_run 55 = .ok (.aload_n 0, 1) := by decide +kernel
theorem dX2_run_56 : decode cX2_run 56 = .ok (.getfield 76, 3) := by decide +kernel
theorem dX2_run_59 : decode cX2_run 59 = .ok (.ifCond .eq 54, 3) := by decide +kernel
theorem dX2_run_62 : decode cX2_run 62 = .ok (.aload_n 0, 1) := by decide +kernel
theorem dX2_run_63 : decode cX2_run 63 = .ok (.getfield 67, 3) := by decide +kernel
theorem dX2_run_66 : decode cX2_run 66 = .ok (.istore_n 3, 1) := by decide +kernel
theorem dX2_run_67 : decode cX2_run 67 = .ok (.aload_n 0, 1) := by decide +kernel
theorem dX2_run_68 : decode cX2_run 68 = .ok (.dup, 1) := by decide +kernel
theorem dX2_run_69 : decode cX2_run 69 = .ok (.getfield 67, 3) := by decide +kernel
theorem dX2_run_72 : decode cX2_run 72 = .ok (.iconst 1, 1) := by decide +kernel
theorem dX2_run_73 : decode cX2_run 73 = .ok (.iadd, 1) := by decide +kernel
theorem dX2_run_74 : decode cX2_run 74 = .ok (.putfield 67, 3) := by decide +kernel
theorem dX2_run_77 : decode cX2_run 77 = .ok (.aload_n 0, 1) := by decide +kernel
theorem dX2_run_78 : decode cX2_run 78 = .ok (.dup, 1) := by decide +kernel
theorem dX2_run_79 : decode cX2_run 79 = .ok (.getfield 50, 3) := by decide +kernel
theorem dX2_run_82 : decode cX2_run 82 = .ok (.lconst 1, 1) := by decide +kernel
theorem dX2_run_83 : decode cX2_run 83 = .ok (.ladd, 1) := by decide +kernel
theorem dX2_run_84 : decode cX2_run 84 = .ok (.putfield 50, 3) := by decide +kernel
theorem dX2_run_87 : decode cX2_run 87 = .ok (.aload_n 0, 1) := by decide +kernel
theorem dX2_run_88 : decode cX2_run 88 = .ok (.aload_n 0, 1) := by decide +kernel
theorem dX2_run_89 : decode cX2_run 89 = .ok (.getfield 9, 3) := by decide +kernel
theorem dX2_run_92 : decode cX2_run 92 = .ok (.iload_n 3, 1) := by decide +kernel
theorem dX2_run_93 : decode cX2_run 93 = .ok (.invokevirtual 80, 3) := by decide +kernel
theorem dX2_run_96 : decode cX2_run 96 = .ok (.aload_n 0, 1) := by decide +kernel
theorem dX2_run_97 : decode cX2_run 97 = .ok (.getfield 9, 3) := by decide +kernel
theorem dX2_run_100 : decode cX2_run 100 = .ok (.iload_n 3, 1) := by decide +kernel
theorem dX2_run_101 : decode cX2_run 101 = .ok (.invokevirtual 86, 3) := by decide +kernel
theorem dX2_run_104 : decode cX2_run 104 = .ok (.invokevirtual 89, 3) := by decide +kernel
theorem dX2_run_107 : decode cX2_run 107 = .ok (.iinc 2 1, 3) := by decide +kernel
theorem dX2_run_110 : decode cX2_run 110 = .ok (.goto (-61), 3) := by decide +kernel
theorem dX2_run_113 : decode cX2_run 113 = .ok (.aload_n 0, 1) := by decide +kernel
theorem dX2_run_114 : decode cX2_run 114 = .ok (.ldc2_w 93, 3) := by decide +kernel
theorem dX2_run_117 : decode cX2_run 117 = .ok (.iload_n 1, 1) := by decide +kernel
theorem dX2_run_118 : decode cX2_run 118 = .ok (.i2l, 1) := by decide +kernel
theorem dX2_run_119 : decode cX2_run 119 = .ok (.lmul, 1) := by decide +kernel
theorem dX2_run_120 : decode cX2_run 120 = .ok (.aload_n 0, 1) := by decide +kernel
theorem dX2_run_121 : decode cX2_run 121 = .ok (.getfield 73, 3) := by decide +kernel
theorem dX2_run_124 : decode cX2_run 124 = .ok (.lconst 1, 1) := by decide +kernel
theorem dX2_run_125 : decode cX2_run 125 = .ok (.ladd, 1) := by decide +kernel
theorem dX2_run_126 : decode cX2_run 126 = .ok (.lmul, 1) := by decide +kernel
theorem dX2_run_127 : decode cX2_run 127 = .ok (.putfield 54, 3) := by decide +kernel
theorem dX2_run_130 : decode cX2_run 130 = .ok (.aload_n 0, 1) := by decide +kernel
theorem dX2_run_131 : decode cX2_run 131 = .ok (.getfield 70, 3) := by decide +kernel
theorem dX2_run_134 : decode cX2_run 134 = .ok (.ireturn, 1) := by decide +kernel
theorem b_X2_run_0 {h : Nat} {L : LVs} {st : List AV} {S : ST} {Q : Option AV → ST → Prop} (k : o_al L st S (fun L st S => o_get L st S (fun L st S => V MX2_run h 4 L st S Q) 2 4 (5, 5, 0)) 0) : V MX2_run h 0 L st S Q :=
  v_aload_n dX2_run_0 rfl (fun L st S k => v_get dX2_run_1 rfl iX2 LY_2 rfl (by decide) rfl fl_X2_30 (fun L st S k => k) k) k
theorem k_X2_run_4 {h : Nat} {L : LVs} {st : List AV} {S : ST} {Q Q' : Option AV → ST → Prop} {j : Nat} (hC : Ct MX5_clear h [vR 5 j] S Q') (k : ∀ (r : Option AV) (S' : ST), Q' r S' → V MX2_run (h + 1) 7 L (r.toList ++ st) S' Q) (hj : j < NI 5) (hw : wid st ≤ 8) : V MX2_run (h + 1) 4 L (vR 5 j :: st) S Q :=
  v_callV (M' := MX5_clear) (c := 5) (As := []) dX2_run_4 ml_X2_57 im_X5_clear se_X5_clear in_X5 cd_X5_clear rfl LY_5 np_X5_clear (by decide) hw hj hC k
theorem b_X2_run_7 {h : Nat} {L : LVs} {st : List AV} {S : ST} {Q : Option AV → ST → Prop} (k : o_al L st S (fun L st S => o_c L st S (fun L st S => o_puti L st S (fun L st S => o_al L st S (fun L st S => o_c L st S (fun L st S => o_puti L st S (fun L st S => o_al L st S (fun L st S => o_c L st S (fun L st S => o_puti L st S (fun L st S => o_al L st S (fun L st S => o_c L st S (fun L st S => o_puti L st S (fun L st S => o_al L st S (fun L st S => o_lc L st S (fun L st S => o_putl L st S (fun L st S => o_al L st S (fun L st S => o_lc L st S (fun L st S => o_putl L st S (fun L st S => o_al L st S (fun L st S => o_c L st S (fun L st S => o_putz L st S (fun L st S => o_al L st S (fun L st S => o_c L st S (fun L st S => o_putz L st S (fun L st S => o_c L st S (fun L st S => o_is L st S (fun L st S => V MX2_run h 49 L st S Q) 2) (nI 0)) 2 13) (nI 1)) 0) 2 14) (nI 1)) 0) 2 16) (lN 0)) 0) 2 15) (lN 0)) 0) 2 12) (nI 0)) 0) 2 11) (nI 0)) 0) 2 10) (nI 0)) 0) 2 9) (nI 0)) 0) : V MX2_run h 7 L st S Q :=
  v_aload_n dX2_run_7 rfl (fun L st S k => v_iconst dX2_run_8 (by decide) (fun L st S k => v_puti dX2_run_9 rfl iX2 tyX2_ok nmX2 LY_2 rfl (by decide) rfl fl_X2_60 rfl rfl (fun L st S k => v_aload_n dX2_run_12 rfl (fun L st S k => v_iconst dX2_run_13 (by decide) (fun L st S k => v_puti dX2_run_14 rfl iX2 tyX2_ok nmX2 LY_2 rfl (by decide) rfl fl_X2_64 rfl rfl (fun L st S k => v_aload_n dX2_run_17 rfl (fun L st S k => v_iconst dX2_run_18 (by decide) (fun L st S k => v_puti dX2_run_19 rfl iX2 tyX2_ok nmX2 LY_2 rfl (by decide) rfl fl_X2_67 rfl rfl (fun L st S k => v_aload_n dX2_run_22 rfl (fun L st S k => v_iconst dX2_run_23 (by decide) (fun L st S k => v_puti dX2_run_24 rfl iX2 tyX2_ok nmX2 LY_2 rfl (by decide) rfl fl_X2_70 rfl rfl (fun L st S k => v_aload_n dX2_run_27 rfl (fun L st S k => v_lconst dX2_run_28 (by decide) (fun L st S k => v_putl dX2_run_29 rfl iX2 tyX2_ok nmX2 LY_2 rfl (by decide) rfl fl_X2_50 rfl rfl (fun L st S k => v_aload_n dX2_run_32 rfl (fun L st S k => v_lconst dX2_run_33 (by decide) (fun L st S k => v_putl dX2_run_34 rfl iX2 tyX2_ok nmX2 LY_2 rfl (by decide) rfl fl_X2_73 rfl rfl (fun L st S k => v_aload_n dX2_run_37 rfl (fun L st S k => v_iconst dX2_run_38 (by decide) (fun L st S k => v_putz dX2_run_39 rfl iX2 tyX2_ok nmX2 LY_2 rfl (by decide) rfl fl_X2_46 rfl rfl (fun L st S k => v_aload_n dX2_run_42 rfl (fun L st S k => v_iconst dX2_run_43 (by decide) (fun L st S k => v_putz dX2_run_44 rfl iX2 tyX2_ok nmX2 LY_2 rfl (by decide) rfl fl_X2_76 rfl rfl (fun L st S k => v_iconst dX2_run_47 (by decide) (fun L st S k => v_istore_n dX2_run_48 rfl (by decide) (fun L st S k => k) k) k) k) k) k) k) k) k) k) k) k) k) k) k) k) k) k) k) k) k) k) k) k) k) k) k
theorem b_X2_run_49 {h : Nat} {L : LVs} {st : List AV} {S : ST} {Q : Option AV → ST → Prop} (k : o_il L st S (fun L st S => o_c L st S (fun L st S => t_2 L st S (fun x y => y ≤ x) (fun L st S => V MX2_run h 113 L st S Q) (fun L st S => V MX2_run h 55 L st S Q)) (nI 1000000)) 2) : V MX2_run h 49 L st S Q :=
  v_iload_n dX2_run_49 rfl (fun L st S k => v_ldc dX2_run_50 ki_X2_79 (fun L st S k => w_icmp_ge dX2_run_52 (by decide) rfl k) k) k
theorem b_X2_run_55 {h : Nat} {L : LVs} {st : List AV} {S : ST} {Q : Option AV → ST → Prop} (k : o_al L st S (fun L st S => o_get L st S (fun L st S => t_1 L st S (fun x => x = nI 0) (fun L st S => V MX2_run h 113 L st S Q) (fun L st S => V MX2_run h 62 L st S Q)) 2 13 (2, 0, 0)) 0) : V MX2_run h 55 L st S Q :=
  v_aload_n dX2_run_55 rfl (fun L st S k => v_get dX2_run_56 rfl iX2 LY_2 rfl (by decide) rfl fl_X2_76 (fun L st S k => w_if_eq dX2_run_59 (by decide) rfl k) k) k
theorem b_X2_run_62 {h : Nat} {L : LVs} {st : List AV} {S : ST} {Q : Option AV → ST → Prop} (k : o_al L st S (fun L st S => o_get L st S (fun L st S => o_is L st S (fun L st S => o_al L st S (fun L st S => o_dup L st S (fun L st S => o_get L st S (fun L st S => o_c L st S (fun L st S => o_iadd L st S (fun L st S => o_puti L st S (fun L st S => o_al L st S (fun L st S => o_dup L st S (fun L st S => o_get L st S (fun L st S => o_lc L st S (fun L st S => o_ladd L st S (fun L st S => o_putl L st S (fun L st S => o_al L st S (fun L st S => o_al L st S (fun L st S => o_get L st S (fun L st S => o_il L st S (fun L st S => V MX2_run h 93 L st S Q) 3) 2 0 (4, 1, 1)) 0) 0) 2 15)) (lN 1)) 2 15 (1, 0, 0))) 0) 2 11)) (nI 1)) 2 11 (0, 0, 0))) 0) 3) 2 11 (0, 0, 0)) 0) : V MX2_run h 62 L st S Q :=
  v_aload_n dX2_run_62 rfl (fun L st S k => v_get dX2_run_63 rfl iX2 LY_2 rfl (by decide) rfl fl_X2_67 (fun L st S k => v_istore_n dX2_run_66 rfl (by decide) (fun L st S k => v_aload_n dX2_run_67 rfl (fun L st S k => v_dup dX2_run_68 (fun L st S k => v_get dX2_run_69 rfl iX2 LY_2 rfl (by decide) rfl fl_X2_67 (fun L st S k => v_iconst dX2_run_72 (by decide) (fun L st S k => v_iadd dX2_run_73 (fun L st S k => v_puti dX2_run_74 rfl iX2 tyX2_ok nmX2 LY_2 rfl (by decide) rfl fl_X2_67 rfl rfl (fun L st S k => v_aload_n dX2_run_77 rfl (fun L st S k => v_dup dX2_run_78 (fun L st S k => v_get dX2_run_79 rfl iX2 LY_2 rfl (by decide) rfl fl_X2_50 (fun L st S k => v_lconst dX2_run_82 (by decide) (fun L st S k => v_ladd dX2_run_83 (fun L st S k => v_putl dX2_run_84 rfl iX2 tyX2_ok nmX2 LY_2 rfl (by decide) rfl fl_X2_50 rfl rfl (fun L st S k => v_aload_n dX2_run_87 rfl (fun L st S k => v_aload_n dX2_run_88 rfl (fun L st S k => v_get dX2_run_89 rfl iX2 LY_2 rfl (by decide) rfl fl_X2_9 (fun L st S k => v_iload_n dX2_run_92 rfl (fun L st S k => k) k) k) k) k) k) k) k) k) k) k) k) k) k) k) k) k) k) k) k
theorem k_X2_run_93 {h : Nat} {L : LVs} {st : List AV} {S : ST} {Q Q' : Option AV → ST → Prop} {j : Nat} {a0 : AV} (hC : Ct MX1_operationAt h [vR 1 j, a0] S Q') (k : ∀ (r : Option AV) (S' : ST), Q' r S' → V MX2_run (h + 1) 96 L (r.toList ++ st) S' Q) (hj : j < NI 1) (hw : wid st ≤ 8) : V MX2_run (h + 1) 93 L (a0 :: vR 1 j :: st) S Q :=
  v_callV (M' := MX1_operationAt) (c := 1) (As := [a0]) dX2_run_93 ml_X2_80 im_X1_operationAt se_X1_operationAt in_X1 cd_X1_operationAt rfl LY_1 np_X1_operationAt (by decide) hw hj hC k
theorem b_X2_run_96 {h : Nat} {L : LVs} {st : List AV} {S : ST} {Q : Option AV → ST → Prop} (k : o_al L st S (fun L st S => o_get L st S (fun L st S => o_il L st S (fun L st S => V MX2_run h 101 L st S Q) 3) 2 0 (4, 1, 1)) 0) : V MX2_run h 96 L st S Q :=
  v_aload_n dX2_run_96 rfl (fun L st S k => v_get dX2_run_97 rfl iX2 LY_2 rfl (by decide) rfl fl_X2_9 (fun L st S k => v_iload_n dX2_run_100 rfl (fun L st S k => k) k) k) k
theorem k_X2_run_101 {h : Nat} {L : LVs} {st : List AV} {S : ST} {Q Q' : Option AV → ST → Prop} {j : Nat} {a0 : AV} (hC : Ct MX1_argumentAt h [vR 1 j, a0] S Q') (k : ∀ (r : Option AV) (S' : ST), Q' r S' → V MX2_run (h + 1) 104 L (r.toList ++ st) S' Q) (hj : j < NI 1) (hw : wid st ≤ 8) : V MX2_run (h + 1) 101 L (a0 :: vR 1 j :: st) S Q :=
  v_callV (M' := MX1_argumentAt) (c := 1) (As := [a0]) dX2_run_101 ml_X2_86 im_X1_argumentAt se_X1_argumentAt in_X1 cd_X1_argumentAt rfl LY_1 np_X1_argumentAt (by decide) hw hj hC k
theorem k_X2_run_104 {h : Nat} {L : LVs} {st : List AV} {S : ST} {Q Q' : Option AV → ST → Prop} {j : Nat} {a0 a1 : AV} (hC : Ct MX2_step h [vR 2 j, a0, a1] S Q') (k : ∀ (r : Option AV) (S' : ST), Q' r S' → V MX2_run (h + 1) 107 L (r.toList ++ st) S' Q) (hj : j < NI 2) (hw : wid st ≤ 8) : V MX2_run (h + 1) 104 L (a1 :: a0 :: vR 2 j :: st) S Q :=
  v_callV (M' := MX2_step) (c := 2) (As := [a0, a1]) dX2_run_104 ml_X2_89 im_X2_step se_X2_step in_X2 cd_X2_step rfl LY_2 np_X2_step (by decide) hw hj hC k
theorem b_X2_run_107 {h : Nat} {L : LVs} {st : List AV} {S : ST} {Q : Option AV → ST → Prop} (k : o_inc L st S (fun L st S => V MX2_run h 49 L st S Q) 2 (nI 1)) : V MX2_run h 107 L st S Q :=
  v_iinc dX2_run_107 (by decide) (by decide) (fun L st S k => v_goto dX2_run_110 (by decide) k) k
theorem b_X2_run_113 {h : Nat} {L : LVs} {st : List AV} {S : ST} {Q : Option AV → ST → Prop} (k : o_al L st S (fun L st S => o_lc L st S (fun L st S => o_il L st S (fun L st S => o_i2l L st S (fun L st S => o_lmul L st S (fun L st S => o_al L st S (fun L st S => o_get L st S (fun L st S => o_lc L st S (fun L st S => o_ladd L st S (fun L st S => o_lmul L st S (fun L st S => o_putl L st S (fun L st S => o_al L st S (fun L st S => o_get L st S (fun L st S => t_ir st S Q) 2 12 (0, 0, 0)) 0) 2 17))) (lN 1)) 2 16 (1, 0, 0)) 0))) 1) (lN 400)) 0) : V MX2_run h 113 L st S Q :=
  v_aload_n dX2_run_113 rfl (fun L st S k => v_ldc2 dX2_run_114 kl_X2_93 (fun L st S k => v_iload_n dX2_run_117 rfl (fun L st S k => v_i2l dX2_run_118 (fun L st S k => v_lmul dX2_run_119 (fun L st S k => v_aload_n dX2_run_120 rfl (fun L st S k => v_get dX2_run_121 rfl iX2 LY_2 rfl (by decide) rfl fl_X2_73 (fun L st S k => v_lconst dX2_run_124 (by decide) (fun L st S k => v_ladd dX2_run_125 (fun L st S k => v_lmul dX2_run_126 (fun L st S k => v_putl dX2_run_127 rfl iX2 tyX2_ok nmX2 LY_2 rfl (by decide) rfl fl_X2_54 rfl rfl (fun L st S k => v_aload_n dX2_run_130 rfl (fun L st S k => v_get dX2_run_131 rfl iX2 LY_2 rfl (by decide) rfl fl_X2_70 (fun L st S k => w_ir dX2_run_134 rfl k) k) k) k) k) k) k) k) k) k) k) k) k) k
-- QueryForge$Machine.step(II)V
theorem dX2_step_0 : decode cX2_step 0 = .ok (.iload_n 1, 1) := by decide +kernel
theorem dX2_step_1 : decode cX2_step 1 = .ok (.iconst 1, 1) := by decide +kernel
theorem dX2_step_2 : decode cX2_step 2 = .ok (.if_icmp .lt 9, 3) := by decide +kernel
theorem dX2_step_5 : decode cX2_step 5 = .ok (.iload_n 1, 1) := by decide +kernel
theorem dX2_step_6 : decode cX2_step 6 = .ok (.bipush 49, 2) := by decide +kernel
theorem dX2_step_8 : decode cX2_step 8 = .ok (.if_icmp .le 16, 3) := by decide +kernel
theorem dX2_step_11 : decode cX2_step 11 = .ok (.aload_n 0, 1) := by decide +kernel
theorem dX2_step_12 : decode cX2_step 12 = .ok (.iconst 0, 1) := by decide +kernel
theorem dX2_step_13 : decode cX2_step 13 = .ok (.putfield 46, 3) := by decide +kernel
theorem dX2_step_16 : decode cX2_step 16 = .ok (.aload_n 0, 1) := by decide +kernel
theorem dX2_step_17 : decode cX2_step 17 = .ok (.iconst 0, 1) := by decide +kernel
theorem dX2_step_18 : decode cX2_step 18 = .ok (.putfield 76, 3) := by decide +kernel
theorem dX2_step_21 : decode cX2_step 21 = .ok (.goto 110, 3) := by decide +kernel
theorem dX2_step_24 : decode cX2_step 24 = .ok (.iload_n 1, 1) := by decide +kernel
theorem dX2_step_25 : decode cX2_step 25 = .ok (.iconst 5, 1) := by decide +kernel
theorem dX2_step_26 : decode cX2_step 26 = .ok (.if_icmp .gt 12, 3) := by decide +kernel
theorem dX2_step_29 : decode cX2_step 29 = .ok (.aload_n 0, 1) := by decide +kernel
theorem dX2_step_30 : decode cX2_step 30 = .ok (.iload_n 1, 1) := by decide +kernel
theorem dX2_step_31 : decode cX2_step 31 = .ok (.iload_n 2, 1) := by decide +kernel
theorem dX2_step_32 : decode cX2_step 32 = .ok (.invokevirtual 95, 3) := by decide +kernel
theorem dX2_step_35 : decode cX2_step 35 = .ok (.goto 96, 3) := by decide +kernel
theorem dX2_step_38 : decode cX2_step 38 = .ok (.iload_n 1, 1) := by decide +kernel
theorem dX2_step_39 : decode cX2_step 39 = .ok (.bipush 10, 2) := by decide +kernel
theorem dX2_step_41 : decode cX2_step 41 = .ok (.if_icmp .gt 11, 3) := by decide +kernel
theorem dX2_step_44 : decode cX2_step 44 = .ok (.aload_n 0, 1) := by decide +kernel
theorem dX2_step_45 : decode cX2_step 45 = .ok (.iload_n 1, 1) := by decide +kernel
theorem dX2_step_46 : decode cX2_step 46 = .ok (.invokevirtual 98, 3) := by decide +kernel
theorem dX2_step_49 : decode cX2_step 49 = .ok (.goto 82, 3) := by decide +kernel
theorem dX2_step_52 : decode cX2_step 52 = .ok (.iload_n 1, 1) := by decide +kernel
theorem dX2_step_53 : decode cX2_step 53 = .ok (.bipush 16, 2) := by decide +kernel
theorem dX2_step_55 : decode cX2_step 55 = .ok (.if_icmp .gt 11, 3) := by decide +kernel
theorem dX2_step_58 : decode cX2_step 58 = .ok (.aload_n 0, 1) := by decide +kernel
theorem dX2_step_59 : decode cX2_step 59 = .ok (.iload_n 1, 1) := by decide +kernel
theorem dX2_step_60 : decode cX2_step 60 = .ok (.invokevirtual 102, 3) := by decide +kernel
theorem dX2_step_63 : decode cX2_step 63 = .ok (.goto 68, 3) := by decide +kernel
theorem dX2_step_66 : decode cX2_step 66 = .ok (.iload_n 1, 1) := by decide +kernel
theorem dX2_step_67 : decode cX2_step 67 = .ok (.bipush 20, 2) := by decide +kernel
theorem dX2_step_69 : decode cX2_step 69 = .ok (.if_icmp .gt 11, 3) := by decide +kernel
theorem dX2_step_72 : decode cX2_step 72 = .ok (.aload_n 0, 1) := by decide +kernel
theorem dX2_step_73 : decode cX2_step 73 = .ok (.iload_n 1, 1) := by decide +kernel
theorem dX2_step_74 : decode cX2_step 74 = .ok (.invokevirtual 105, 3) := by decide +kernel
theorem dX2_step_77 : decode cX2_step 77 = .ok (.goto 54, 3) := by decide +kernel
theorem dX2_step_80 : decode cX2_step 80 = .ok (.iload_n 1, 1) := by decide +kernel
theorem dX2_step_81 : decode cX2_step 81 = .ok (.bipush 27, 2) := by decide +kernel
theorem dX2_step_83 : decode cX2_step 83 = .ok (.if_icmp .gt 12, 3) := by decide +kernel
theorem dX2_step_86 : decode cX2_step 86 = .ok (.aload_n 0, 1) := by decide +kernel
theorem dX2_step_87 : decode cX2_step 87 = .ok (.iload_n 1, 1) := by decide +kernel
theorem dX2_step_88 : decode cX2_step 88 = .ok (.iload_n 2, 1) := by decide +kernel
theorem dX2_step_89 : decode cX2_step 89 = .ok (.invokevirtual 108, 3) := by decide +kernel
theorem dX2_step_92 : decode cX2_step 92 = .ok (.goto 39, 3) := by decide +kernel
theorem dX2_step_95 : decode cX2_step 95 = .ok (.iload_n 1, 1) := by decide +kernel
theorem dX2_step_96 : decode cX2_step 96 = .ok (.bipush 35, 2) := by decide +kernel
theorem dX2_step_98 : decode cX2_step 98 = .ok (.if_icmp .gt 12, 3) := by decide +kernel
theorem dX2_step_101 : decode cX2_step 101 = .ok (.aload_n 0, 1) := by decide +kernel
theorem dX2_step_102 : decode cX2_step 102 = .ok (.iload_n 1, 1) := by decide +kernel
theorem dX2_step_103 : decode cX2_step 103 = .ok (.iload_n 2, 1) := by decide +kernel
theorem dX2_step_104 : decode cX2_step 104 = .ok (.invokevirtual 111, 3) := by decide +kernel
theorem dX2_step_107 : decode cX2_step 107 = .ok (.goto 24, 3) := by decide +kernel
theorem dX2_step_110 : decode cX2_step 110 = .ok (.iload_n 1, 1) := by decide +kernel
theorem dX2_step_111 : decode cX2_step 111 = .ok (.bipush 40, 2) := by decide +kernel
theorem dX2_step_113 : decode cX2_step 113 = .ok (.if_icmp .gt 12, 3) := by decide +kernel
theorem dX2_step_116 : decode cX2_step 116 = .ok (.aload_n 0, 1) := by decide +kernel
theorem dX2_step_117 : decode cX2_step 117 = .ok (.iload_n 1, 1) := by decide +kernel
theorem dX2_step_118 : decode cX2_step 118 = .ok (.iload_n 2, 1) := by decide +kernel
theorem dX2_step_119 : decode cX2_step 119 = .ok (.invokevirtual 114, 3) := by decide +kernel
theorem dX2_step_122 : decode cX2_step 122 = .ok (.goto 9, 3) := by decide +kernel
theorem dX2_step_125 : decode cX2_step 125 = .ok (.aload_n 0, 1) := by decide +kernel
theorem dX2_step_126 : decode cX2_step 126 = .ok (.iload_n 1, 1) := by decide +kernel
theorem dX2_step_127 : decode cX2_step 127 = .ok (.iload_n 2, 1) := by decide +kernel
theorem dX2_step_128 : decode cX2_step 128 = .ok (.invokevirtual 117, 3) := by decide +kernel
theorem dX2_step_131 : decode cX2_step 131 = .ok (.return_, 1) := by decide +kernel
theorem b_X2_step_0 {h : Nat} {L : LVs} {st : List AV} {S : ST} {Q : Option AV → ST → Prop} (k : o_il L st S (fun L st S => o_c L st S (fun L st S => t_2 L st S (fun x y => x < y) (fun L st S => V MX2_step h 11 L st S Q) (fun L st S => V MX2_step h 5 L st S Q)) (nI 1)) 1) : V MX2_step h 0 L st S Q :=
  v_iload_n dX2_step_0 rfl (fun L st S k => v_iconst dX2_step_1 (by decide) (fun L st S k => w_icmp_lt dX2_step_2 (by decide) rfl k) k) k
theorem b_X2_step_5 {h : Nat} {L : LVs} {st : List AV} {S : ST} {Q : Option AV → ST → Prop} (k : o_il L st S (fun L st S => o_c L st S (fun L st S => t_2 L st S (fun x y => x ≤ y) (fun L st S => V MX2_step h 24 L st S Q) (fun L st S => V MX2_step h 11 L st S Q)) (nI 49)) 1) : V MX2_step h 5 L st S Q :=
  v_iload_n dX2_step_5 rfl (fun L st S k => v_bipush dX2_step_6 (by decide) (fun L st S k => w_icmp_le dX2_step_8 (by decide) rfl k) k) k
theorem b_X2_step_11 {h : Nat} {L : LVs} {st : List AV} {S : ST} {Q : Option AV → ST → Prop} (k : o_al L st S (fun L st S => o_c L st S (fun L st S => o_putz L st S (fun L st S => o_al L st S (fun L st S => o_c L st S (fun L st S => o_putz L st S (fun L st S => V MX2_step h 131 L st S Q) 2 13) (nI 0)) 0) 2 14) (nI 0)) 0) : V MX2_step h 11 L st S Q :=
  v_aload_n dX2_step_11 rfl (fun L st S k => v_iconst dX2_step_12 (by decide) (fun L st S k => v_putz dX2_step_13 rfl iX2 tyX2_ok nmX2 LY_2 rfl (by decide) rfl fl_X2_46 rfl rfl (fun L st S k => v_aload_n dX2_step_16 rfl (fun L st S k => v_iconst dX2_step_17 (by decide) (fun L st S k => v_putz dX2_step_18 rfl iX2 tyX2_ok nmX2 LY_2 rfl (by decide) rfl fl_X2_76 rfl rfl (fun L st S k => v_goto dX2_step_21 (by decide) k) k) k) k) k) k) k
theorem b_X2_step_24 {h : Nat} {L : LVs} {st : List AV} {S : ST} {Q : Option AV → ST → Prop} (k : o_il L st S (fun L st S => o_c L st S (fun L st S => t_2 L st S (fun x y => y < x) (fun L st S => V MX2_step h 38 L st S Q) (fun L st S => V MX2_step h 29 L st S Q)) (nI 5)) 1) : V MX2_step h 24 L st S Q :=
  v_iload_n dX2_step_24 rfl (fun L st S k => v_iconst dX2_step_25 (by decide) (fun L st S k => w_icmp_gt dX2_step_26 (by decide) rfl k) k) k
theorem b_X2_step_29 {h : Nat} {L : LVs} {st : List AV} {S : ST} {Q : Option AV → ST → Prop} (k : o_al L st S (fun L st S => o_il L st S (fun L st S => o_il L st S (fun L st S => V MX2_step h 32 L st S Q) 2) 1) 0) : V MX2_step h 29 L st S Q :=
  v_aload_n dX2_step_29 rfl (fun L st S k => v_iload_n dX2_step_30 rfl (fun L st S k => v_iload_n dX2_step_31 rfl (fun L st S k => k) k) k) k
theorem k_X2_step_32 {h : Nat} {L : LVs} {st : List AV} {S : ST} {Q Q' : Option AV → ST → Prop} {j : Nat} {a0 a1 : AV} (hC : Ct MX2_bring h [vR 2 j, a0, a1] S Q') (k : ∀ (r : Option AV) (S' : ST), Q' r S' → V MX2_step (h + 1) 35 L (r.toList ++ st) S' Q) (hj : j < NI 2) (hw : wid st ≤ 8) : V MX2_step (h + 1) 32 L (a1 :: a0 :: vR 2 j :: st) S Q :=
  v_callV (M' := MX2_bring) (c := 2) (As := [a0, a1]) dX2_step_32 ml_X2_95 im_X2_bring se_X2_bring in_X2 cd_X2_bring rfl LY_2 np_X2_bring (by decide) hw hj hC k
theorem b_X2_step_35 {h : Nat} {L : LVs} {st : List AV} {S : ST} {Q : Option AV → ST → Prop} (k : V MX2_step h 131 L st S Q) : V MX2_step h 35 L st S Q :=
  v_goto dX2_step_35 (by decide) k
theorem b_X2_step_38 {h : Nat} {L : LVs} {st : List AV} {S : ST} {Q : Option AV → ST → Prop} (k : o_il L st S (fun L st S => o_c L st S (fun L st S => t_2 L st S (fun x y => y < x) (fun L st S => V MX2_step h 52 L st S Q) (fun L st S => V MX2_step h 44 L st S Q)) (nI 10)) 1) : V MX2_step h 38 L st S Q :=
  v_iload_n dX2_step_38 rfl (fun L st S k => v_bipush dX2_step_39 (by decide) (fun L st S k => w_icmp_gt dX2_step_41 (by decide) rfl k) k) k
theorem b_X2_step_44 {h : Nat} {L : LVs} {st : List AV} {S : ST} {Q : Option AV → ST → Prop} (k : o_al L st S (fun L st S => o_il L st S (fun L st S => V MX2_step h 46 L st S Q) 1) 0) : V MX2_step h 44 L st S Q :=
  v_aload_n dX2_step_44 rfl (fun L st S k => v_iload_n dX2_step_45 rfl (fun L st S k => k) k) k
theorem k_X2_step_46 {h : Nat} {L : LVs} {st : List AV} {S : ST} {Q Q' : Option AV → ST → Prop} {j : Nat} {a0 : AV} (hC : Ct MX2_calculate h [vR 2 j, a0] S Q') (k : ∀ (r : Option AV) (S' : ST), Q' r S' → V MX2_step (h + 1) 49 L (r.toList ++ st) S' Q) (hj : j < NI 2) (hw : wid st ≤ 8) : V MX2_step (h + 1) 46 L (a0 :: vR 2 j :: st) S Q :=
  v_callV (M' := MX2_calculate) (c := 2) (As := [a0]) dX2_step_46 ml_X2_98 im_X2_calculate se_X2_calculate in_X2 cd_X2_calculate rfl LY_2 np_X2_calculate (by decide) hw hj hC k
theorem b_X2_step_49 {h : Nat} {L : LVs} {st : List AV} {S : ST} {Q : Option AV → ST → Prop} (k : V MX2_step h 131 L st S Q) : V MX2_step h 49 L st S Q :=
  v_goto dX2_step_49 (by decide) k
theorem b_X2_step_52 {h : Nat} {L : LVs} {st : List AV} {S : ST} {Q : Option AV → ST → Prop} (k : o_il L st S (fun L st S => o_c L st S (fun L st S => t_2 L st S (fun x y => y < x) (fun L st S => V MX2_step h 66 L st S Q) (fun L st S => V MX2_step h 58 L st S Q)) (nI 16)) 1) : V MX2_step h 52 L st S Q :=
  v_iload_n dX2_step_52 rfl (fun L st S k => v_bipush dX2_step_53 (by decide) (fun L st S k => w_icmp_gt dX2_step_55 (by decide) rfl k) k) k
theorem b_X2_step_58 {h : Nat} {L : LVs} {st : List AV} {S : ST} {Q : Option AV → ST → Prop} (k : o_al L st S (fun L st S => o_il L st S (fun L st S => V MX2_step h 60 L st S Q) 1) 0) : V MX2_step h 58 L st S Q :=
  v_aload_n dX2_step_58 rfl (fun L st S k => v_iload_n dX2_step_59 rfl (fun L st S k => k) k) k
theorem k_X2_step_60 {h : Nat} {L : LVs} {st : List AV} {S : ST} {Q Q' : Option AV → ST → Prop} {j : Nat} {a0 : AV} (hC : Ct MX2_compare h [vR 2 j, a0] S Q') (k : ∀ (r : Option AV) (S' : ST), Q' r S' → V MX2_step (h + 1) 63 L (r.toList ++ st) S' Q) (hj : j < NI 2) (hw : wid st ≤ 8) : V MX2_step (h + 1) 60 L (a0 :: vR 2 j :: st) S Q :=
  v_callV (M' := MX2_compare) (c := 2) (As := [a0]) dX2_step_60 ml_X2_102 im_X2_compare se_X2_compare in_X2 cd_X2_compare rfl LY_2 np_X2_compare (by decide) hw hj hC k
theorem b_X2_step_63 {h : Nat} {L : LVs} {st : List AV} {S : ST} {Q : Option AV → ST → Prop} (k : V MX2_step h 131 L st S Q) : V MX2_step h 63 L st S Q :=
  v_goto dX2_step_63 (by decide) k
theorem b_X2_step_66 {h : Nat} {L : LVs} {st : List AV} {S : ST} {Q : Option AV → ST → Prop} (k : o_il L st S (fun L st S => o_c L st S (fun L st S => t_2 L st S (fun x y => y < x) (fun L st S => V MX2_step h 80 L st S Q) (fun L st S => V MX2_step h 72 L st S Q)) (nI 20)) 1) : V MX2_step h 66 L st S Q :=
  v_iload_n dX2_step_66 rfl (fun L st S k => v_bipush dX2_step_67 (by decide) (fun L st S k => w_icmp_gt dX2_step_69 (by decide) rfl k) k) k
theorem b_X2_step_72 {h : Nat} {L : LVs} {st : List AV} {S : ST} {Q : Option AV → ST → Prop} (k : o_al L st S (fun L st S => o_il L st S (fun L st S => V MX2_step h 74 L st S Q) 1) 0) : V MX2_step h 72 L st S Q :=
  v_aload_n dX2_step_72 rfl (fun L st S k => v_iload_n dX2_step_73 rfl (fun L st S k => k) k) k
theorem k_X2_step_74 {h : Nat} {L : LVs} {st : List AV} {S : ST} {Q Q' : Option AV → ST → Prop} {j : Nat} {a0 : AV} (hC : Ct MX2_judge h [vR 2 j, a0] S Q') (k : ∀ (r : Option AV) (S' : ST), Q' r S' → V MX2_step (h + 1) 77 L (r.toList ++ st) S' Q) (hj : j < NI 2) (hw : wid st ≤ 8) : V MX2_step (h + 1) 74 L (a0 :: vR 2 j :: st) S Q :=
  v_callV (M' := MX2_judge) (c := 2) (As := [a0]) dX2_step_74 ml_X2_105 im_X2_judge se_X2_judge in_X2 cd_X2_judge rfl LY_2 np_X2_judge (by decide) hw hj hC k
theorem b_X2_step_77 {h : Nat} {L : LVs} {st : List AV} {S : ST} {Q : Option AV → ST → Prop} (k : V MX2_step h 131 L st S Q) : V MX2_step h 77 L st S Q :=
  v_goto dX2_step_77 (by decide) k
theorem b_X2_step_80 {h : Nat} {L : LVs} {st : List AV} {S : ST} {Q : Option AV → ST → Prop} (k : o_il L st S (fun L st S => o_c L st S (fun L st S => t_2 L st S (fun x y => y < x) (fun L st S => V MX2_step h 95 L st S Q) (fun L st S => V MX2_step h 86 L st S Q)) (nI 27)) 1) : V MX2_step h 80 L st S Q :=
  v_iload_n dX2_step_80 rfl (fun L st S k => v_bipush dX2_step_81 (by decide) (fun L st S k => w_icmp_gt dX2_step_83 (by decide) rfl k) k) k
theorem b_X2_step_86 {h : Nat} {L : LVs} {st : List AV} {S : ST} {Q : Option AV → ST → Prop} (k : o_al L st S (fun L st S => o_il L st S (fun L st S => o_il L st S (fun L st S => V MX2_step h 89 L st S Q) 2) 1) 0) : V MX2_step h 86 L st S Q :=
  v_aload_n dX2_step_86 rfl (fun L st S k => v_iload_n dX2_step_87 rfl (fun L st S k => v_iload_n dX2_step_88 rfl (fun L st S k => k) k) k) k
theorem k_X2_step_89 {h : Nat} {L : LVs} {st : List AV} {S : ST} {Q Q' : Option AV → ST → Prop} {j : Nat} {a0 a1 : AV} (hC : Ct MX2_go h [vR 2 j, a0, a1] S Q') (k : ∀ (r : Option AV) (S' : ST), Q' r S' → V MX2_step (h + 1) 92 L (r.toList ++ st) S' Q) (hj : j < NI 2) (hw : wid st ≤ 8) : V MX2_step (h + 1) 89 L (a1 :: a0 :: vR 2 j :: st) S Q :=
  v_callV (M' := MX2_go) (c := 2) (As := [a0, a1]) dX2_step_89 ml_X2_108 im_X2_go se_X2_go in_X2 cd_X2_go rfl LY_2 np_X2_go (by decide) hw hj hC k
theorem b_X2_step_92 {h : Nat} {L : LVs} {st : List AV} {S : ST} {Q : Option AV → ST → Prop} (k : V MX2_step h 131 L st S Q) : V MX2_step h 92 L st S Q :=
  v_goto dX2_step_92 (by decide) k
theorem b_X2_step_95 {h : Nat} {L : LVs} {st : List AV} {S : ST} {Q : Option AV → ST → Prop} (k : o_il L st S (fun L st S => o_c L st S (fun L st S => t_2 L st S (fun x y => y < x) (fun L st S => V MX2_step h 110 L st S Q) (fun L st S => V MX2_step h 101 L st S Q)) (nI 35)) 1) : V MX2_step h 95 L st S Q :=
  v_iload_n dX2_step_95 rfl (fun L st S k => v_bipush dX2_step_96 (by decide) (fun L st S k => w_icmp_gt dX2_step_98 (by decide) rfl k) k) k
theorem b_X2_step_101 {h : Nat} {L : LVs} {st : List AV} {S : ST} {Q : Option AV → ST → Prop} (k : o_al L st S (fun L st S => o_il L st S (fun L st S => o_il L st S (fun L st S => V MX2_step h 104 L st S Q) 2) 1) 0) : V MX2_step h 101 L st S Q :=
  v_aload_n dX2_step_101 rfl (fun L st S k => v_iload_n dX2_step_102 rfl (fun L st S k => v_iload_n dX2_step_103 rfl (fun L st S k => k) k) k) k
theorem k_X2_step_104 {h : Nat} {L : LVs} {st : List AV} {S : ST} {Q Q' : Option AV → ST → Prop} {j : Nat} {a0 a1 : AV} (hC : Ct MX2_collect h [vR 2 j, a0, a1] S Q') (k : ∀ (r : Option AV) (S' : ST), Q' r S' → V MX2_step (h + 1) 107 L (r.toList ++ st) S' Q) (hj : j < NI 2) (hw : wid st ≤ 8) : V MX2_step (h + 1) 104 L (a1 :: a0 :: vR 2 j :: st) S Q :=
  v_callV (M' := MX2_collect) (c := 2) (As := [a0, a1]) dX2_step_104 ml_X2_111 im_X2_collect se_X2_collect in_X2 cd_X2_collect rfl LY_2 np_X2_collect (by decide) hw hj hC k
theorem b_X2_step_107 {h : Nat} {L : LVs} {st : List AV} {S : ST} {Q : Option AV → ST → Prop} (k : V MX2_step h 131 L st S Q) : V MX2_step h 107 L st S Q :=
  v_goto dX2_step_107 (by decide) k
theorem b_X2_step_110 {h : Nat} {L : LVs} {st : List AV} {S : ST} {Q : Option AV → ST → Prop} (k : o_il L st S (fun L st S => o_c L st S (fun L st S => t_2 L st S (fun x y => y < x) (fun L st S => V MX2_step h 125 L st S Q) (fun L st S => V MX2_step h 116 L st S Q)) (nI 40)) 1) : V MX2_step h 110 L st S Q :=
  v_iload_n dX2_step_110 rfl (fun L st S k => v_bipush dX2_step_111 (by decide) (fun L st S k => w_icmp_gt dX2_step_113 (by decide) rfl k) k) k
theorem b_X2_step_116 {h : Nat} {L : LVs} {st : List AV} {S : ST} {Q : Option AV → ST → Prop} (k : o_al L st S (fun L st S => o_il L st S (fun L st S => o_il L st S (fun L st S => V MX2_step h 119 L st S Q) 2) 1) 0) : V MX2_step h 116 L st S Q :=
  v_aload_n dX2_step_116 rfl (fun L st S k => v_iload_n dX2_step_117 rfl (fun L st S k => v_iload_n dX2_step_118 rfl (fun L st S k => k) k) k) k
theorem k_X2_step_119 {h : Nat} {L : LVs} {st : List AV} {S : ST} {Q Q' : Option AV → ST → Prop} {j : Nat} {a0 a1 : AV} (hC : Ct MX2_finishRows h [vR 2 j, a0, a1] S Q') (k : ∀ (r : Option AV) (S' : ST), Q' r S' → V MX2_step (h + 1) 122 L (r.toList ++ st) S' Q) (hj : j < NI 2) (hw : wid st ≤ 8) : V MX2_step (h + 1) 119 L (a1 :: a0 :: vR 2 j :: st) S Q :=
  v_callV (M' := MX2_finishRows) (c := 2) (As := [a0, a1]) dX2_step_119 ml_X2_114 im_X2_finishRows se_X2_finishRows in_X2 cd_X2_finishRows rfl LY_2 np_X2_finishRows (by decide) hw hj hC k
theorem b_X2_step_122 {h : Nat} {L : LVs} {st : List AV} {S : ST} {Q : Option AV → ST → Prop} (k : V MX2_step h 131 L st S Q) : V MX2_step h 122 L st S Q :=
  v_goto dX2_step_122 (by decide) k
theorem b_X2_step_125 {h : Nat} {L : LVs} {st : List AV} {S : ST} {Q : Option AV → ST → Prop} (k : o_al L st S (fun L st S => o_il L st S (fun L st S => o_il L st S (fun L st S => V MX2_step h 128 L st S Q) 2) 1) 0) : V MX2_step h 125 L st S Q :=
  v_aload_n dX2_step_125 rfl (fun L st S k => v_iload_n dX2_step_126 rfl (fun L st S k => v_iload_n dX2_step_127 rfl (fun L st S k => k) k) k) k
theorem k_X2_step_128 {h : Nat} {L : LVs} {st : List AV} {S : ST} {Q Q' : Option AV → ST → Prop} {j : Nat} {a0 a1 : AV} (hC : Ct MX2_changeTables h [vR 2 j, a0, a1] S Q') (k : ∀ (r : Option AV) (S' : ST), Q' r S' → V MX2_step (h + 1) 131 L (r.toList ++ st) S' Q) (hj : j < NI 2) (hw : wid st ≤ 8) : V MX2_step (h + 1) 128 L (a1 :: a0 :: vR 2 j :: st) S Q :=
  v_callV (M' := MX2_changeTables) (c := 2) (As := [a0, a1]) dX2_step_128 ml_X2_117 im_X2_changeTables se_X2_changeTables in_X2 cd_X2_changeTables rfl LY_2 np_X2_changeTables (by decide) hw hj hC k
theorem b_X2_step_131 {h : Nat} {L : LVs} {st : List AV} {S : ST} {Q : Option AV → ST → Prop} (k : t_vr st S Q) : V MX2_step h 131 L st S Q :=
  w_vr dX2_step_131 rfl k
-- QueryForge$Machine.bring(II)V
theorem dX2_bring_0 : decode cX2_bring 0 = .ok (.iload_n 1, 1) := by decide +kernel
theorem dX2_bring_1 : decode cX2_bring 1 = .ok (.tableswitch 75 3 5 #[27, 37, 56], 27) := by decide +kernel
theorem dX2_bring_28 : decode cX2_bring 28 = .ok (.aload_n 0, 1) := by decide +kernel
theorem dX2_bring_29 : decode cX2_bring 29 = .ok (.ldc2_w 120, 3) := by decide +kernel
theorem dX2_bring_32 : decode cX2_bring 32 = .ok (.invokevirtual 122, 3) := by decide +kernel
theorem dX2_bring_35 : decode cX2_bring 35 = .ok (.goto 47, 3) := by decide +kernel
theorem dX2_bring_38 : decode cX2_bring 38 = .ok (.aload_n 0, 1) := by decide +kernel
theorem dX2_bring_39 : decode cX2_bring 39 = .ok (.aload_n 0, 1) := by decide +kernel
theorem dX2_bring_40 : decode cX2_bring 40 = .ok (.getfield 39, 3) := by decide +kernel
theorem dX2_bring_43 : decode cX2_bring 43 = .ok (.aload_n 0, 1) := by decide +kernel
theorem dX2_bring_44 : decode cX2_bring 44 = .ok (.getfield 126, 3) := by decide +kernel
theorem dX2_bring_47 : decode cX2_bring 47 = .ok (.iload_n 2, 1) := by decide +kernel
theorem dX2_bring_48 : decode cX2_bring 48 = .ok (.invokevirtual 129, 3) := by decide +kernel
theorem dX2_bring_51 : decode cX2_bring 51 = .ok (.invokevirtual 122, 3) := by decide +kernel
theorem dX2_bring_54 : decode cX2_bring 54 = .ok (.goto 28, 3) := by decide +kernel
theorem dX2_bring_57 : decode cX2_bring 57 = .ok (.aload_n 0, 1) := by decide +kernel
theorem dX2_bring_58 : decode cX2_bring 58 = .ok (.aload_n 0, 1) := by decide +kernel
theorem dX2_bring_59 : decode cX2_bring 59 = .ok (.getfield 43, 3) := by decide +kernel
theorem dX2_bring_62 : decode cX2_bring 62 = .ok (.aload_n 0, 1) := by decide +kernel
theorem dX2_bring_63 : decode cX2_bring 63 = .ok (.getfield 135, 3) := by decide +kernel
theorem dX2_bring_66 : decode cX2_bring 66 = .ok (.iload_n 2, 1) := by decide +kernel
theorem dX2_bring_67 : decode cX2_bring 67 = .ok (.invokevirtual 129, 3) := by decide +kernel
theorem dX2_bring_70 : decode cX2_bring 70 = .ok (.invokevirtual 122, 3) := by decide +kernel
theorem dX2_bring_73 : decode cX2_bring 73 = .ok (.goto 9, 3) := by decide +kernel
theorem dX2_bring_76 : decode cX2_bring 76 = .ok (.aload_n 0, 1) := by decide +kernel
theorem dX2_bring_77 : decode cX2_bring 77 = .ok (.iload_n 2, 1) := by decide +kernel
theorem dX2_bring_78 : decode cX2_bring 78 = .ok (.i2l, 1) := by decide +kernel
theorem dX2_bring_79 : decode cX2_bring 79 = .ok (.invokevirtual 122, 3) := by decide +kernel
theorem dX2_bring_82 : decode cX2_bring 82 = .ok (.return_, 1) := by decide +kernel
theorem b_X2_bring_0 {h : Nat} {L : LVs} {st : List AV} {S : ST} {Q : Option AV → ST → Prop} (k : o_il L st S (fun L st S => t_sw L st S [((nI 3), fun L st S => V MX2_bring h 28 L st S Q), ((nI 4), fun L st S => V MX2_bring h 38 L st S Q), ((nI 5), fun L st S => V MX2_bring h 57 L st S Q)] (fun L st S => V MX2_bring h 76 L st S Q)) 1) : V MX2_bring h 0 L st S Q :=
  v_iload_n dX2_bring_0 rfl (fun L st S k => w_tsw [((nI 3), 28), ((nI 4), 38), ((nI 5), 57)] dX2_bring_1 (n := 3) (by decide) rfl (by decide) (by decide) (by decide) k) k
theorem b_X2_bring_28 {h : Nat} {L : LVs} {st : List AV} {S : ST} {Q : Option AV → ST → Prop} (k : o_al L st S (fun L st S => o_lc L st S (fun L st S => V MX2_bring h 32 L st S Q) (-4611686018427387904)) 0) : V MX2_bring h 28 L st S Q :=
  v_aload_n dX2_bring_28 rfl (fun L st S k => v_ldc2 dX2_bring_29 kl_X2_120 (fun L st S k => k) k) k
theorem k_X2_bring_32 {h : Nat} {L : LVs} {st : List AV} {S : ST} {Q Q' : Option AV → ST → Prop} {j : Nat} {a0 : AV} (hC : Ct MX2_push h [vR 2 j, a0] S Q') (k : ∀ (r : Option AV) (S' : ST), Q' r S' → V MX2_bring (h + 1) 35 L (r.toList ++ st) S' Q) (hj : j < NI 2) (hw : wid st ≤ 8) : V MX2_bring (h + 1) 32 L (a0 :: vR 2 j :: st) S Q :=
  v_callV (M' := MX2_push) (c := 2) (As := [a0]) dX2_bring_32 ml_X2_122 im_X2_push se_X2_push in_X2 cd_X2_push rfl LY_2 np_X2_push (by decide) hw hj hC k
theorem b_X2_bring_35 {h : Nat} {L : LVs} {st : List AV} {S : ST} {Q : Option AV → ST → Prop} (k : V MX2_bring h 82 L st S Q) : V MX2_bring h 35 L st S Q :=
  v_goto dX2_bring_35 (by decide) k
theorem b_X2_bring_38 {h : Nat} {L : LVs} {st : List AV} {S : ST} {Q : Option AV → ST → Prop} (k : o_al L st S (fun L st S => o_al L st S (fun L st S => o_get L st S (fun L st S => o_al L st S (fun L st S => o_get L st S (fun L st S => o_il L st S (fun L st S => V MX2_bring h 48 L st S Q) 2) 2 7 (0, 0, 0)) 0) 2 5 (5, 7, 0)) 0) 0) : V MX2_bring h 38 L st S Q :=
  v_aload_n dX2_bring_38 rfl (fun L st S k => v_aload_n dX2_bring_39 rfl (fun L st S k => v_get dX2_bring_40 rfl iX2 LY_2 rfl (by decide) rfl fl_X2_39 (fun L st S k => v_aload_n dX2_bring_43 rfl (fun L st S k => v_get dX2_bring_44 rfl iX2 LY_2 rfl (by decide) rfl fl_X2_126 (fun L st S k => v_iload_n dX2_bring_47 rfl (fun L st S k => k) k) k) k) k) k) k
theorem k_X2_bring_48 {h : Nat} {L : LVs} {st : List AV} {S : ST} {Q Q' : Option AV → ST → Prop} {j : Nat} {a0 a1 : AV} (hC : Ct MX7_heldAt h [vR 7 j, a0, a1] S Q') (k : ∀ (r : Option AV) (S' : ST), Q' r S' → V MX2_bring (h + 1) 51 L (r.toList ++ st) S' Q) (hj : j < NI 7) (hw : wid st ≤ 8) : V MX2_bring (h + 1) 48 L (a1 :: a0 :: vR 7 j :: st) S Q :=
  v_callV (M' := MX7_heldAt) (c := 7) (As := [a0, a1]) dX2_bring_48 ml_X2_129 im_X7_heldAt se_X7_heldAt in_X7 cd_X7_heldAt rfl LY_7 np_X7_heldAt (by decide) hw hj hC k
theorem k_X2_bring_51 {h : Nat} {L : LVs} {st : List AV} {S : ST} {Q Q' : Option AV → ST → Prop} {j : Nat} {a0 : AV} (hC : Ct MX2_push h [vR 2 j, a0] S Q') (k : ∀ (r : Option AV) (S' : ST), Q' r S' → V MX2_bring (h + 1) 54 L (r.toList ++ st) S' Q) (hj : j < NI 2) (hw : wid st ≤ 8) : V MX2_bring (h + 1) 51 L (a0 :: vR 2 j :: st) S Q :=
  v_callV (M' := MX2_push) (c := 2) (As := [a0]) dX2_bring_51 ml_X2_122 im_X2_push se_X2_push in_X2 cd_X2_push rfl LY_2 np_X2_push (by decide) hw hj hC k
theorem b_X2_bring_54 {h : Nat} {L : LVs} {st : List AV} {S : ST} {Q : Option AV → ST → Prop} (k : V MX2_bring h 82 L st S Q) : V MX2_bring h 54 L st S Q :=
  v_goto dX2_bring_54 (by decide) k
theorem b_X2_bring_57 {h : Nat} {L : LVs} {st : List AV} {S : ST} {Q : Option AV → ST → Prop} (k : o_al L st S (fun L st S => o_al L st S (fun L st S => o_get L st S (fun L st S => o_al L st S (fun L st S => o_get L st S (fun L st S => o_il L st S (fun L st S => V MX2_bring h 67 L st S Q) 2) 2 8 (0, 0, 0)) 0) 2 6 (5, 7, 0)) 0) 0) : V MX2_bring h 57 L st S Q :=
  v_aload_n dX2_bring_57 rfl (fun L st S k => v_aload_n dX2_bring_58 rfl (fun L st S k => v_get dX2_bring_59 rfl iX2 LY_2 rfl (by decide) rfl fl_X2_43 (fun L st S k => v_aload_n dX2_bring_62 rfl (fun L st S k => v_get dX2_bring_63 rfl iX2 LY_2 rfl (by decide) rfl fl_X2_135 (fun L st S k => v_iload_n dX2_bring_66 rfl (fun L st S k => k) k) k) k) k) k) k
theorem k_X2_bring_67 {h : Nat} {L : LVs} {st : List AV} {S : ST} {Q Q' : Option AV → ST → Prop} {j : Nat} {a0 a1 : AV} (hC : Ct MX7_heldAt h [vR 7 j, a0, a1] S Q') (k : ∀ (r : Option AV) (S' : ST), Q' r S' → V MX2_bring (h + 1) 70 L (r.toList ++ st) S' Q) (hj : j < NI 7) (hw : wid st ≤ 8) : V MX2_bring (h + 1) 67 L (a1 :: a0 :: vR 7 j :: st) S Q :=
  v_callV (M' := MX7_heldAt) (c := 7) (As := [a0, a1]) dX2_bring_67 ml_X2_129 im_X7_heldAt se_X7_heldAt in_X7 cd_X7_heldAt rfl LY_7 np_X7_heldAt (by decide) hw hj hC k
theorem k_X2_bring_70 {h : Nat} {L : LVs} {st : List AV} {S : ST} {Q Q' : Option AV → ST → Prop} {j : Nat} {a0 : AV} (hC : Ct MX2_push h [vR 2 j, a0] S Q') (k : ∀ (r : Option AV) (S' : ST), Q' r S' → V MX2_bring (h + 1) 73 L (r.toList ++ st) S' Q) (hj : j < NI 2) (hw : wid st ≤ 8) : V MX2_bring (h + 1) 70 L (a0 :: vR 2 j :: st) S Q :=
  v_callV (M' := MX2_push) (c := 2) (As := [a0]) dX2_bring_70 ml_X2_122 im_X2_push se_X2_push in_X2 cd_X2_push rfl LY_2 np_X2_push (by decide) hw hj hC k
theorem b_X2_bring_73 {h : Nat} {L : LVs} {st : List AV} {S : ST} {Q : Option AV → ST → Prop} (k : V MX2_bring h 82 L st S Q) : V MX2_bring h 73 L st S Q :=
  v_goto dX2_bring_73 (by decide) k
theorem b_X2_bring_76 {h : Nat} {L : LVs} {st : List AV} {S : ST} {Q : Option AV → ST → Prop} (k : o_al L st S (fun L st S => o_il L st S (fun L st S => o_i2l L st S (fun L st S => V MX2_bring h 79 L st S Q)) 2) 0) : V MX2_bring h 76 L st S Q :=
  v_aload_n dX2_bring_76 rfl (fun L st S k => v_iload_n dX2_bring_77 rfl (fun L st S k => v_i2l dX2_bring_78 (fun L st S k => k) k) k) k
theorem k_X2_bring_79 {h : Nat} {L : LVs} {st : List AV} {S : ST} {Q Q' : Option AV → ST → Prop} {j : Nat} {a0 : AV} (hC : Ct MX2_push h [vR 2 j, a0] S Q') (k : ∀ (r : Option AV) (S' : ST), Q' r S' → V MX2_bring (h + 1) 82 L (r.toList ++ st) S' Q) (hj : j < NI 2) (hw : wid st ≤ 8) : V MX2_bring (h + 1) 79 L (a0 :: vR 2 j :: st) S Q :=
  v_callV (M' := MX2_push) (c := 2) (As := [a0]) dX2_bring_79 ml_X2_122 im_X2_push se_X2_push in_X2 cd_X2_push rfl LY_2 np_X2_push (by decide) hw hj hC k
theorem b_X2_bring_82 {h : Nat} {L : LVs} {st : List AV} {S : ST} {Q : Option AV → ST → Prop} (k : t_vr st S Q) : V MX2_bring h 82 L st S Q :=
  w_vr dX2_bring_82 rfl k
-- QueryForge$Machine.calculate(I)V
theorem dX2_calculate_0 : decode cX2_calculate 0 = .ok (.aload_n 0, 1) := by decide +kernel
theorem dX2_calculate_1 : decode cX2_calculate 1 = .ok (.invokevirtual 138, 3) := by decide +kernel
theorem dX2_calculate_4 : decode cX2_calculate 4 = .ok (.lstore_n 2, 1) := by decide +kernel
theorem dX2_calculate_5 : decode cX2_calculate 5 = .ok (.iload_n 1, 1) := by decide +kernel
theorem dX2_calculate_6 : decode cX2_calculate 6 = .ok (.bipush 6, 2) := by decide +kernel
theorem dX2_calculate_8 : decode cX2_calculate 8 = .ok (.if_icmp .ne 7, 3) := by decide +kernel
theorem dX2_calculate_11 : decode cX2_calculate 11 = .ok (.lconst 0, 1) := by decide +kernel
theorem dX2_calculate_12 : decode cX2_calculate 12 = .ok (.goto 7, 3) := by decide +kernel
theorem dX2_calculate_15 : decode cX2_calculate 15 = .ok (.aload_n 0, 1) := by decide +kernel
theorem dX2_calculate_16 : decode cX2_calculate 16 = .ok (.invokevirtual 138, 3) := by decide +kernel
theorem dX2_calculate_19 : decode cX2_calculate 19 = .ok (.lstore 4, 2) := by decide +kernel
theorem dX2_calculate_21 : decode cX2_calculate 21 = .ok (.lload 4, 2) := by decide +kernel
theorem dX2_calculate_23 : decode cX2_calculate 23 = .ok (.ldc2_w 120, 3) := by decide +kernel
theorem dX2_calculate_26 : decode cX2_calculate 26 = .ok (.lcmp, 1) := by decide +kernel
theorem dX2_calculate_27 : decode cX2_calculate 27 = .ok (.ifCond .eq 11, 3) := by decide +kernel
theorem dX2_calculate_30 : decode cX2_calculate 30 = .ok (.lload_n 2, 1) := by decide +kernel
theorem dX2_calculate_31 : decode cX2_calculate 31 = .ok (.ldc2_w 120, 3) := by decide +kernel
theorem dX2_calculate_34 : decode cX2_calculate 34 = .ok (.lcmp, 1) := by decide +kernel
theorem dX2_calculate_35 : decode cX2_calculate 35 = .ok (.ifCond .ne 11, 3) := by decide +kernel
theorem dX2_calculate_38 : decode cX2_calculate 38 = .ok (.aload_n 0, 1) := by decide +kernel
theorem dX2_calculate_39 : decode cX2_calculate 39 = .ok (.ldc2_w 120, 3) := by decide +kernel
theorem dX2_calculate_42 : decode cX2_calculate 42 = .ok (.invokevirtual 122, 3) := by decide +kernel
theorem dX2_calculate_45 : decode cX2_calculate 45 = .ok (.return_, 1) := by decide +kernel
theorem dX2_calculate_46 : decode cX2_calculate 46 = .ok (.iload_n 1, 1) := by decide +kernel
theorem dX2_calculate_47 : decode cX2_calculate 47 = .ok (.bipush 10, 2) := by decide +kernel
theorem dX2_calculate_49 : decode cX2_calculate 49 = .ok (.if_icmp .ne 17, 3) := by decide +kernel
theorem dX2_calculate_52 : decode cX2_calculate 52 = .ok (.lload_n 2, 1) := by decide +kernel
theorem dX2_calculate_53 : decode cX2_calculate 53 = .ok (.lconst 0, 1) := by decide +kernel
theorem dX2_calculate_54 : decode cX2_calculate 54 = .ok (.lcmp, 1) := by decide +kernel
theorem dX2_calculate_55 : decode cX2_calculate 55 = .ok (.ifCond .ne 11, 3) := by decide +kernel
theorem dX2_calculate_58 : decode cX2_calculate 58 = .ok (.aload_n 0, 1) := by decide +kernel
theorem dX2_calculate_59 : decode cX2_calculate 59 = .ok (.sipush (-1004), 3) := by decide +kernel
theorem dX2_calculate_62 : decode cX2_calculate 62 = .ok (.invokevirtual 142, 3) := by decide +kernel
theorem dX2_calculate_65 : decode cX2_calculate 65 = .ok (.return_, 1) := by decide +kernel
theorem dX2_calculate_66 : decode cX2_calculate 66 = .ok (.iload_n 1, 1) := by decide +kernel
theorem dX2_calculate_67 : decode cX2_calculate 67 = .ok (.lload 4, 2) := by decide +kernel
theorem dX2_calculate_69 : decode cX2_calculate 69 = .ok (.lload_n 2, 1) := by decide +kernel
theorem dX2_calculate_70 : decode cX2_calculate 70 = .ok (.invokestatic 145, 3) := by decide +kernel
theorem dX2_calculate_73 : decode cX2_calculate 73 = .ok (.lstore 6, 2) := by decide +kernel
theorem dX2_calculate_75 : decode cX2_calculate 75 = .ok (.lload 6, 2) := by decide +kernel
theorem dX2_calculate_77 : decode cX2_calculate 77 = .ok (.invokestatic 149, 3) := by decide +kernel
theorem dX2_calculate_80 : decode cX2_calculate 80 = .ok (.ifCond .ne 11, 3) := by decide +kernel
theorem dX2_calculate_83 : decode cX2_calculate 83 = .ok (.aload_n 0, 1) := by decide +kernel
theorem dX2_calculate_84 : decode cX2_calculate 84 = .ok (.sipush (-1005), 3) := by decide +kernel
theorem dX2_calculate_87 : decode cX2_calculate 87 = .ok (.invokevirtual 142, 3) := by decide +kernel
theorem dX2_calculate_90 : decode cX2_calculate 90 = .ok (.return_, 1) := by decide +kernel
theorem dX2_calculate_91 : decode cX2_calculate 91 = .ok (.aload_n 0, 1) := by decide +kernel
theorem dX2_calculate_92 : decode cX2_calculate 92 = .ok (.lload 6, 2) := by decide +kernel
theorem dX2_calculate_94 : decode cX2_calculate 94 = .ok (.invokevirtual 122, 3) := by decide +kernel
theorem dX2_calculate_97 : decode cX2_calculate 97 = .ok (.return_, 1) := by decide +kernel
theorem b_X2_calculate_0 {h : Nat} {L : LVs} {st : List AV} {S : ST} {Q : Option AV → ST → Prop} (k : o_al L st S (fun L st S => V MX2_calculate h 1 L st S Q) 0) : V MX2_calculate h 0 L st S Q :=
  v_aload_n dX2_calculate_0 rfl (fun L st S k => k) k
theorem k_X2_calculate_1 {h : Nat} {L : LVs} {st : List AV} {S : ST} {Q Q' : Option AV → ST → Prop} {j : Nat} (hC : Ct MX2_pop h [vR 2 j] S Q') (k : ∀ (r : Option AV) (S' : ST), Q' r S' → V MX2_calculate (h + 1) 4 L (r.toList ++ st) S' Q) (hj : j < NI 2) (hw : wid st ≤ 8) : V MX2_calculate (h + 1) 1 L (vR 2 j :: st) S Q :=
  v_callV (M' := MX2_pop) (c := 2) (As := []) dX2_calculate_1 ml_X2_138 im_X2_pop se_X2_pop in_X2 cd_X2_pop rfl LY_2 np_X2_pop (by decide) hw hj hC k
theorem b_X2_calculate_4 {h : Nat} {L : LVs} {st : List AV} {S : ST} {Q : Option AV → ST → Prop} (k : o_ls L st S (fun L st S => o_il L st S (fun L st S => o_c L st S (fun L st S => t_2 L st S (fun x y => x = y) (fun L st S => V MX2_calculate h 11 L st S Q) (fun L st S => V MX2_calculate h 15 L st S Q)) (nI 6)) 1) 2) : V MX2_calculate h 4 L st S Q :=
  v_lstore_n dX2_calculate_4 rfl (by decide) (fun L st S k => v_iload_n dX2_calculate_5 rfl (fun L st S k => v_bipush dX2_calculate_6 (by decide) (fun L st S k => w_icmp_ne dX2_calculate_8 (by decide) rfl k) k) k) k
theorem b_X2_calculate_11 {h : Nat} {L : LVs} {st : List AV} {S : ST} {Q : Option AV → ST → Prop} (k : o_lc L st S (fun L st S => V MX2_calculate h 19 L st S Q) (lN 0)) : V MX2_calculate h 11 L st S Q :=
  v_lconst dX2_calculate_11 (by decide) (fun L st S k => v_goto dX2_calculate_12 (by decide) k) k
theorem b_X2_calculate_15 {h : Nat} {L : LVs} {st : List AV} {S : ST} {Q : Option AV → ST → Prop} (k : o_al L st S (fun L st S => V MX2_calculate h 16 L st S Q) 0) : V MX2_calculate h 15 L st S Q :=
  v_aload_n dX2_calculate_15 rfl (fun L st S k => k) k
theorem k_X2_calculate_16 {h : Nat} {L : LVs} {st : List AV} {S : ST} {Q Q' : Option AV → ST → Prop} {j : Nat} (hC : Ct MX2_pop h [vR 2 j] S Q') (k : ∀ (r : Option AV) (S' : ST), Q' r S' → V MX2_calculate (h + 1) 19 L (r.toList ++ st) S' Q) (hj : j < NI 2) (hw : wid st ≤ 8) : V MX2_calculate (h + 1) 16 L (vR 2 j :: st) S Q :=
  v_callV (M' := MX2_pop) (c := 2) (As := []) dX2_calculate_16 ml_X2_138 im_X2_pop se_X2_pop in_X2 cd_X2_pop rfl LY_2 np_X2_pop (by decide) hw hj hC k
theorem b_X2_calculate_19 {h : Nat} {L : LVs} {st : List AV} {S : ST} {Q : Option AV → ST → Prop} (k : o_ls L st S (fun L st S => o_ll L st S (fun L st S => o_lc L st S (fun L st S => o_lcmp L st S (fun L st S => t_1 L st S (fun x => x = nI 0) (fun L st S => V MX2_calculate h 38 L st S Q) (fun L st S => V MX2_calculate h 30 L st S Q))) (-4611686018427387904)) 4) 4) : V MX2_calculate h 19 L st S Q :=
  v_lstore dX2_calculate_19 (by decide) (fun L st S k => v_lload dX2_calculate_21 (fun L st S k => v_ldc2 dX2_calculate_23 kl_X2_120 (fun L st S k => v_lcmp dX2_calculate_26 (fun L st S k => w_if_eq dX2_calculate_27 (by decide) rfl k) k) k) k) k
theorem b_X2_calculate_30 {h : Nat} {L : LVs} {st : List AV} {S : ST} {Q : Option AV → ST → Prop} (k : o_ll L st S (fun L st S => o_lc L st S (fun L st S => o_lcmp L st S (fun L st S => t_1 L st S (fun x => x = nI 0) (fun L st S => V MX2_calculate h 38 L st S Q) (fun L st S => V MX2_calculate h 46 L st S Q))) (-4611686018427387904)) 2) : V MX2_calculate h 30 L st S Q :=
  v_lload_n dX2_calculate_30 rfl (fun L st S k => v_ldc2 dX2_calculate_31 kl_X2_120 (fun L st S k => v_lcmp dX2_calculate_34 (fun L st S k => w_if_ne dX2_calculate_35 (by decide) rfl k) k) k) k
theorem b_X2_calculate_38 {h : Nat} {L : LVs} {st : List AV} {S : ST} {Q : Option AV → ST → Prop} (k : o_al L st S (fun L st S => o_lc L st S (fun L st S => V MX2_calculate h 42 L st S Q) (-4611686018427387904)) 0) : V MX2_calculate h 38 L st S Q :=
  v_aload_n dX2_calculate_38 rfl (fun L st S k => v_ldc2 dX2_calculate_39 kl_X2_120 (fun L st S k => k) k) k
theorem k_X2_calculate_42 {h : Nat} {L : LVs} {st : List AV} {S : ST} {Q Q' : Option AV → ST → Prop} {j : Nat} {a0 : AV} (hC : Ct MX2_push h [vR 2 j, a0] S Q') (k : ∀ (r : Option AV) (S' : ST), Q' r S' → V MX2_calculate (h + 1) 45 L (r.toList ++ st) S' Q) (hj : j < NI 2) (hw : wid st ≤ 8) : V MX2_calculate (h + 1) 42 L (a0 :: vR 2 j :: st) S Q :=
  v_callV (M' := MX2_push) (c := 2) (As := [a0]) dX2_calculate_42 ml_X2_122 im_X2_push se_X2_push in_X2 cd_X2_push rfl LY_2 np_X2_push (by decide) hw hj hC k
theorem b_X2_calculate_45 {h : Nat} {L : LVs} {st : List AV} {S : ST} {Q : Option AV → ST → Prop} (k : t_vr st S Q) : V MX2_calculate h 45 L st S Q :=
  w_vr dX2_calculate_45 rfl k
theorem b_X2_calculate_46 {h : Nat} {L : LVs} {st : List AV} {S : ST} {Q : Option AV → ST → Prop} (k : o_il L st S (fun L st S => o_c L st S (fun L st S => t_2 L st S (fun x y => x = y) (fun L st S => V MX2_calculate h 52 L st S Q) (fun L st S => V MX2_calculate h 66 L st S Q)) (nI 10)) 1) : V MX2_calculate h 46 L st S Q :=
  v_iload_n dX2_calculate_46 rfl (fun L st S k => v_bipush dX2_calculate_47 (by decide) (fun L st S k => w_icmp_ne dX2_calculate_49 (by decide) rfl k) k) k
theorem b_X2_calculate_52 {h : Nat} {L : LVs} {st : List AV} {S : ST} {Q : Option AV → ST → Prop} (k : o_ll L st S (fun L st S => o_lc L st S (fun L st S => o_lcmp L st S (fun L st S => t_1 L st S (fun x => x = nI 0) (fun L st S => V MX2_calculate h 58 L st S Q) (fun L st S => V MX2_calculate h 66 L st S Q))) (lN 0)) 2) : V MX2_calculate h 52 L st S Q :=
  v_lload_n dX2_calculate_52 rfl (fun L st S k => v_lconst dX2_calculate_53 (by decide) (fun L st S k => v_lcmp dX2_calculate_54 (fun L st S k => w_if_ne dX2_calculate_55 (by decide) rfl k) k) k) k
theorem b_X2_calculate_58 {h : Nat} {L : LVs} {st : List AV} {S : ST} {Q : Option AV → ST → Prop} (k : o_al L st S (fun L st S => o_c L st S (fun L st S => V MX2_calculate h 62 L st S Q) (-1004)) 0) : V MX2_calculate h 58 L st S Q :=
  v_aload_n dX2_calculate_58 rfl (fun L st S k => v_sipush dX2_calculate_59 (by decide) (fun L st S k => k) k) k
theorem k_X2_calculate_62 {h : Nat} {L : LVs} {st : List AV} {S : ST} {Q Q' : Option AV → ST → Prop} {j : Nat} {a0 : AV} (hC : Ct MX2_fail h [vR 2 j, a0] S Q') (k : ∀ (r : Option AV) (S' : ST), Q' r S' → V MX2_calculate (h + 1) 65 L (r.toList ++ st) S' Q) (hj : j < NI 2) (hw : wid st ≤ 8) : V MX2_calculate (h + 1) 62 L (a0 :: vR 2 j :: st) S Q :=
  v_callV (M' := MX2_fail) (c := 2) (As := [a0]) dX2_calculate_62 ml_X2_142 im_X2_fail se_X2_fail in_X2 cd_X2_fail rfl LY_2 np_X2_fail (by decide) hw hj hC k
theorem b_X2_calculate_65 {h : Nat} {L : LVs} {st : List AV} {S : ST} {Q : Option AV → ST → Prop} (k : t_vr st S Q) : V MX2_calculate h 65 L st S Q :=
  w_vr dX2_calculate_65 rfl k
theorem b_X2_calculate_66 {h : Nat} {L : LVs} {st : List AV} {S : ST} {Q : Option AV → ST → Prop} (k : o_il L st S (fun L st S => o_ll L st S (fun L st S => o_ll L st S (fun L st S => V MX2_calculate h 70 L st S Q) 2) 4) 1) : V MX2_calculate h 66 L st S Q :=
  v_iload_n dX2_calculate_66 rfl (fun L st S k => v_lload dX2_calculate_67 (fun L st S k => v_lload_n dX2_calculate_69 rfl (fun L st S k => k) k) k) k
theorem k_X2_calculate_70 {h : Nat} {L : LVs} {st : List AV} {S : ST} {Q Q' : Option AV → ST → Prop} {a0 a1 a2 : AV} (hC : Ct MX2_calculated h [a0, a1, a2] S Q') (k : ∀ (r : Option AV) (S' : ST), Q' r S' → V MX2_calculate (h + 1) 73 L (r.toList ++ st) S' Q) (hw : wid st ≤ 8) : V MX2_calculate (h + 1) 70 L (a2 :: a1 :: a0 :: st) S Q :=
  v_callS (M' := MX2_calculated) (As := [a0, a1, a2]) dX2_calculate_70 ml_X2_145 sm_X2_calculated in_X2 cd_X2_calculated ⟨rfl, np_X2_calculated⟩ (by decide) hw hC k
theorem b_X2_calculate_73 {h : Nat} {L : LVs} {st : List AV} {S : ST} {Q : Option AV → ST → Prop} (k : o_ls L st S (fun L st S => o_ll L st S (fun L st S => V MX2_calculate h 77 L st S Q) 6) 6) : V MX2_calculate h 73 L st S Q :=
  v_lstore dX2_calculate_73 (by decide) (fun L st S k => v_lload dX2_calculate_75 (fun L st S k => k) k) k
theorem k_X2_calculate_77 {h : Nat} {L : LVs} {st : List AV} {S : ST} {Q Q' : Option AV → ST → Prop} {a0 : AV} (hC : Ct MX2_fits h [a0] S Q') (k : ∀ (r : Option AV) (S' : ST), Q' r S' → V MX2_calculate (h + 1) 80 L (r.toList ++ st) S' Q) (hw : wid st ≤ 8) : V MX2_calculate (h + 1) 77 L (a0 :: st) S Q :=
  v_callS (M' := MX2_fits) (As := [a0]) dX2_calculate_77 ml_X2_149 sm_X2_fits in_X2 cd_X2_fits ⟨rfl, np_X2_fits⟩ (by decide) hw hC k
theorem b_X2_calculate_80 {h : Nat} {L : LVs} {st : List AV} {S : ST} {Q : Option AV → ST → Prop} (k : t_1 L st S (fun x => x = nI 0) (fun L st S => V MX2_calculate h 83 L st S Q) (fun L st S => V MX2_calculate h 91 L st S Q)) : V MX2_calculate h 80 L st S Q :=
  w_if_ne dX2_calculate_80 (by decide) rfl k
theorem b_X2_calculate_83 {h : Nat} {L : LVs} {st : List AV} {S : ST} {Q : Option AV → ST → Prop} (k : o_al L st S (fun L st S => o_c L st S (fun L st S => V MX2_calculate h 87 L st S Q) (-1005)) 0) : V MX2_calculate h 83 L st S Q :=
  v_aload_n dX2_calculate_83 rfl (fun L st S k => v_sipush dX2_calculate_84 (by decide) (fun L st S k => k) k) k
theorem k_X2_calculate_87 {h : Nat} {L : LVs} {st : List AV} {S : ST} {Q Q' : Option AV → ST → Prop} {j : Nat} {a0 : AV} (hC : Ct MX2_fail h [vR 2 j, a0] S Q') (k : ∀ (r : Option AV) (S' : ST), Q' r S' → V MX2_calculate (h + 1) 90 L (r.toList ++ st) S' Q) (hj : j < NI 2) (hw : wid st ≤ 8) : V MX2_calculate (h + 1) 87 L (a0 :: vR 2 j :: st) S Q :=
  v_callV (M' := MX2_fail) (c := 2) (As := [a0]) dX2_calculate_87 ml_X2_142 im_X2_fail se_X2_fail in_X2 cd_X2_fail rfl LY_2 np_X2_fail (by decide) hw hj hC k
theorem b_X2_calculate_90 {h : Nat} {L : LVs} {st : List AV} {S : ST} {Q : Option AV → ST → Prop} (k : t_vr st S Q) : V MX2_calculate h 90 L st S Q :=
  w_vr dX2_calculate_90 rfl k
theorem b_X2_calculate_91 {h : Nat} {L : LVs} {st : List AV} {S : ST} {Q : Option AV → ST → Prop} (k : o_al L st S (fun L st S => o_ll L st S (fun L st S => V MX2_calculate h 94 L st S Q) 6) 0) : V MX2_calculate h 91 L st S Q :=
  v_aload_n dX2_calculate_91 rfl (fun L st S k => v_lload dX2_calculate_92 (fun L st S k => k) k) k
theorem k_X2_calculate_94 {h : Nat} {L : LVs} {st : List AV} {S : ST} {Q Q' : Option AV → ST → Prop} {j : Nat} {a0 : AV} (hC : Ct MX2_push h [vR 2 j, a0] S Q') (k : ∀ (r : Option AV) (S' : ST), Q' r S' → V MX2_calculate (h + 1) 97 L (r.toList ++ st) S' Q) (hj : j < NI 2) (hw : wid st ≤ 8) : V MX2_calculate (h + 1) 94 L (a0 :: vR 2 j :: st) S Q :=
  v_callV (M' := MX2_push) (c := 2) (As := [a0]) dX2_calculate_94 ml_X2_122 im_X2_push se_X2_push in_X2 cd_X2_push rfl LY_2 np_X2_push (by decide) hw hj hC k
theorem b_X2_calculate_97 {h : Nat} {L : LVs} {st : List AV} {S : ST} {Q : Option AV → ST → Prop} (k : t_vr st S Q) : V MX2_calculate h 97 L st S Q :=
  w_vr dX2_calculate_97 rfl k
-- QueryForge$Machine.calculated(IJJ)J
theorem dX2_calculated_0 : decode cX2_calculated 0 = .ok (.iload_n 0, 1) := by decide +kernel
theorem dX2_calculated_1 : decode cX2_calculated 1 = .ok (.tableswitch 53 7 10 #[31, 53, 35, 39], 31) := by decide +kernel
theorem dX2_calculated_32 : decode cX2_calculated 32 = .ok (.lload_n 1, 1) := by decide +kernel
theorem dX2_calculated_33 : decode cX2_calculated 33 = .ok (.lload_n 3, 1) := by decide +kernel
theorem dX2_calculated_34 : decode cX2_calculated 34 = .ok (.ladd, 1) := by decide +kernel
theorem dX2_calculated_35 : decode cX2_calculated 35 = .ok (.lreturn, 1) := by decide +kernel
theorem dX2_calculated_36 : decode cX2_calculated 36 = .ok (.lload_n 1, 1) := by decide +kernel
theorem dX2_calculated_37 : decode cX2_calculated 37 = .ok (.lload_n 3, 1) := by decide +kernel
theorem dX2_calculated_38 : decode cX2_calculated 38 = .ok (.lmul, 1) := by decide +kernel
theorem dX2_calculated_39 : decode cX2_calculated 39 = .ok (.lreturn, 1) := by decide +kernel
theorem dX2_calculated_40 : decode cX2_calculated 40 = .ok (.lload_n 3, 1) := by decide +kernel
theorem dX2_calculated_41 : decode cX2_calculated 41 = .ok (.lconst 0, 1) := by decide +kernel
theorem dX2_calculated_42 : decode cX2_calculated 42 = .ok (.lcmp, 1) := by decide +kernel
theorem dX2_calculated_43 : decode cX2_calculated 43 = .ok (.ifCond .ne 7, 3) := by decide +kernel
theorem dX2_calculated_46 : decode cX2_calculated 46 = .ok (.lconst 0, 1) := by decide +kernel
theorem dX2_calculated_47 : decode cX2_calculated 47 = .ok (.goto 6, 3) := by decide +kernel
theorem dX2_calculated_50 : decode cX2_calculated 50 = .ok (.lload_n 1, 1) := by decide +kernel
theorem dX2_calculated_51 : decode cX2_calculated 51 = .ok (.lload_n 3, 1) := by decide +kernel
theorem dX2_calculated_52 : decode cX2_calculated 52 = .ok (.ldiv, 1) := by decide +kernel
theorem dX2_calculated_53 : decode cX2_calculated 53 = .ok (.lreturn, 1) := by decide +kernel
theorem dX2_calculated_54 : decode cX2_calculated 54 = .ok (.lload_n 1, 1) := by decide +kernel
theorem dX2_calculated_55 : decode cX2_calculated 55 = .ok (.lload_n 3, 1) := by decide +kernel
theorem dX2_calculated_56 : decode cX2_calculated 56 = .ok (.lsub, 1) := by decide +kernel
theorem dX2_calculated_57 : decode cX2_calculated 57 = .ok (.lreturn, 1) := by decide +kernel
theorem b_X2_calculated_0 {h : Nat} {L : LVs} {st : List AV} {S : ST} {Q : Option AV → ST → Prop} (k : o_il L st S (fun L st S => t_sw L st S [((nI 7), fun L st S => V MX2_calculated h 32 L st S Q), ((nI 8), fun L st S => V MX2_calculated h 54 L st S Q), ((nI 9), fun L st S => V MX2_calculated h 36 L st S Q), ((nI 10), fun L st S => V MX2_calculated h 40 L st S Q)] (fun L st S => V MX2_calculated h 54 L st S Q)) 0) : V MX2_calculated h 0 L st S Q :=
  v_iload_n dX2_calculated_0 rfl (fun L st S k => w_tsw [((nI 7), 32), ((nI 8), 54), ((nI 9), 36), ((nI 10), 40)] dX2_calculated_1 (n := 4) (by decide) rfl (by decide) (by decide) (by decide) k) k
theorem b_X2_calculated_32 {h : Nat} {L : LVs} {st : List AV} {S : ST} {Q : Option AV → ST → Prop} (k : o_ll L st S (fun L st S => o_ll L st S (fun L st S => o_ladd L st S (fun L st S => t_lr st S Q)) 3) 1) : V MX2_calculated h 32 L st S Q :=
  v_lload_n dX2_calculated_32 rfl (fun L st S k => v_lload_n dX2_calculated_33 rfl (fun L st S k => v_ladd dX2_calculated_34 (fun L st S k => w_lr dX2_calculated_35 rfl k) k) k) k
theorem b_X2_calculated_36 {h : Nat} {L : LVs} {st : List AV} {S : ST} {Q : Option AV → ST → Prop} (k : o_ll L st S (fun L st S => o_ll L st S (fun L st S => o_lmul L st S (fun L st S => t_lr st S Q)) 3) 1) : V MX2_calculated h 36 L st S Q :=
  v_lload_n dX2_calculated_36 rfl (fun L st S k => v_lload_n dX2_calculated_37 rfl (fun L st S k => v_lmul dX2_calculated_38 (fun L st S k => w_lr dX2_calculated_39 rfl k) k) k) k
theorem b_X2_calculated_40 {h : Nat} {L : LVs} {st : List AV} {S : ST} {Q : Option AV → ST → Prop} (k : o_ll L st S (fun L st S => o_lc L st S (fun L st S => o_lcmp L st S (fun L st S => t_1 L st S (fun x => x = nI 0) (fun L st S => V MX2_calculated h 46 L st S Q) (fun L st S => V MX2_calculated h 50 L st S Q))) (lN 0)) 3) : V MX2_calculated h 40 L st S Q :=
  v_lload_n dX2_calculated_40 rfl (fun L st S k => v_lconst dX2_calculated_41 (by decide) (fun L st S k => v_lcmp dX2_calculated_42 (fun L st S k => w_if_ne dX2_calculated_43 (by decide) rfl k) k) k) k
theorem b_X2_calculated_46 {h : Nat} {L : LVs} {st : List AV} {S : ST} {Q : Option AV → ST → Prop} (k : o_lc L st S (fun L st S => V MX2_calculated h 53 L st S Q) (lN 0)) : V MX2_calculated h 46 L st S Q :=
  v_lconst dX2_calculated_46 (by decide) (fun L st S k => v_goto dX2_calculated_47 (by decide) k) k
theorem b_X2_calculated_50 {h : Nat} {L : LVs} {st : List AV} {S : ST} {Q : Option AV → ST → Prop} (k : o_ll L st S (fun L st S => o_ll L st S (fun L st S => o_ldiv L st S (fun L st S => V MX2_calculated h 53 L st S Q)) 3) 1) : V MX2_calculated h 50 L st S Q :=
  v_lload_n dX2_calculated_50 rfl (fun L st S k => v_lload_n dX2_calculated_51 rfl (fun L st S k => v_ldiv dX2_calculated_52 (fun L st S k => k) k) k) k
theorem b_X2_calculated_53 {h : Nat} {L : LVs} {st : List AV} {S : ST} {Q : Option AV → ST → Prop} (k : t_lr st S Q) : V MX2_calculated h 53 L st S Q :=
  w_lr dX2_calculated_53 rfl k
theorem b_X2_calculated_54 {h : Nat} {L : LVs} {st : List AV} {S : ST} {Q : Option AV → ST → Prop} (k : o_ll L st S (fun L st S => o_ll L st S (fun L st S => o_lsub L st S (fun L st S => t_lr st S Q)) 3) 1) : V MX2_calculated h 54 L st S Q :=
  v_lload_n dX2_calculated_54 rfl (fun L st S k => v_lload_n dX2_calculated_55 rfl (fun L st S k => v_lsub dX2_calculated_56 (fun L st S k => w_lr dX2_calculated_57 rfl k) k) k) k
-- QueryForge$Machine.compare(I)V
theorem dX2_compare_0 : decode cX2_compare 0 = .ok (.aload_n 0, 1) := by decide +kernel
theorem dX2_compare_1 : decode cX2_compare 1 = .ok (.invokevirtual 138, 3) := by decide +kernel
theorem dX2_compare_4 : decode cX2_compare 4 = .ok (.lstore_n 2, 1) := by decide +kernel
theorem dX2_compare_5 : decode cX2_compare 5 = .ok (.aload_n 0, 1) := by decide +kernel
theorem dX2_compare_6 : decode cX2_compare 6 = .ok (.invokevirtual 138, 3) := by decide +kernel
theorem dX2_compare_9 : decode cX2_compare 9 = .ok (.lstore 4, 2) := by decide +kernel
theorem dX2_compare_11 : decode cX2_compare 11 = .ok (.lload 4, 2) := by decide +kernel
theorem dX2_compare_13 : decode cX2_compare 13 = .ok (.ldc2_w 120, 3) := by decide +kernel
theorem dX2_compare_16 : decode cX2_compare 16 = .ok (.lcmp, 1) := by decide +kernel
theorem dX2_compare_17 : decode cX2_compare 17 = .ok (.ifCond .eq 11, 3) := by decide +kernel
theorem dX2_compare_20 : decode cX2_compare 20 = .ok (.lload_n 2, 1) := by decide +kernel
theorem dX2_compare_21 : decode cX2_compare 21 = .ok (.ldc2_w 120, 3) := by decide +kernel
theorem dX2_compare_24 : decode cX2_compare 24 = .ok (.lcmp, 1) := by decide +kernel
theorem dX2_compare_25 : decode cX2_compare 25 = .ok (.ifCond .ne 7, 3) := by decide +kernel
theorem dX2_compare_28 : decode cX2_compare 28 = .ok (.iconst 1, 1) := by decide +kernel
theorem dX2_compare_29 : decode cX2_compare 29 = .ok (.goto 4, 3) := by decide +kernel
theorem dX2_compare_32 : decode cX2_compare 32 = .ok (.iconst 0, 1) := by decide +kernel
theorem dX2_compare_33 : decode cX2_compare 33 = .ok (.istore 6, 2) := by decide +kernel
theorem dX2_compare_35 : decode cX2_compare 35 = .ok (.aload_n 0, 1) := by decide +kernel
theorem dX2_compare_36 : decode cX2_compare 36 = .ok (.iload 6, 2) := by decide +kernel
theorem dX2_compare_38 : decode cX2_compare 38 = .ok (.ifCond .eq 7, 3) := by decide +kernel
theorem dX2_compare_41 : decode cX2_compare 41 = .ok (.lconst 1, 1) := by decide +kernel
theorem dX2_compare_42 : decode cX2_compare 42 = .ok (.goto 20, 3) := by decide +kernel
theorem dX2_compare_45 : decode cX2_compare 45 = .ok (.iload_n 1, 1) := by decide +kernel
theorem dX2_compare_46 : decode cX2_compare 46 = .ok (.lload 4, 2) := by decide +kernel
theorem dX2_compare_48 : decode cX2_compare 48 = .ok (.lload_n 2, 1) := by decide +kernel
theorem dX2_compare_49 : decode cX2_compare 49 = .ok (.invokestatic 153, 3) := by decide +kernel
theorem dX2_compare_52 : decode cX2_compare 52 = .ok (.ifCond .eq 9, 3) := by decide +kernel
theorem dX2_compare_55 : decode cX2_compare 55 = .ok (.ldc2_w 157, 3) := by decide +kernel
theorem dX2_compare_58 : decode cX2_compare 58 = .ok (.goto 4, 3) := by decide +kernel
theorem dX2_compare_61 : decode cX2_compare 61 = .ok (.lconst 0, 1) := by decide +kernel
theorem dX2_compare_62 : decode cX2_compare 62 = .ok (.invokevirtual 122, 3) := by decide +kernel
theorem dX2_compare_65 : decode cX2_compare 65 = .ok (.return_, 1) := by decide +kernel
theorem b_X2_compare_0 {h : Nat} {L : LVs} {st : List AV} {S : ST} {Q : Option AV → ST → Prop} (k : o_al L st S (fun L st S => V MX2_compare h 1 L st S Q) 0) : V MX2_compare h 0 L st S Q :=
  v_aload_n dX2_compare_0 rfl (fun L st S k => k) k
theorem k_X2_compare_1 {h : Nat} {L : LVs} {st : List AV} {S : ST} {Q Q' : Option AV → ST → Prop} {j : Nat} (hC : Ct MX2_pop h [vR 2 j] S Q') (k : ∀ (r : Option AV) (S' : ST), Q' r S' → V MX2_compare (h + 1) 4 L (r.toList ++ st) S' Q) (hj : j < NI 2) (hw : wid st ≤ 8) : V MX2_compare (h + 1) 1 L (vR 2 j :: st) S Q :=
  v_callV (M' := MX2_pop) (c := 2) (As := []) dX2_compare_1 ml_X2_138 im_X2_pop se_X2_pop in_X2 cd_X2_pop rfl LY_2 np_X2_pop (by decide) hw hj hC k
theorem b_X2_compare_4 {h : Nat} {L : LVs} {st : List AV} {S : ST} {Q : Option AV → ST → Prop} (k : o_ls L st S (fun L st S => o_al L st S (fun L st S => V MX2_compare h 6 L st S Q) 0) 2) : V MX2_compare h 4 L st S Q :=
  v_lstore_n dX2_compare_4 rfl (by decide) (fun L st S k => v_aload_n dX2_compare_5 rfl (fun L st S k => k) k) k
theorem k_X2_compare_6 {h : Nat} {L : LVs} {st : List AV} {S : ST} {Q Q' : Option AV → ST → Prop} {j : Nat} (hC : Ct MX2_pop h [vR 2 j] S Q') (k : ∀ (r : Option AV) (S' : ST), Q' r S' → V MX2_compare (h + 1) 9 L (r.toList ++ st) S' Q) (hj : j < NI 2) (hw : wid st ≤ 8) : V MX2_compare (h + 1) 6 L (vR 2 j :: st) S Q :=
  v_callV (M' := MX2_pop) (c := 2) (As := []) dX2_compare_6 ml_X2_138 im_X2_pop se_X2_pop in_X2 cd_X2_pop rfl LY_2 np_X2_pop (by decide) hw hj hC k
theorem b_X2_compare_9 {h : Nat} {L : LVs} {st : List AV} {S : ST} {Q : Option AV → ST → Prop} (k : o_ls L st S (fun L st S => o_ll L st S (fun L st S => o_lc L st S (fun L st S => o_lcmp L st S (fun L st S => t_1 L st S (fun x => x = nI 0) (fun L st S => V MX2_compare h 28 L st S Q) (fun L st S => V MX2_compare h 20 L st S Q))) (-4611686018427387904)) 4) 4) : V MX2_compare h 9 L st S Q :=
  v_lstore dX2_compare_9 (by decide) (fun L st S k => v_lload dX2_compare_11 (fun L st S k => v_ldc2 dX2_compare_13 kl_X2_120 (fun L st S k => v_lcmp dX2_compare_16 (fun L st S k => w_if_eq dX2_compare_17 (by decide) rfl k) k) k) k) k
theorem b_X2_compare_20 {h : Nat} {L : LVs} {st : List AV} {S : ST} {Q : Option AV → ST → Prop} (k : o_ll L st S (fun L st S => o_lc L st S (fun L st S => o_lcmp L st S (fun L st S => t_1 L st S (fun x => x = nI 0) (fun L st S => V MX2_compare h 28 L st S Q) (fun L st S => V MX2_compare h 32 L st S Q))) (-4611686018427387904)) 2) : V MX2_compare h 20 L st S Q :=
  v_lload_n dX2_compare_20 rfl (fun L st S k => v_ldc2 dX2_compare_21 kl_X2_120 (fun L st S k => v_lcmp dX2_compare_24 (fun L st S k => w_if_ne dX2_compare_25 (by decide) rfl k) k) k) k
theorem b_X2_compare_28 {h : Nat} {L : LVs} {st : List AV} {S : ST} {Q : Option AV → ST → Prop} (k : o_c L st S (fun L st S => V MX2_compare h 33 L st S Q) (nI 1)) : V MX2_compare h 28 L st S Q :=
  v_iconst dX2_compare_28 (by decide) (fun L st S k => v_goto dX2_compare_29 (by decide) k) k
theorem b_X2_compare_32 {h : Nat} {L : LVs} {st : List AV} {S : ST} {Q : Option AV → ST → Prop} (k : o_c L st S (fun L st S => V MX2_compare h 33 L st S Q) (nI 0)) : V MX2_compare h 32 L st S Q :=
  v_iconst dX2_compare_32 (by decide) (fun L st S k => k) k
theorem b_X2_compare_33 {h : Nat} {L : LVs} {st : List AV} {S : ST} {Q : Option AV → ST → Prop} (k : o_is L st S (fun L st S => o_al L st S (fun L st S => o_il L st S (fun L st S => t_1 L st S (fun x => x = nI 0) (fun L st S => V MX2_compare h 45 L st S Q) (fun L st S => V MX2_compare h 41 L st S Q)) 6) 0) 6) : V MX2_compare h 33 L st S Q :=
  v_istore dX2_compare_33 (by decide) (fun L st S k => v_aload_n dX2_compare_35 rfl (fun L st S k => v_iload dX2_compare_36 (fun L st S k => w_if_eq dX2_compare_38 (by decide) rfl k) k) k) k
theorem b_X2_compare_41 {h : Nat} {L : LVs} {st : List AV} {S : ST} {Q : Option AV → ST → Prop} (k : o_lc L st S (fun L st S => V MX2_compare h 62 L st S Q) (lN 1)) : V MX2_compare h 41 L st S Q :=
  v_lconst dX2_compare_41 (by decide) (fun L st S k => v_goto dX2_compare_42 (by decide) k) k
theorem b_X2_compare_45 {h : Nat} {L : LVs} {st : List AV} {S : ST} {Q : Option AV → ST → Prop} (k : o_il L st S (fun L st S => o_ll L st S (fun L st S => o_ll L st S (fun L st S => V MX2_compare h 49 L st S Q) 2) 4) 1) : V MX2_compare h 45 L st S Q :=
  v_iload_n dX2_compare_45 rfl (fun L st S k => v_lload dX2_compare_46 (fun L st S k => v_lload_n dX2_compare_48 rfl (fun L st S k => k) k) k) k
theorem k_X2_compare_49 {h : Nat} {L : LVs} {st : List AV} {S : ST} {Q Q' : Option AV → ST → Prop} {a0 a1 a2 : AV} (hC : Ct MX2_holds h [a0, a1, a2] S Q') (k : ∀ (r : Option AV) (S' : ST), Q' r S' → V MX2_compare (h + 1) 52 L (r.toList ++ st) S' Q) (hw : wid st ≤ 8) : V MX2_compare (h + 1) 49 L (a2 :: a1 :: a0 :: st) S Q :=
  v_callS (M' := MX2_holds) (As := [a0, a1, a2]) dX2_compare_49 ml_X2_153 sm_X2_holds in_X2 cd_X2_holds ⟨rfl, np_X2_holds⟩ (by decide) hw hC k
theorem b_X2_compare_52 {h : Nat} {L : LVs} {st : List AV} {S : ST} {Q : Option AV → ST → Prop} (k : t_1 L st S (fun x => x = nI 0) (fun L st S => V MX2_compare h 61 L st S Q) (fun L st S => V MX2_compare h 55 L st S Q)) : V MX2_compare h 52 L st S Q :=
  w_if_eq dX2_compare_52 (by decide) rfl k
theorem b_X2_compare_55 {h : Nat} {L : LVs} {st : List AV} {S : ST} {Q : Option AV → ST → Prop} (k : o_lc L st S (fun L st S => V MX2_compare h 62 L st S Q) (lN 2)) : V MX2_compare h 55 L st S Q :=
  v_ldc2 dX2_compare_55 kl_X2_157 (fun L st S k => v_goto dX2_compare_58 (by decide) k) k
theorem b_X2_compare_61 {h : Nat} {L : LVs} {st : List AV} {S : ST} {Q : Option AV → ST → Prop} (k : o_lc L st S (fun L st S => V MX2_compare h 62 L st S Q) (lN 0)) : V MX2_compare h 61 L st S Q :=
  v_lconst dX2_compare_61 (by decide) (fun L st S k => k) k
theorem k_X2_compare_62 {h : Nat} {L : LVs} {st : List AV} {S : ST} {Q Q' : Option AV → ST → Prop} {j : Nat} {a0 : AV} (hC : Ct MX2_push h [vR 2 j, a0] S Q') (k : ∀ (r : Option AV) (S' : ST), Q' r S' → V MX2_compare (h + 1) 65 L (r.toList ++ st) S' Q) (hj : j < NI 2) (hw : wid st ≤ 8) : V MX2_compare (h + 1) 62 L (a0 :: vR 2 j :: st) S Q :=
  v_callV (M' := MX2_push) (c := 2) (As := [a0]) dX2_compare_62 ml_X2_122 im_X2_push se_X2_push in_X2 cd_X2_push rfl LY_2 np_X2_push (by decide) hw hj hC k
theorem b_X2_compare_65 {h : Nat} {L : LVs} {st : List AV} {S : ST} {Q : Option AV → ST → Prop} (k : t_vr st S Q) : V MX2_compare h 65 L st S Q :=
  w_vr dX2_compare_65 rfl k
-- QueryForge$Machine.holds(IJJ)Z
theorem dX2_holds_0 : decode cX2_holds 0 = .ok (.iload_n 0, 1) := by decide +kernel
theorem dX2_holds_1 : decode cX2_holds 1 = .ok (.tableswitch 95 11 15 #[35, 47, 59, 71, 83], 35) := by decide +kernel
theorem dX2_holds_36 : decode cX2_holds 36 = .ok (.lload_n 1, 1) := by decide +kernel
theorem dX2_holds_37 : decode cX2_holds 37 = .ok (.lload_n 3, 1) := by decide +kernel
theorem dX2_holds_38 : decode cX2_holds 38 = .ok (.lcmp, 1) := by decide +kernel
theorem dX2_holds_39 : decode cX2_holds 39 = .ok (.ifCond .ne 7, 3) := by decide +kernel
theorem dX2_holds_42 : decode cX2_holds 42 = .ok (.iconst 1, 1) := by decide +kernel
theorem dX2_holds_43 : decode cX2_holds 43 = .ok (.goto 4, 3) := by decide +kernel
theorem dX2_holds_46 : decode cX2_holds 46 = .ok (.iconst 0, 1) := by decide +kernel
theorem dX2_holds_47 : decode cX2_holds 47 = .ok (.ireturn, 1) := by decide +kernel
theorem dX2_holds_48 : decode cX2_holds 48 = .ok (.lload_n 1, 1) := by decide +kernel
theorem dX2_holds_49 : decode cX2_holds 49 = .ok (.lload_n 3, 1) := by decide +kernel
theorem dX2_holds_50 : decode cX2_holds 50 = .ok (.lcmp, 1) := by decide +kernel
theorem dX2_holds_51 : decode cX2_holds 51 = .ok (.ifCond .eq 7, 3) := by decide +kernel
theorem dX2_holds_54 : decode cX2_holds 54 = .ok (.iconst 1, 1) := by decide +kernel
theorem dX2_holds_55 : decode cX2_holds 55 = .ok (.goto 4, 3) := by decide +kernel
theorem dX2_holds_58 : decode cX2_holds 58 = .ok (.iconst 0, 1) := by decide +kernel
theorem dX2_holds_59 : decode cX2_holds 59 = .ok (.ireturn, 1) := by decide +kernel
theorem dX2_holds_60 : decode cX2_holds 60 = .ok (.lload_n 1, 1) := by decide +kernel
theorem dX2_holds_61 : decode cX2_holds 61 = .ok (.lload_n 3, 1) := by decide +kernel
theorem dX2_holds_62 : decode cX2_holds 62 = .ok (.lcmp, 1) := by decide +kernel
theorem dX2_holds_63 : decode cX2_holds 63 = .ok (.ifCond .ge 7, 3) := by decide +kernel
theorem dX2_holds_66 : decode cX2_holds 66 = .ok (.iconst 1, 1) := by decide +kernel
theorem dX2_holds_67 : decode cX2_holds 67 = .ok (.goto 4, 3) := by decide +kernel
theorem dX2_holds_70 : decode cX2_holds 70 = .ok (.iconst 0, 1) := by decide +kernel
theorem dX2_holds_71 : decode cX2_holds 71 = .ok (.ireturn, 1) := by decide +kernel
theorem dX2_holds_72 : decode cX2_holds 72 = .ok (.lload_n 1, 1) := by decide +kernel
theorem dX2_holds_73 : decode cX2_holds 73 = .ok (.lload_n 3, 1) := by decide +kernel
theorem dX2_holds_74 : decode cX2_holds 74 = .ok (.lcmp, 1) := by decide +kernel
theorem dX2_holds_75 : decode cX2_holds 75 = .ok (.ifCond .le 7, 3) := by decide +kernel
theorem dX2_holds_78 : decode cX2_holds 78 = .ok (.iconst 1, 1) := by decide +kernel
theorem dX2_holds_79 : decode cX2_holds 79 = .ok (.goto 4, 3) := by decide +kernel
theorem dX2_holds_82 : decode cX2_holds 82 = .ok (.iconst 0, 1) := by decide +kernel
theorem dX2_holds_83 : decode cX2_holds 83 = .ok (.ireturn, 1) := by decide +kernel
theorem dX2_holds_84 : decode cX2_holds 84 = .ok (.lload_n 1, 1) := by decide +kernel
theorem dX2_holds_85 : decode cX2_holds 85 = .ok (.lload_n 3, 1) := by decide +kernel
theorem dX2_holds_86 : decode cX2_holds 86 = .ok (.lcmp, 1) := by decide +kernel
theorem dX2_holds_87 : decode cX2_holds 87 = .ok (.ifCond .gt 7, 3) := by decide +kernel
theorem dX2_holds_90 : decode cX2_holds 90 = .ok (.iconst 1, 1) := by decide +kernel
theorem dX2_holds_91 : decode cX2_holds 91 = .ok (.goto 4, 3) := by decide +kernel
theorem dX2_holds_94 : decode cX2_holds 94 = .ok (.iconst 0, 1) := by decide +kernel
theorem dX2_holds_95 : decode cX2_holds 95 = .ok (.ireturn, 1) := by decide +kernel
theorem dX2_holds_96 : decode cX2_holds 96 = .ok (.lload_n 1, 1) := by decide +kernel
theorem dX2_holds_97 : decode cX2_holds 97 = .ok (.lload_n 3, 1) := by decide +kernel
theorem dX2_holds_98 : decode cX2_holds 98 = .ok (.lcmp, 1) := by decide +kernel
theorem dX2_holds_99 : decode cX2_holds 99 = .ok (.ifCond .lt 7, 3) := by decide +kernel
theorem dX2_holds_102 : decode cX2_holds 102 = .ok (.iconst 1, 1) := by decide +kernel
theorem dX2_holds_103 : decode cX2_holds 103 = .ok (.goto 4, 3) := by decide +kernel
theorem dX2_holds_106 : decode cX2_holds 106 = .ok (.iconst 0, 1) := by decide +kernel
theorem dX2_holds_107 : decode cX2_holds 107 = .ok (.ireturn, 1) := by decide +kernel
theorem b_X2_holds_0 {h : Nat} {L : LVs} {st : List AV} {S : ST} {Q : Option AV → ST → Prop} (k : o_il L st S (fun L st S => t_sw L st S [((nI 11), fun L st S => V MX2_holds h 36 L st S Q), ((nI 12), fun L st S => V MX2_holds h 48 L st S Q), ((nI 13), fun L st S => V MX2_holds h 60 L st S Q), ((nI 14), fun L st S => V MX2_holds h 72 L st S Q), ((nI 15), fun L st S => V MX2_holds h 84 L st S Q)] (fun L st S => V MX2_holds h 96 L st S Q)) 0) : V MX2_holds h 0 L st S Q :=
  v_iload_n dX2_holds_0 rfl (fun L st S k => w_tsw [((nI 11), 36), ((nI 12), 48), ((nI 13), 60), ((nI 14), 72), ((nI 15), 84)] dX2_holds_1 (n := 5) (by decide) rfl (by decide) (by decide) (by decide) k) k
theorem b_X2_holds_36 {h : Nat} {L : LVs} {st : List AV} {S : ST} {Q : Option AV → ST → Prop} (k : o_ll L st S (fun L st S => o_ll L st S (fun L st S => o_lcmp L st S (fun L st S => t_1 L st S (fun x => x = nI 0) (fun L st S => V MX2_holds h 42 L st S Q) (fun L st S => V MX2_holds h 46 L st S Q))) 3) 1) : V MX2_holds h 36 L st S Q :=
  v_lload_n dX2_holds_36 rfl (fun L st S k => v_lload_n dX2_holds_37 rfl (fun L st S k => v_lcmp dX2_holds_38 (fun L st S k => w_if_ne dX2_holds_39 (by decide) rfl k) k) k) k
theorem b_X2_holds_42 {h : Nat} {L : LVs} {st : List AV} {S : ST} {Q : Option AV → ST → Prop} (k : o_c L st S (fun L st S => V MX2_holds h 47 L st S Q) (nI 1)) : V MX2_holds h 42 L st S Q :=
  v_iconst dX2_holds_42 (by decide) (fun L st S k => v_goto dX2_holds_43 (by decide) k) k
theorem b_X2_holds_46 {h : Nat} {L : LVs} {st : List AV} {S : ST} {Q : Option AV → ST → Prop} (k : o_c L st S (fun L st S => V MX2_holds h 47 L st S Q) (nI 0)) : V MX2_holds h 46 L st S Q :=
  v_iconst dX2_holds_46 (by decide) (fun L st S k => k) k
theorem b_X2_holds_47 {h : Nat} {L : LVs} {st : List AV} {S : ST} {Q : Option AV → ST → Prop} (k : t_zr st S Q) : V MX2_holds h 47 L st S Q :=
  w_zr dX2_holds_47 rfl k
theorem b_X2_holds_48 {h : Nat} {L : LVs} {st : List AV} {S : ST} {Q : Option AV → ST → Prop} (k : o_ll L st S (fun L st S => o_ll L st S (fun L st S => o_lcmp L st S (fun L st S => t_1 L st S (fun x => x = nI 0) (fun L st S => V MX2_holds h 58 L st S Q) (fun L st S => V MX2_holds h 54 L st S Q))) 3) 1) : V MX2_holds h 48 L st S Q :=
  v_lload_n dX2_holds_48 rfl (fun L st S k => v_lload_n dX2_holds_49 rfl (fun L st S k => v_lcmp dX2_holds_50 (fun L st S k => w_if_eq dX2_holds_51 (by decide) rfl k) k) k) k
theorem b_X2_holds_54 {h : Nat} {L : LVs} {st : List AV} {S : ST} {Q : Option AV → ST → Prop} (k : o_c L st S (fun L st S => V MX2_holds h 59 L st S Q) (nI 1)) : V MX2_holds h 54 L st S Q :=
  v_iconst dX2_holds_54 (by decide) (fun L st S k => v_goto dX2_holds_55 (by decide) k) k
theorem b_X2_holds_58 {h : Nat} {L : LVs} {st : List AV} {S : ST} {Q : Option AV → ST → Prop} (k : o_c L st S (fun L st S => V MX2_holds h 59 L st S Q) (nI 0)) : V MX2_holds h 58 L st S Q :=
  v_iconst dX2_holds_58 (by decide) (fun L st S k => k) k
theorem b_X2_holds_59 {h : Nat} {L : LVs} {st : List AV} {S : ST} {Q : Option AV → ST → Prop} (k : t_zr st S Q) : V MX2_holds h 59 L st S Q :=
  w_zr dX2_holds_59 rfl k
theorem b_X2_holds_60 {h : Nat} {L : LVs} {st : List AV} {S : ST} {Q : Option AV → ST → Prop} (k : o_ll L st S (fun L st S => o_ll L st S (fun L st S => o_lcmp L st S (fun L st S => t_1 L st S (fun x => nI 0 ≤ x) (fun L st S => V MX2_holds h 70 L st S Q) (fun L st S => V MX2_holds h 66 L st S Q))) 3) 1) : V MX2_holds h 60 L st S Q :=
  v_lload_n dX2_holds_60 rfl (fun L st S k => v_lload_n dX2_holds_61 rfl (fun L st S k => v_lcmp dX2_holds_62 (fun L st S k => w_if_ge dX2_holds_63 (by decide) rfl k) k) k) k
theorem b_X2_holds_66 {h : Nat} {L : LVs} {st : List AV} {S : ST} {Q : Option AV → ST → Prop} (k : o_c L st S (fun L st S => V MX2_holds h 71 L st S Q) (nI 1)) : V MX2_holds h 66 L st S Q :=
  v_iconst dX2_holds_66 (by decide) (fun L st S k => v_goto dX2_holds_67 (by decide) k) k
theorem b_X2_holds_70 {h : Nat} {L : LVs} {st : List AV} {S : ST} {Q : Option AV → ST → Prop} (k : o_c L st S (fun L st S => V MX2_holds h 71 L st S Q) (nI 0)) : V MX2_holds h 70 L st S Q :=
  v_iconst dX2_holds_70 (by decide) (fun L st S k => k) k
theorem b_X2_holds_71 {h : Nat} {L : LVs} {st : List AV} {S : ST} {Q : Option AV → ST → Prop} (k : t_zr st S Q) : V MX2_holds h 71 L st S Q :=
  w_zr dX2_holds_71 rfl k
theorem b_X2_holds_72 {h : Nat} {L : LVs} {st : List AV} {S : ST} {Q : Option AV → ST → Prop} (k : o_ll L st S (fun L st S => o_ll L st S (fun L st S => o_lcmp L st S (fun L st S => t_1 L st S (fun x => x ≤ nI 0) (fun L st S => V MX2_holds h 82 L st S Q) (fun L st S => V MX2_holds h 78 L st S Q))) 3) 1) : V MX2_holds h 72 L st S Q :=
  v_lload_n dX2_holds_72 rfl (fun L st S k => v_lload_n dX2_holds_73 rfl (fun L st S k => v_lcmp dX2_holds_74 (fun L st S k => w_if_le dX2_holds_75 (by decide) rfl k) k) k) k
theorem b_X2_holds_78 {h : Nat} {L : LVs} {st : List AV} {S : ST} {Q : Option AV → ST → Prop} (k : o_c L st S (fun L st S => V MX2_holds h 83 L st S Q) (nI 1)) : V MX2_holds h 78 L st S Q :=
  v_iconst dX2_holds_78 (by decide) (fun L st S k => v_goto dX2_holds_79 (by decide) k) k
theorem b_X2_holds_82 {h : Nat} {L : LVs} {st : List AV} {S : ST} {Q : Option AV → ST → Prop} (k : o_c L st S (fun L st S => V MX2_holds h 83 L st S Q) (nI 0)) : V MX2_holds h 82 L st S Q :=
  v_iconst dX2_holds_82 (by decide) (fun L st S k => k) k
theorem b_X2_holds_83 {h : Nat} {L : LVs} {st : List AV} {S : ST} {Q : Option AV → ST → Prop} (k : t_zr st S Q) : V MX2_holds h 83 L st S Q :=
  w_zr dX2_holds_83 rfl k
theorem b_X2_holds_84 {h : Nat} {L : LVs} {st : List AV} {S : ST} {Q : Option AV → ST → Prop} (k : o_ll L st S (fun L st S => o_ll L st S (fun L st S => o_lcmp L st S (fun L st S => t_1 L st S (fun x => nI 0 < x) (fun L st S => V MX2_holds h 94 L st S Q) (fun L st S => V MX2_holds h 90 L st S Q))) 3) 1) : V MX2_holds h 84 L st S Q :=
  v_lload_n dX2_holds_84 rfl (fun L st S k => v_lload_n dX2_holds_85 rfl (fun L st S k => v_lcmp dX2_holds_86 (fun L st S k => w_if_gt dX2_holds_87 (by decide) rfl k) k) k) k
theorem b_X2_holds_90 {h : Nat} {L : LVs} {st : List AV} {S : ST} {Q : Option AV → ST → Prop} (k : o_c L st S (fun L st S => V MX2_holds h 95 L st S Q) (nI 1)) : V MX2_holds h 90 L st S Q :=
  v_iconst dX2_holds_90 (by decide) (fun L st S k => v_goto dX2_holds_91 (by decide) k) k
theorem b_X2_holds_94 {h : Nat} {L : LVs} {st : List AV} {S : ST} {Q : Option AV → ST → Prop} (k : o_c L st S (fun L st S => V MX2_holds h 95 L st S Q) (nI 0)) : V MX2_holds h 94 L st S Q :=
  v_iconst dX2_holds_94 (by decide) (fun L st S k => k) k
theorem b_X2_holds_95 {h : Nat} {L : LVs} {st : List AV} {S : ST} {Q : Option AV → ST → Prop} (k : t_zr st S Q) : V MX2_holds h 95 L st S Q :=
  w_zr dX2_holds_95 rfl k
theorem b_X2_holds_96 {h : Nat} {L : LVs} {st : List AV} {S : ST} {Q : Option AV → ST → Prop} (k : o_ll L st S (fun L st S => o_ll L st S (fun L st S => o_lcmp L st S (fun L st S => t_1 L st S (fun x => x < nI 0) (fun L st S => V MX2_holds h 106 L st S Q) (fun L st S => V MX2_holds h 102 L st S Q))) 3) 1) : V MX2_holds h 96 L st S Q :=
  v_lload_n dX2_holds_96 rfl (fun L st S k => v_lload_n dX2_holds_97 rfl (fun L st S k => v_lcmp dX2_holds_98 (fun L st S k => w_if_lt dX2_holds_99 (by decide) rfl k) k) k) k
theorem b_X2_holds_102 {h : Nat} {L : LVs} {st : List AV} {S : ST} {Q : Option AV → ST → Prop} (k : o_c L st S (fun L st S => V MX2_holds h 107 L st S Q) (nI 1)) : V MX2_holds h 102 L st S Q :=
  v_iconst dX2_holds_102 (by decide) (fun L st S k => v_goto dX2_holds_103 (by decide) k) k
theorem b_X2_holds_106 {h : Nat} {L : LVs} {st : List AV} {S : ST} {Q : Option AV → ST → Prop} (k : o_c L st S (fun L st S => V MX2_holds h 107 L st S Q) (nI 0)) : V MX2_holds h 106 L st S Q :=
  v_iconst dX2_holds_106 (by decide) (fun L st S k => k) k
theorem b_X2_holds_107 {h : Nat} {L : LVs} {st : List AV} {S : ST} {Q : Option AV → ST → Prop} (k : t_zr st S Q) : V MX2_holds h 107 L st S Q :=
  w_zr dX2_holds_107 rfl k
-- QueryForge$Machine.judge(I)V
theorem dX2_judge_0 : decode cX2_judge 0 = .ok (.aload_n 0, 1) := by decide +kernel
theorem dX2_judge_1 : decode cX2_judge 1 = .ok (.invokevirtual 138, 3) := by decide +kernel
theorem dX2_judge_4 : decode cX2_judge 4 = .ok (.lstore_n 2, 1) := by decide +kernel
theorem dX2_judge_5 : decode cX2_judge 5 = .ok (.iload_n 1, 1) := by decide +kernel
theorem dX2_judge_6 : decode cX2_judge 6 = .ok (.bipush 17, 2) := by decide +kernel
theorem dX2_judge_8 : decode cX2_judge 8 = .ok (.if_icmp .ne 23, 3) := by decide +kernel
theorem dX2_judge_11 : decode cX2_judge 11 = .ok (.aload_n 0, 1) := by decide +kernel
theorem dX2_judge_12 : decode cX2_judge 12 = .ok (.lload_n 2, 1) := by decide +kernel
theorem dX2_judge_13 : decode cX2_judge 13 = .ok (.ldc2_w 120, 3) := by decide +kernel
theorem dX2_judge_16 : decode cX2_judge 16 = .ok (.lcmp, 1) := by decide +kernel
theorem dX2_judge_17 : decode cX2_judge 17 = .ok (.ifCond .ne 9, 3) := by decide +kernel
theorem dX2_judge_20 : decode cX2_judge 20 = .ok (.ldc2_w 157, 3) := by decide +kernel
theorem dX2_judge_23 : decode cX2_judge 23 = .ok (.goto 4, 3) := by decide +kernel
theorem dX2_judge_26 : decode cX2_judge 26 = .ok (.lconst 0, 1) := by decide +kernel
theorem dX2_judge_27 : decode cX2_judge 27 = .ok (.invokevirtual 122, 3) := by decide +kernel
theorem dX2_judge_30 : decode cX2_judge 30 = .ok (.return_, 1) := by decide +kernel
theorem dX2_judge_31 : decode cX2_judge 31 = .ok (.iload_n 1, 1) := by decide +kernel
theorem dX2_judge_32 : decode cX2_judge 32 = .ok (.bipush 18, 2) := by decide +kernel
theorem dX2_judge_34 : decode cX2_judge 34 = .ok (.if_icmp .ne 13, 3) := by decide +kernel
theorem dX2_judge_37 : decode cX2_judge 37 = .ok (.aload_n 0, 1) := by decide +kernel
theorem dX2_judge_38 : decode cX2_judge 38 = .ok (.ldc2_w 157, 3) := by decide +kernel
theorem dX2_judge_41 : decode cX2_judge 41 = .ok (.lload_n 2, 1) := by decide +kernel
theorem dX2_judge_42 : decode cX2_judge 42 = .ok (.lsub, 1) := by decide +kernel
theorem dX2_judge_43 : decode cX2_judge 43 = .ok (.invokevirtual 122, 3) := by decide +kernel
theorem dX2_judge_46 : decode cX2_judge 46 = .ok (.return_, 1) := by decide +kernel
theorem dX2_judge_47 : decode cX2_judge 47 = .ok (.aload_n 0, 1) := by decide +kernel
theorem dX2_judge_48 : decode cX2_judge 48 = .ok (.invokevirtual 138, 3) := by decide +kernel
theorem dX2_judge_51 : decode cX2_judge 51 = .ok (.lstore 4, 2) := by decide +kernel
theorem dX2_judge_53 : decode cX2_judge 53 = .ok (.aload_n 0, 1) := by decide +kernel
theorem dX2_judge_54 : decode cX2_judge 54 = .ok (.iload_n 1, 1) := by decide +kernel
theorem dX2_judge_55 : decode cX2_judge 55 = .ok (.bipush 19, 2) := by decide +kernel
theorem dX2_judge_57 : decode cX2_judge 57 = .ok (.if_icmp .ne 12, 3) := by decide +kernel
theorem dX2_judge_60 : decode cX2_judge 60 = .ok (.lload 4, 2) := by decide +kernel
theorem dX2_judge_62 : decode cX2_judge 62 = .ok (.lload_n 2, 1) := by decide +kernel
theorem dX2_judge_63 : decode cX2_judge 63 = .ok (.invokestatic 159, 3) := by decide +kernel
theorem dX2_judge_66 : decode cX2_judge 66 = .ok (.goto 9, 3) := by decide +kernel
theorem dX2_judge_69 : decode cX2_judge 69 = .ok (.lload 4, 2) := by decide +kernel
theorem dX2_judge_71 : decode cX2_judge 71 = .ok (.lload_n 2, 1) := by decide +kernel
theorem dX2_judge_72 : decode cX2_judge 72 = .ok (.invokestatic 165, 3) := by decide +kernel
theorem dX2_judge_75 : decode cX2_judge 75 = .ok (.invokevirtual 122, 3) := by decide +kernel
theorem dX2_judge_78 : decode cX2_judge 78 = .ok (.return_, 1) := by decide +kernel
theorem b_X2_judge_0 {h : Nat} {L : LVs} {st : List AV} {S : ST} {Q : Option AV → ST → Prop} (k : o_al L st S (fun L st S => V MX2_judge h 1 L st S Q) 0) : V MX2_judge h 0 L st S Q :=
  v_aload_n dX2_judge_0 rfl (fun L st S k => k) k
theorem k_X2_judge_1 {h : Nat} {L : LVs} {st : List AV} {S : ST} {Q Q' : Option AV → ST → Prop} {j : Nat} (hC : Ct MX2_pop h [vR 2 j] S Q') (k : ∀ (r : Option AV) (S' : ST), Q' r S' → V MX2_judge (h + 1) 4 L (r.toList ++ st) S' Q) (hj : j < NI 2) (hw : wid st ≤ 8) : V MX2_judge (h + 1) 1 L (vR 2 j :: st) S Q :=
  v_callV (M' := MX2_pop) (c := 2) (As := []) dX2_judge_1 ml_X2_138 im_X2_pop se_X2_pop in_X2 cd_X2_pop rfl LY_2 np_X2_pop (by decide) hw hj hC k
theorem b_X2_judge_4 {h : Nat} {L : LVs} {st : List AV} {S : ST} {Q : Option AV → ST → Prop} (k : o_ls L st S (fun L st S => o_il L st S (fun L st S => o_c L st S (fun L st S => t_2 L st S (fun x y => x = y) (fun L st S => V MX2_judge h 11 L st S Q) (fun L st S => V MX2_judge h 31 L st S Q)) (nI 17)) 1) 2) : V MX2_judge h 4 L st S Q :=
  v_lstore_n dX2_judge_4 rfl (by decide) (fun L st S k => v_iload_n dX2_judge_5 rfl (fun L st S k => v_bipush dX2_judge_6 (by decide) (fun L st S k => w_icmp_ne dX2_judge_8 (by decide) rfl k) k) k) k
theorem b_X2_judge_11 {h : Nat} {L : LVs} {st : List AV} {S : ST} {Q : Option AV → ST → Prop} (k : o_al L st S (fun L st S => o_ll L st S (fun L st S => o_lc L st S (fun L st S => o_lcmp L st S (fun L st S => t_1 L st S (fun x => x = nI 0) (fun L st S => V MX2_judge h 20 L st S Q) (fun L st S => V MX2_judge h 26 L st S Q))) (-4611686018427387904)) 2) 0) : V MX2_judge h 11 L st S Q :=
  v_aload_n dX2_judge_11 rfl (fun L st S k => v_lload_n dX2_judge_12 rfl (fun L st S k => v_ldc2 dX2_judge_13 kl_X2_120 (fun L st S k => v_lcmp dX2_judge_16 (fun L st S k => w_if_ne dX2_judge_17 (by decide) rfl k) k) k) k) k
theorem b_X2_judge_20 {h : Nat} {L : LVs} {st : List AV} {S : ST} {Q : Option AV → ST → Prop} (k : o_lc L st S (fun L st S => V MX2_judge h 27 L st S Q) (lN 2)) : V MX2_judge h 20 L st S Q :=
  v_ldc2 dX2_judge_20 kl_X2_157 (fun L st S k => v_goto dX2_judge_23 (by decide) k) k
theorem b_X2_judge_26 {h : Nat} {L : LVs} {st : List AV} {S : ST} {Q : Option AV → ST → Prop} (k : o_lc L st S (fun L st S => V MX2_judge h 27 L st S Q) (lN 0)) : V MX2_judge h 26 L st S Q :=
  v_lconst dX2_judge_26 (by decide) (fun L st S k => k) k
theorem k_X2_judge_27 {h : Nat} {L : LVs} {st : List AV} {S : ST} {Q Q' : Option AV → ST → Prop} {j : Nat} {a0 : AV} (hC : Ct MX2_push h [vR 2 j, a0] S Q') (k : ∀ (r : Option AV) (S' : ST), Q' r S' → V MX2_judge (h + 1) 30 L (r.toList ++ st) S' Q) (hj : j < NI 2) (hw : wid st ≤ 8) : V MX2_judge (h + 1) 27 L (a0 :: vR 2 j :: st) S Q :=
  v_callV (M' := MX2_push) (c := 2) (As := [a0]) dX2_judge_27 ml_X2_122 im_X2_push se_X2_push in_X2 cd_X2_push rfl LY_2 np_X2_push (by decide) hw hj hC k
theorem b_X2_judge_30 {h : Nat} {L : LVs} {st : List AV} {S : ST} {Q : Option AV → ST → Prop} (k : t_vr st S Q) : V MX2_judge h 30 L st S Q :=
  w_vr dX2_judge_30 rfl k
theorem b_X2_judge_31 {h : Nat} {L : LVs} {st : List AV} {S : ST} {Q : Option AV → ST → Prop} (k : o_il L st S (fun L st S => o_c L st S (fun L st S => t_2 L st S (fun x y => x = y) (fun L st S => V MX2_judge h 37 L st S Q) (fun L st S => V MX2_judge h 47 L st S Q)) (nI 18)) 1) : V MX2_judge h 31 L st S Q :=
  v_iload_n dX2_judge_31 rfl (fun L st S k => v_bipush dX2_judge_32 (by decide) (fun L st S k => w_icmp_ne dX2_judge_34 (by decide) rfl k) k) k
theorem b_X2_judge_37 {h : Nat} {L : LVs} {st : List AV} {S : ST} {Q : Option AV → ST → Prop} (k : o_al L st S (fun L st S => o_lc L st S (fun L st S => o_ll L st S (fun L st S => o_lsub L st S (fun L st S => V MX2_judge h 43 L st S Q)) 2) (lN 2)) 0) : V MX2_judge h 37 L st S Q :=
  v_aload_n dX2_judge_37 rfl (fun L st S k => v_ldc2 dX2_judge_38 kl_X2_157 (fun L st S k => v_lload_n dX2_judge_41 rfl (fun L st S k => v_lsub dX2_judge_42 (fun L st S k => k) k) k) k) k
theorem k_X2_judge_43 {h : Nat} {L : LVs} {st : List AV} {S : ST} {Q Q' : Option AV → ST → Prop} {j : Nat} {a0 : AV} (hC : Ct MX2_push h [vR 2 j, a0] S Q') (k : ∀ (r : Option AV) (S' : ST), Q' r S' → V MX2_judge (h + 1) 46 L (r.toList ++ st) S' Q) (hj : j < NI 2) (hw : wid st ≤ 8) : V MX2_judge (h + 1) 43 L (a0 :: vR 2 j :: st) S Q :=
  v_callV (M' := MX2_push) (c := 2) (As := [a0]) dX2_judge_43 ml_X2_122 im_X2_push se_X2_push in_X2 cd_X2_push rfl LY_2 np_X2_push (by decide) hw hj hC k
theorem b_X2_judge_46 {h : Nat} {L : LVs} {st : List AV} {S : ST} {Q : Option AV → ST → Prop} (k : t_vr st S Q) : V MX2_judge h 46 L st S Q :=
  w_vr dX2_judge_46 rfl k
theorem b_X2_judge_47 {h : Nat} {L : LVs} {st : List AV} {S : ST} {Q : Option AV → ST → Prop} (k : o_al L st S (fun L st S => V MX2_judge h 48 L st S Q) 0) : V MX2_judge h 47 L st S Q :=
  v_aload_n dX2_judge_47 rfl (fun L st S k => k) k
theorem k_X2_judge_48 {h : Nat} {L : LVs} {st : List AV} {S : ST} {Q Q' : Option AV → ST → Prop} {j : Nat} (hC : Ct MX2_pop h [vR 2 j] S Q') (k : ∀ (r : Option AV) (S' : ST), Q' r S' → V MX2_judge (h + 1) 51 L (r.toList ++ st) S' Q) (hj : j < NI 2) (hw : wid st ≤ 8) : V MX2_judge (h + 1) 48 L (vR 2 j :: st) S Q :=
  v_callV (M' := MX2_pop) (c := 2) (As := []) dX2_judge_48 ml_X2_138 im_X2_pop se_X2_pop in_X2 cd_X2_pop rfl LY_2 np_X2_pop (by decide) hw hj hC k
theorem b_X2_judge_51 {h : Nat} {L : LVs} {st : List AV} {S : ST} {Q : Option AV → ST → Prop} (k : o_ls L st S (fun L st S => o_al L st S (fun L st S => o_il L st S (fun L st S => o_c L st S (fun L st S => t_2 L st S (fun x y => x = y) (fun L st S => V MX2_judge h 60 L st S Q) (fun L st S => V MX2_judge h 69 L st S Q)) (nI 19)) 1) 0) 4) : V MX2_judge h 51 L st S Q :=
  v_lstore dX2_judge_51 (by decide) (fun L st S k => v_aload_n dX2_judge_53 rfl (fun L st S k => v_iload_n dX2_judge_54 rfl (fun L st S k => v_bipush dX2_judge_55 (by decide) (fun L st S k => w_icmp_ne dX2_judge_57 (by decide) rfl k) k) k) k) k
theorem b_X2_judge_60 {h : Nat} {L : LVs} {st : List AV} {S : ST} {Q : Option AV → ST → Prop} (k : o_ll L st S (fun L st S => o_ll L st S (fun L st S => o_lmin L st S (fun L st S => V MX2_judge (h + 1) 75 L st S Q)) 2) 4) : V MX2_judge (h + 1) 60 L st S Q :=
  v_lload dX2_judge_60 (fun L st S k => v_lload_n dX2_judge_62 rfl (fun L st S k => v_lmin dX2_judge_63 mm_X2_159 (fun L st S k => v_goto dX2_judge_66 (by decide) k) k) k) k
theorem b_X2_judge_69 {h : Nat} {L : LVs} {st : List AV} {S : ST} {Q : Option AV → ST → Prop} (k : o_ll L st S (fun L st S => o_ll L st S (fun L st S => o_lmax L st S (fun L st S => V MX2_judge (h + 1) 75 L st S Q)) 2) 4) : V MX2_judge (h + 1) 69 L st S Q :=
  v_lload dX2_judge_69 (fun L st S k => v_lload_n dX2_judge_71 rfl (fun L st S k => v_lmax dX2_judge_72 mm_X2_165 (fun L st S k => k) k) k) k
theorem k_X2_judge_75 {h : Nat} {L : LVs} {st : List AV} {S : ST} {Q Q' : Option AV → ST → Prop} {j : Nat} {a0 : AV} (hC : Ct MX2_push h [vR 2 j, a0] S Q') (k : ∀ (r : Option AV) (S' : ST), Q' r S' → V MX2_judge (h + 1) 78 L (r.toList ++ st) S' Q) (hj : j < NI 2) (hw : wid st ≤ 8) : V MX2_judge (h + 1) 75 L (a0 :: vR 2 j :: st) S Q :=
  v_callV (M' := MX2_push) (c := 2) (As := [a0]) dX2_judge_75 ml_X2_122 im_X2_push se_X2_push in_X2 cd_X2_push rfl LY_2 np_X2_push (by decide) hw hj hC k
theorem b_X2_judge_78 {h : Nat} {L : LVs} {st : List AV} {S : ST} {Q : Option AV → ST → Prop} (k : t_vr st S Q) : V MX2_judge h 78 L st S Q :=
  w_vr dX2_judge_78 rfl k
-- QueryForge$Machine.go(II)V
theorem dX2_go_0 : decode cX2_go 0 = .ok (.iload_n 1, 1) := by decide +kernel
theorem dX2_go_1 : decode cX2_go 1 = .ok (.tableswitch 215 21 26 #[39, 78, 119, 151, 188, 207], 39) := by decide +kernel
theorem dX2_go_40 : decode cX2_go 40 = .ok (.aload_n 0, 1) := by decide +kernel
theorem dX2_go_41 : decode cX2_go 41 = .ok (.aload_n 0, 1) := by decide +kernel
theorem dX2_go_42 : decode cX2_go 42 = .ok (.getfield 15, 3) := by decide +kernel
theorem dX2_go_45 : decode cX2_go 45 = .ok (.iload_n 2, 1) := by decide +kernel
theorem dX2_go_46 : decode cX2_go 46 = .ok (.invokevirtual 33, 3) := by decide +kernel
theorem dX2_go_49 : decode cX2_go 49 = .ok (.putfield 39, 3) := by decide +kernel
theorem dX2_go_52 : decode cX2_go 52 = .ok (.aload_n 0, 1) := by decide +kernel
theorem dX2_go_53 : decode cX2_go 53 = .ok (.getfield 39, 3) := by decide +kernel
theorem dX2_go_56 : decode cX2_go 56 = .ok (.invokevirtual 168, 3) := by decide +kernel
theorem dX2_go_59 : decode cX2_go 59 = .ok (.aload_n 0, 1) := by decide +kernel
theorem dX2_go_60 : decode cX2_go 60 = .ok (.iconst (-1), 1) := by decide +kernel
theorem dX2_go_61 : decode cX2_go 61 = .ok (.putfield 126, 3) := by decide +kernel
theorem dX2_go_64 : decode cX2_go 64 = .ok (.aload_n 0, 1) := by decide +kernel
theorem dX2_go_65 : decode cX2_go 65 = .ok (.aload_n 0, 1) := by decide +kernel
theorem dX2_go_66 : decode cX2_go 66 = .ok (.getfield 39, 3) := by decide +kernel
theorem dX2_go_69 : decode cX2_go 69 = .ok (.invokevirtual 171, 3) := by decide +kernel
theorem dX2_go_72 : decode cX2_go 72 = .ok (.i2l, 1) := by decide +kernel
theorem dX2_go_73 : decode cX2_go 73 = .ok (.putfield 73, 3) := by decide +kernel
theorem dX2_go_76 : decode cX2_go 76 = .ok (.goto 145, 3) := by decide +kernel
theorem dX2_go_79 : decode cX2_go 79 = .ok (.aload_n 0, 1) := by decide +kernel
theorem dX2_go_80 : decode cX2_go 80 = .ok (.aload_n 0, 1) := by decide +kernel
theorem dX2_go_81 : decode cX2_go 81 = .ok (.getfield 15, 3) := by decide +kernel
theorem dX2_go_84 : decode cX2_go 84 = .ok (.iload_n 2, 1) := by decide +kernel
theorem dX2_go_85 : decode cX2_go 85 = .ok (.invokevirtual 33, 3) := by decide +kernel
theorem dX2_go_88 : decode cX2_go 88 = .ok (.putfield 43, 3) := by decide +kernel
theorem dX2_go_91 : decode cX2_go 91 = .ok (.aload_n 0, 1) := by decide +kernel
theorem dX2_go_92 : decode cX2_go 92 = .ok (.iconst (-1), 1) := by decide +kernel
theorem dX2_go_93 : decode cX2_go 93 = .ok (.putfield 135, 3) := by decide +kernel
theorem dX2_go_96 : decode cX2_go 96 = .ok (.aload_n 0, 1) := by decide +kernel
theorem dX2_go_97 : decode cX2_go 97 = .ok (.aload_n 0, 1) := by decide +kernel
theorem dX2_go_98 : decode cX2_go 98 = .ok (.getfield 73, 3) := by decide +kernel
theorem dX2_go_101 : decode cX2_go 101 = .ok (.iconst 1, 1) := by decide +kernel
theorem dX2_go_102 : decode cX2_go 102 = .ok (.aload_n 0, 1) := by decide +kernel
theorem dX2_go_103 : decode cX2_go 103 = .ok (.getfield 43, 3) := by decide +kernel
theorem dX2_go_106 : decode cX2_go 106 = .ok (.invokevirtual 171, 3) := by decide +kernel
theorem dX2_go_109 : decode cX2_go 109 = .ok (.invokestatic 175, 3) := by decide +kernel
theorem dX2_go_112 : decode cX2_go 112 = .ok (.i2l, 1) := by decide +kernel
theorem dX2_go_113 : decode cX2_go 113 = .ok (.lmul, 1) := by decide +kernel
theorem dX2_go_114 : decode cX2_go 114 = .ok (.putfield 73, 3) := by decide +kernel
theorem dX2_go_117 : decode cX2_go 117 = .ok (.goto 104, 3) := by decide +kernel
theorem dX2_go_120 : decode cX2_go 120 = .ok (.aload_n 0, 1) := by decide +kernel
theorem dX2_go_121 : decode cX2_go 121 = .ok (.dup, 1) := by decide +kernel
theorem dX2_go_122 : decode cX2_go 122 = .ok (.getfield 126, 3) := by decide +kernel
theorem dX2_go_125 : decode cX2_go 125 = .ok (.iconst 1, 1) := by decide +kernel
theorem dX2_go_126 : decode cX2_go 126 = .ok (.iadd, 1) := by decide +kernel
theorem dX2_go_127 : decode cX2_go 127 = .ok (.putfield 126, 3) := by decide +kernel
theorem dX2_go_130 : decode cX2_go 130 = .ok (.aload_n 0, 1) := by decide +kernel
theorem dX2_go_131 : decode cX2_go 131 = .ok (.getfield 126, 3) := by decide +kernel
theorem dX2_go_134 : decode cX2_go 134 = .ok (.aload_n 0, 1) := by decide +kernel
theorem dX2_go_135 : decode cX2_go 135 = .ok (.getfield 39, 3) := by decide +kernel
theorem dX2_go_138 : decode cX2_go 138 = .ok (.invokevirtual 171, 3) := by decide +kernel
theorem dX2_go_141 : decode cX2_go 141 = .ok (.if_icmp .lt 80, 3) := by decide +kernel
theorem dX2_go_144 : decode cX2_go 144 = .ok (.aload_n 0, 1) := by decide +kernel
theorem dX2_go_145 : decode cX2_go 145 = .ok (.iload_n 2, 1) := by decide +kernel
theorem dX2_go_146 : decode cX2_go 146 = .ok (.putfield 67, 3) := by decide +kernel
theorem dX2_go_149 : decode cX2_go 149 = .ok (.goto 72, 3) := by decide +kernel
theorem dX2_go_152 : decode cX2_go 152 = .ok (.aload_n 0, 1) := by decide +kernel
theorem dX2_go_153 : decode cX2_go 153 = .ok (.dup, 1) := by decide +kernel
theorem dX2_go_154 : decode cX2_go 154 = .ok (.getfield 135, 3) := by decide +kernel
theorem dX2_go_157 : decode cX2_go 157 = .ok (.iconst 1, 1) := by decide +kernel
theorem dX2_go_158 : decode cX2_go 158 = .ok (.iadd, 1) := by decide +kernel
theorem dX2_go_159 : decode cX2_go 159 = .ok (.putfield 135, 3) := by decide +kernel
theorem dX2_go_162 : decode cX2_go 162 = .ok (.aload_n 0, 1) := by decide +kernel
theorem dX2_go_163 : decode cX2_go 163 = .ok (.getfield 135, 3) := by decide +kernel
theorem dX2_go_166 : decode cX2_go 166 = .ok (.aload_n 0, 1) := by decide +kernel
theorem dX2_go_167 : decode cX2_go 167 = .ok (.getfield 43, 3) := by decide +kernel
theorem dX2_go_170 : decode cX2_go 170 = .ok (.invokevirtual 171, 3) := by decide +kernel
theorem dX2_go_173 : decode cX2_go 173 = .ok (.if_icmp .lt 48, 3) := by decide +kernel
theorem dX2_go_176 : decode cX2_go 176 = .ok (.aload_n 0, 1) := by decide +kernel
theorem dX2_go_177 : decode cX2_go 177 = .ok (.iconst (-1), 1) := by decide +kernel
theorem dX2_go_178 : decode cX2_go 178 = .ok (.putfield 135, 3) := by decide +kernel
theorem dX2_go_181 : decode cX2_go 181 = .ok (.aload_n 0, 1) := by decide +kernel
theorem dX2_go_182 : decode cX2_go 182 = .ok (.iload_n 2, 1) := by decide +kernel
theorem dX2_go_183 : decode cX2_go 183 = .ok (.putfield 67, 3) := by decide +kernel
theorem dX2_go_186 : decode cX2_go 186 = .ok (.goto 35, 3) := by decide +kernel
theorem dX2_go_189 : decode cX2_go 189 = .ok (.aload_n 0, 1) := by decide +kernel
theorem dX2_go_190 : decode cX2_go 190 = .ok (.invokevirtual 138, 3) := by decide +kernel
theorem dX2_go_193 : decode cX2_go 193 = .ok (.ldc2_w 157, 3) := by decide +kernel
theorem dX2_go_196 : decode cX2_go 196 = .ok (.lcmp, 1) := by decide +kernel
theorem dX2_go_197 : decode cX2_go 197 = .ok (.ifCond .eq 24, 3) := by decide +kernel
theorem dX2_go_200 : decode cX2_go 200 = .ok (.aload_n 0, 1) := by decide +kernel
theorem dX2_go_201 : decode cX2_go 201 = .ok (.iload_n 2, 1) := by decide +kernel
theorem dX2_go_202 : decode cX2_go 202 = .ok (.putfield 67, 3) := by decide +kernel
theorem dX2_go_205 : decode cX2_go 205 = .ok (.goto 16, 3) := by decide +kernel
theorem dX2_go_208 : decode cX2_go 208 = .ok (.aload_n 0, 1) := by decide +kernel
theorem dX2_go_209 : decode cX2_go 209 = .ok (.iload_n 2, 1) := by decide +kernel
theorem dX2_go_210 : decode cX2_go 210 = .ok (.putfield 67, 3) := by decide +kernel
theorem dX2_go_213 : decode cX2_go 213 = .ok (.goto 8, 3) := by decide +kernel
theorem dX2_go_216 : decode cX2_go 216 = .ok (.aload_n 0, 1) := by decide +kernel
theorem dX2_go_217 : decode cX2_go 217 = .ok (.iconst 0, 1) := by decide +kernel
theorem dX2_go_218 : decode cX2_go 218 = .ok (.putfield 76, 3) := by decide +kernel
theorem dX2_go_221 : decode cX2_go 221 = .ok (.return_, 1) := by decide +kernel
theorem b_X2_go_0 {h : Nat} {L : LVs} {st : List AV} {S : ST} {Q : Option AV → ST → Prop} (k : o_il L st S (fun L st S => t_sw L st S [((nI 21), fun L st S => V MX2_go h 40 L st S Q), ((nI 22), fun L st S => V MX2_go h 79 L st S Q), ((nI 23), fun L st S => V MX2_go h 120 L st S Q), ((nI 24), fun L st S => V MX2_go h 152 L st S Q), ((nI 25), fun L st S => V MX2_go h 189 L st S Q), ((nI 26), fun L st S => V MX2_go h 208 L st S Q)] (fun L st S => V MX2_go h 216 L st S Q)) 1) : V MX2_go h 0 L st S Q :=
  v_iload_n dX2_go_0 rfl (fun L st S k => w_tsw [((nI 21), 40), ((nI 22), 79), ((nI 23), 120), ((nI 24), 152), ((nI 25), 189), ((nI 26), 208)] dX2_go_1 (n := 6) (by decide) rfl (by decide) (by decide) (by decide) k) k
theorem b_X2_go_40 {h : Nat} {L : LVs} {st : List AV} {S : ST} {Q : Option AV → ST → Prop} (k : o_al L st S (fun L st S => o_al L st S (fun L st S => o_get L st S (fun L st S => o_il L st S (fun L st S => V MX2_go h 46 L st S Q) 2) 2 1 (4, 8, 0)) 0) 0) : V MX2_go h 40 L st S Q :=
  v_aload_n dX2_go_40 rfl (fun L st S k => v_aload_n dX2_go_41 rfl (fun L st S k => v_get dX2_go_42 rfl iX2 LY_2 rfl (by decide) rfl fl_X2_15 (fun L st S k => v_iload_n dX2_go_45 rfl (fun L st S k => k) k) k) k) k
theorem k_X2_go_46 {h : Nat} {L : LVs} {st : List AV} {S : ST} {Q Q' : Option AV → ST → Prop} {j : Nat} {a0 : AV} (hC : Ct MX8_tableAt h [vR 8 j, a0] S Q') (k : ∀ (r : Option AV) (S' : ST), Q' r S' → V MX2_go (h + 1) 49 L (r.toList ++ st) S' Q) (hj : j < NI 8) (hw : wid st ≤ 8) : V MX2_go (h + 1) 46 L (a0 :: vR 8 j :: st) S Q :=
  v_callV (M' := MX8_tableAt) (c := 8) (As := [a0]) dX2_go_46 ml_X2_33 im_X8_tableAt se_X8_tableAt in_X8 cd_X8_tableAt rfl LY_8 np_X8_tableAt (by decide) hw hj hC k
theorem b_X2_go_49 {h : Nat} {L : LVs} {st : List AV} {S : ST} {Q : Option AV → ST → Prop} (k : o_putr L st S (fun L st S => o_al L st S (fun L st S => o_get L st S (fun L st S => V MX2_go h 56 L st S Q) 2 5 (5, 7, 0)) 0) 2 5 7) : V MX2_go h 49 L st S Q :=
  v_putr dX2_go_49 rfl iX2 tyX2_ok nmX2 LY_2 rfl (by decide) rfl fl_X2_39 rfl rfl (fun L st S k => v_aload_n dX2_go_52 rfl (fun L st S k => v_get dX2_go_53 rfl iX2 LY_2 rfl (by decide) rfl fl_X2_39 (fun L st S k => k) k) k) k
theorem k_X2_go_56 {h : Nat} {L : LVs} {st : List AV} {S : ST} {Q Q' : Option AV → ST → Prop} {j : Nat} (hC : Ct MX7_unmark h [vR 7 j] S Q') (k : ∀ (r : Option AV) (S' : ST), Q' r S' → V MX2_go (h + 1) 59 L (r.toList ++ st) S' Q) (hj : j < NI 7) (hw : wid st ≤ 8) : V MX2_go (h + 1) 56 L (vR 7 j :: st) S Q :=
  v_callV (M' := MX7_unmark) (c := 7) (As := []) dX2_go_56 ml_X2_168 im_X7_unmark se_X7_unmark in_X7 cd_X7_unmark rfl LY_7 np_X7_unmark (by decide) hw hj hC k
theorem b_X2_go_59 {h : Nat} {L : LVs} {st : List AV} {S : ST} {Q : Option AV → ST → Prop} (k : o_al L st S (fun L st S => o_c L st S (fun L st S => o_puti L st S (fun L st S => o_al L st S (fun L st S => o_al L st S (fun L st S => o_get L st S (fun L st S => V MX2_go h 69 L st S Q) 2 5 (5, 7, 0)) 0) 0) 2 7) (-1)) 0) : V MX2_go h 59 L st S Q :=
  v_aload_n dX2_go_59 rfl (fun L st S k => v_iconst dX2_go_60 (by decide) (fun L st S k => v_puti dX2_go_61 rfl iX2 tyX2_ok nmX2 LY_2 rfl (by decide) rfl fl_X2_126 rfl rfl (fun L st S k => v_aload_n dX2_go_64 rfl (fun L st S k => v_aload_n dX2_go_65 rfl (fun L st S k => v_get dX2_go_66 rfl iX2 LY_2 rfl (by decide) rfl fl_X2_39 (fun L st S k => k) k) k) k) k) k) k
theorem k_X2_go_69 {h : Nat} {L : LVs} {st : List AV} {S : ST} {Q Q' : Option AV → ST → Prop} {j : Nat} (hC : Ct MX7_rowCount h [vR 7 j] S Q') (k : ∀ (r : Option AV) (S' : ST), Q' r S' → V MX2_go (h + 1) 72 L (r.toList ++ st) S' Q) (hj : j < NI 7) (hw : wid st ≤ 8) : V MX2_go (h + 1) 69 L (vR 7 j :: st) S Q :=
  v_callV (M' := MX7_rowCount) (c := 7) (As := []) dX2_go_69 ml_X2_171 im_X7_rowCount se_X7_rowCount in_X7 cd_X7_rowCount rfl LY_7 np_X7_rowCount (by decide) hw hj hC k
theorem b_X2_go_72 {h : Nat} {L : LVs} {st : List AV} {S : ST} {Q : Option AV → ST → Prop} (k : o_i2l L st S (fun L st S => o_putl L st S (fun L st S => V MX2_go h 221 L st S Q) 2 16)) : V MX2_go h 72 L st S Q :=
  v_i2l dX2_go_72 (fun L st S k => v_putl dX2_go_73 rfl iX2 tyX2_ok nmX2 LY_2 rfl (by decide) rfl fl_X2_73 rfl rfl (fun L st S k => v_goto dX2_go_76 (by decide) k) k) k
theorem b_X2_go_79 {h : Nat} {L : LVs} {st : List AV} {S : ST} {Q : Option AV → ST → Prop} (k : o_al L st S (fun L st S => o_al L st S (fun L st S => o_get L st S (fun L st S => o_il L st S (fun L st S => V MX2_go h 85 L st S Q) 2) 2 1 (4, 8, 0)) 0) 0) : V MX2_go h 79 L st S Q :=
  v_aload_n dX2_go_79 rfl (fun L st S k => v_aload_n dX2_go_80 rfl (fun L st S k => v_get dX2_go_81 rfl iX2 LY_2 rfl (by decide) rfl fl_X2_15 (fun L st S k => v_iload_n dX2_go_84 rfl (fun L st S k => k) k) k) k) k
theorem k_X2_go_85 {h : Nat} {L : LVs} {st : List AV} {S : ST} {Q Q' : Option AV → ST → Prop} {j : Nat} {a0 : AV} (hC : Ct MX8_tableAt h [vR 8 j, a0] S Q') (k : ∀ (r : Option AV) (S' : ST), Q' r S' → V MX2_go (h + 1) 88 L (r.toList ++ st) S' Q) (hj : j < NI 8) (hw : wid st ≤ 8) : V MX2_go (h + 1) 85 L (a0 :: vR 8 j :: st) S Q :=
  v_callV (M' := MX8_tableAt) (c := 8) (As := [a0]) dX2_go_85 ml_X2_33 im_X8_tableAt se_X8_tableAt in_X8 cd_X8_tableAt rfl LY_8 np_X8_tableAt (by decide) hw hj hC k
theorem b_X2_go_88 {h : Nat} {L : LVs} {st : List AV} {S : ST} {Q : Option AV → ST → Prop} (k : o_putr L st S (fun L st S => o_al L st S (fun L st S => o_c L st S (fun L st S => o_puti L st S (fun L st S => o_al L st S (fun L st S => o_al L st S (fun L st S => o_get L st S (fun L st S => o_c L st S (fun L st S => o_al L st S (fun L st S => o_get L st S (fun L st S => V MX2_go h 106 L st S Q) 2 6 (5, 7, 0)) 0) (nI 1)) 2 16 (1, 0, 0)) 0) 0) 2 8) (-1)) 0) 2 6 7) : V MX2_go h 88 L st S Q :=
  v_putr dX2_go_88 rfl iX2 tyX2_ok nmX2 LY_2 rfl (by decide) rfl fl_X2_43 rfl rfl (fun L st S k => v_aload_n dX2_go_91 rfl (fun L st S k => v_iconst dX2_go_92 (by decide) (fun L st S k => v_puti dX2_go_93 rfl iX2 tyX2_ok nmX2 LY_2 rfl (by decide) rfl fl_X2_135 rfl rfl (fun L st S k => v_aload_n dX2_go_96 rfl (fun L st S k => v_aload_n dX2_go_97 rfl (fun L st S k => v_get dX2_go_98 rfl iX2 LY_2 rfl (by decide) rfl fl_X2_73 (fun L st S k => v_iconst dX2_go_101 (by decide) (fun L st S k => v_aload_n dX2_go_102 rfl (fun L st S k => v_get dX2_go_103 rfl iX2 LY_2 rfl (by decide) rfl fl_X2_43 (fun L st S k => k) k) k) k) k) k) k) k) k) k) k
theorem k_X2_go_106 {h : Nat} {L : LVs} {st : List AV} {S : ST} {Q Q' : Option AV → ST → Prop} {j : Nat} (hC : Ct MX7_rowCount h [vR 7 j] S Q') (k : ∀ (r : Option AV) (S' : ST), Q' r S' → V MX2_go (h + 1) 109 L (r.toList ++ st) S' Q) (hj : j < NI 7) (hw : wid st ≤ 8) : V MX2_go (h + 1) 106 L (vR 7 j :: st) S Q :=
  v_callV (M' := MX7_rowCount) (c := 7) (As := []) dX2_go_106 ml_X2_171 im_X7_rowCount se_X7_rowCount in_X7 cd_X7_rowCount rfl LY_7 np_X7_rowCount (by decide) hw hj hC k
theorem b_X2_go_109 {h : Nat} {L : LVs} {st : List AV} {S : ST} {Q : Option AV → ST → Prop} (k : o_max L st S (fun L st S => o_i2l L st S (fun L st S => o_lmul L st S (fun L st S => o_putl L st S (fun L st S => V MX2_go (h + 1) 221 L st S Q) 2 16)))) : V MX2_go (h + 1) 109 L st S Q :=
  v_max dX2_go_109 mm_X2_175 (fun L st S k => v_i2l dX2_go_112 (fun L st S k => v_lmul dX2_go_113 (fun L st S k => v_putl dX2_go_114 rfl iX2 tyX2_ok nmX2 LY_2 rfl (by decide) rfl fl_X2_73 rfl rfl (fun L st S k => v_goto dX2_go_117 (by decide) k) k) k) k) k
theorem b_X2_go_120 {h : Nat} {L : LVs} {st : List AV} {S : ST} {Q : Option AV → ST → Prop} (k : o_al L st S (fun L st S => o_dup L st S (fun L st S => o_get L st S (fun L st S => o_c L st S (fun L st S => o_iadd L st S (fun L st S => o_puti L st S (fun L st S => o_al L st S (fun L st S => o_get L st S (fun L st S => o_al L st S (fun L st S => o_get L st S (fun L st S => V MX2_go h 138 L st S Q) 2 5 (5, 7, 0)) 0) 2 7 (0, 0, 0)) 0) 2 7)) (nI 1)) 2 7 (0, 0, 0))) 0) : V MX2_go h 120 L st S Q :=
  v_aload_n dX2_go_120 rfl (fun L st S k => v_dup dX2_go_121 (fun L st S k => v_get dX2_go_122 rfl iX2 LY_2 rfl (by decide) rfl fl_X2_126 (fun L st S k => v_iconst dX2_go_125 (by decide) (fun L st S k => v_iadd dX2_go_126 (fun L st S k => v_puti dX2_go_127 rfl iX2 tyX2_ok nmX2 LY_2 rfl (by decide) rfl fl_X2_126 rfl rfl (fun L st S k => v_aload_n dX2_go_130 rfl (fun L st S k => v_get dX2_go_131 rfl iX2 LY_2 rfl (by decide) rfl fl_X2_126 (fun L st S k => v_aload_n dX2_go_134 rfl (fun L st S k => v_get dX2_go_135 rfl iX2 LY_2 rfl (by decide) rfl fl_X2_39 (fun L st S k => k) k) k) k) k) k) k) k) k) k) k
theorem k_X2_go_138 {h : Nat} {L : LVs} {st : List AV} {S : ST} {Q Q' : Option AV → ST → Prop} {j : Nat} (hC : Ct MX7_rowCount h [vR 7 j] S Q') (k : ∀ (r : Option AV) (S' : ST), Q' r S' → V MX2_go (h + 1) 141 L (r.toList ++ st) S' Q) (hj : j < NI 7) (hw : wid st ≤ 8) : V MX2_go (h + 1) 138 L (vR 7 j :: st) S Q :=
  v_callV (M' := MX7_rowCount) (c := 7) (As := []) dX2_go_138 ml_X2_171 im_X7_rowCount se_X7_rowCount in_X7 cd_X7_rowCount rfl LY_7 np_X7_rowCount (by decide) hw hj hC k
theorem b_X2_go_141 {h : Nat} {L : LVs} {st : List AV} {S : ST} {Q : Option AV → ST → Prop} (k : t_2 L st S (fun x y => x < y) (fun L st S => V MX2_go h 221 L st S Q) (fun L st S => V MX2_go h 144 L st S Q)) : V MX2_go h 141 L st S Q :=
  w_icmp_lt dX2_go_141 (by decide) rfl k
theorem b_X2_go_144 {h : Nat} {L : LVs} {st : List AV} {S : ST} {Q : Option AV → ST → Prop} (k : o_al L st S (fun L st S => o_il L st S (fun L st S => o_puti L st S (fun L st S => V MX2_go h 221 L st S Q) 2 11) 2) 0) : V MX2_go h 144 L st S Q :=
  v_aload_n dX2_go_144 rfl (fun L st S k => v_iload_n dX2_go_145 rfl (fun L st S k => v_puti dX2_go_146 rfl iX2 tyX2_ok nmX2 LY_2 rfl (by decide) rfl fl_X2_67 rfl rfl (fun L st S k => v_goto dX2_go_149 (by decide) k) k) k) k
theorem b_X2_go_152 {h : Nat} {L : LVs} {st : List AV} {S : ST} {Q : Option AV → ST → Prop} (k : o_al L st S (fun L st S => o_dup L st S (fun L st S => o_get L st S (fun L st S => o_c L st S (fun L st S => o_iadd L st S (fun L st S => o_puti L st S (fun L st S => o_al L st S (fun L st S => o_get L st S (fun L st S => o_al L st S (fun L st S => o_get L st S (fun L st S => V MX2_go h 170 L st S Q) 2 6 (5, 7, 0)) 0) 2 8 (0, 0, 0)) 0) 2 8)) (nI 1)) 2 8 (0, 0, 0))) 0) : V MX2_go h 152 L st S Q :=
  v_aload_n dX2_go_152 rfl (fun L st S k => v_dup dX2_go_153 (fun L st S k => v_get dX2_go_154 rfl iX2 LY_2 rfl (by decide) rfl fl_X2_135 (fun L st S k => v_iconst dX2_go_157 (by decide) (fun L st S k => v_iadd dX2_go_158 (fun L st S k => v_puti dX2_go_159 rfl iX2 tyX2_ok nmX2 LY_2 rfl (by decide) rfl fl_X2_135 rfl rfl (fun L st S k => v_aload_n dX2_go_162 rfl (fun L st S k => v_get dX2_go_163 rfl iX2 LY_2 rfl (by decide) rfl fl_X2_135 (fun L st S k => v_aload_n dX2_go_166 rfl (fun L st S k => v_get dX2_go_167 rfl iX2 LY_2 rfl (by decide) rfl fl_X2_43 (fun L st S k => k) k) k) k) k) k) k) k) k) k) k
theorem k_X2_go_170 {h : Nat} {L : LVs} {st : List AV} {S : ST} {Q Q' : Option AV → ST → Prop} {j : Nat} (hC : Ct MX7_rowCount h [vR 7 j] S Q') (k : ∀ (r : Option AV) (S' : ST), Q' r S' → V MX2_go (h + 1) 173 L (r.toList ++ st) S' Q) (hj : j < NI 7) (hw : wid st ≤ 8) : V MX2_go (h + 1) 170 L (vR 7 j :: st) S Q :=
  v_callV (M' := MX7_rowCount) (c := 7) (As := []) dX2_go_170 ml_X2_171 im_X7_rowCount se_X7_rowCount in_X7 cd_X7_rowCount rfl LY_7 np_X7_rowCount (by decide) hw hj hC k
theorem b_X2_go_173 {h : Nat} {L : LVs} {st : List AV} {S : ST} {Q : Option AV → ST → Prop} (k : t_2 L st S (fun x y => x < y) (fun L st S => V MX2_go h 221 L st S Q) (fun L st S => V MX2_go h 176 L st S Q)) : V MX2_go h 173 L st S Q :=
  w_icmp_lt dX2_go_173 (by decide) rfl k
theorem b_X2_go_176 {h : Nat} {L : LVs} {st : List AV} {S : ST} {Q : Option AV → ST → Prop} (k : o_al L st S (fun L st S => o_c L st S (fun L st S => o_puti L st S (fun L st S => o_al L st S (fun L st S => o_il L st S (fun L st S => o_puti L st S (fun L st S => V MX2_go h 221 L st S Q) 2 11) 2) 0) 2 8) (-1)) 0) : V MX2_go h 176 L st S Q :=
  v_aload_n dX2_go_176 rfl (fun L st S k => v_iconst dX2_go_177 (by decide) (fun L st S k => v_puti dX2_go_178 rfl iX2 tyX2_ok nmX2 LY_2 rfl (by decide) rfl fl_X2_135 rfl rfl (fun L st S k => v_aload_n dX2_go_181 rfl (fun L st S k => v_iload_n dX2_go_182 rfl (fun L st S k => v_puti dX2_go_183 rfl iX2 tyX2_ok nmX2 LY_2 rfl (by decide) rfl fl_X2_67 rfl rfl (fun L st S k => v_goto dX2_go_186 (by decide) k) k) k) k) k) k) k
theorem b_X2_go_189 {h : Nat} {L : LVs} {st : List AV} {S : ST} {Q : Option AV → ST → Prop} (k : o_al L st S (fun L st S => V MX2_go h 190 L st S Q) 0) : V MX2_go h 189 L st S Q :=
  v_aload_n dX2_go_189 rfl (fun L st S k => k) k
theorem k_X2_go_190 {h : Nat} {L : LVs} {st : List AV} {S : ST} {Q Q' : Option AV → ST → Prop} {j : Nat} (hC : Ct MX2_pop h [vR 2 j] S Q') (k : ∀ (r : Option AV) (S' : ST), Q' r S' → V MX2_go (h + 1) 193 L (r.toList ++ st) S' Q) (hj : j < NI 2) (hw : wid st ≤ 8) : V MX2_go (h + 1) 190 L (vR 2 j :: st) S Q :=
  v_callV (M' := MX2_pop) (c := 2) (As := []) dX2_go_190 ml_X2_138 im_X2_pop se_X2_pop in_X2 cd_X2_pop rfl LY_2 np_X2_pop (by decide) hw hj hC k
theorem b_X2_go_193 {h : Nat} {L : LVs} {st : List AV} {S : ST} {Q : Option AV → ST → Prop} (k : o_lc L st S (fun L st S => o_lcmp L st S (fun L st S => t_1 L st S (fun x => x = nI 0) (fun L st S => V MX2_go h 221 L st S Q) (fun L st S => V MX2_go h 200 L st S Q))) (lN 2)) : V MX2_go h 193 L st S Q :=
  v_ldc2 dX2_go_193 kl_X2_157 (fun L st S k => v_lcmp dX2_go_196 (fun L st S k => w_if_eq dX2_go_197 (by decide) rfl k) k) k
theorem b_X2_go_200 {h : Nat} {L : LVs} {st : List AV} {S : ST} {Q : Option AV → ST → Prop} (k : o_al L st S (fun L st S => o_il L st S (fun L st S => o_puti L st S (fun L st S => V MX2_go h 221 L st S Q) 2 11) 2) 0) : V MX2_go h 200 L st S Q :=
  v_aload_n dX2_go_200 rfl (fun L st S k => v_iload_n dX2_go_201 rfl (fun L st S k => v_puti dX2_go_202 rfl iX2 tyX2_ok nmX2 LY_2 rfl (by decide) rfl fl_X2_67 rfl rfl (fun L st S k => v_goto dX2_go_205 (by decide) k) k) k) k
theorem b_X2_go_208 {h : Nat} {L : LVs} {st : List AV} {S : ST} {Q : Option AV → ST → Prop} (k : o_al L st S (fun L st S => o_il L st S (fun L st S => o_puti L st S (fun L st S => V MX2_go h 221 L st S Q) 2 11) 2) 0) : V MX2_go h 208 L st S Q :=
  v_aload_n dX2_go_208 rfl (fun L st S k => v_iload_n dX2_go_209 rfl (fun L st S k => v_puti dX2_go_210 rfl iX2 tyX2_ok nmX2 LY_2 rfl (by decide) rfl fl_X2_67 rfl rfl (fun L st S k => v_goto dX2_go_213 (by decide) k) k) k) k
theorem b_X2_go_216 {h : Nat} {L : LVs} {st : List AV} {S : ST} {Q : Option AV → ST → Prop} (k : o_al L st S (fun L st S => o_c L st S (fun L st S => o_putz L st S (fun L st S => V MX2_go h 221 L st S Q) 2 13) (nI 0)) 0) : V MX2_go h 216 L st S Q :=
  v_aload_n dX2_go_216 rfl (fun L st S k => v_iconst dX2_go_217 (by decide) (fun L st S k => v_putz dX2_go_218 rfl iX2 tyX2_ok nmX2 LY_2 rfl (by decide) rfl fl_X2_76 rfl rfl (fun L st S k => k) k) k) k
theorem b_X2_go_221 {h : Nat} {L : LVs} {st : List AV} {S : ST} {Q : Option AV → ST → Prop} (k : t_vr st S Q) : V MX2_go h 221 L st S Q :=
  w_vr dX2_go_221 rfl k
-- QueryForge$Machine.collect(II)V
theorem dX2_collect_0 : decode cX2_collect 0 = .ok (.iload_n 1, 1) := by decide +kernel
theorem dX2_collect_1 : decode cX2_collect 1 = .ok (.tableswitch 74 28 31 #[31, 46, 56, 63], 31) := by decide +kernel
theorem dX2_collect_32 : decode cX2_collect 32 = .ok (.aload_n 0, 1) := by decide +kernel
theorem dX2_collect_33 : decode cX2_collect 33 = .ok (.getfield 30, 3) := by decide +kernel
theorem dX2_collect_36 : decode cX2_collect 36 = .ok (.iload_n 2, 1) := by decide +kernel
theorem dX2_collect_37 : decode cX2_collect 37 = .ok (.aload_n 0, 1) := by decide +kernel
theorem dX2_collect_38 : decode cX2_collect 38 = .ok (.invokevirtual 138, 3) := by decide +kernel
theorem dX2_collect_41 : decode cX2_collect 41 = .ok (.invokevirtual 178, 3) := by decide +kernel
theorem dX2_collect_44 : decode cX2_collect 44 = .ok (.goto 41, 3) := by decide +kernel
theorem dX2_collect_47 : decode cX2_collect 47 = .ok (.aload_n 0, 1) := by decide +kernel
theorem dX2_collect_48 : decode cX2_collect 48 = .ok (.getfield 30, 3) := by decide +kernel
theorem dX2_collect_51 : decode cX2_collect 51 = .ok (.invokevirtual 182, 3) := by decide +kernel
theorem dX2_collect_54 : decode cX2_collect 54 = .ok (.goto 31, 3) := by decide +kernel
theorem dX2_collect_57 : decode cX2_collect 57 = .ok (.aload_n 0, 1) := by decide +kernel
theorem dX2_collect_58 : decode cX2_collect 58 = .ok (.invokevirtual 185, 3) := by decide +kernel
theorem dX2_collect_61 : decode cX2_collect 61 = .ok (.goto 24, 3) := by decide +kernel
theorem dX2_collect_64 : decode cX2_collect 64 = .ok (.aload_n 0, 1) := by decide +kernel
theorem dX2_collect_65 : decode cX2_collect 65 = .ok (.aload_n 0, 1) := by decide +kernel
theorem dX2_collect_66 : decode cX2_collect 66 = .ok (.invokevirtual 138, 3) := by decide +kernel
theorem dX2_collect_69 : decode cX2_collect 69 = .ok (.invokevirtual 188, 3) := by decide +kernel
theorem dX2_collect_72 : decode cX2_collect 72 = .ok (.goto 13, 3) := by decide +kernel
theorem dX2_collect_75 : decode cX2_collect 75 = .ok (.aload_n 0, 1) := by decide +kernel
theorem dX2_collect_76 : decode cX2_collect 76 = .ok (.iload_n 1, 1) := by decide +kernel
theorem dX2_collect_77 : decode cX2_collect 77 = .ok (.iload_n 2, 1) := by decide +kernel
theorem dX2_collect_78 : decode cX2_collect 78 = .ok (.aload_n 0, 1) := by decide +kernel
theorem dX2_collect_79 : decode cX2_collect 79 = .ok (.invokevirtual 138, 3) := by decide +kernel
theorem dX2_collect_82 : decode cX2_collect 82 = .ok (.invokevirtual 191, 3) := by decide +kernel
theorem dX2_collect_85 : decode cX2_collect 85 = .ok (.return_, 1) := by decide +kernel
theorem b_X2_collect_0 {h : Nat} {L : LVs} {st : List AV} {S : ST} {Q : Option AV → ST → Prop} (k : o_il L st S (fun L st S => t_sw L st S [((nI 28), fun L st S => V MX2_collect h 32 L st S Q), ((nI 29), fun L st S => V MX2_collect h 47 L st S Q), ((nI 30), fun L st S => V MX2_collect h 57 L st S Q), ((nI 31), fun L st S => V MX2_collect h 64 L st S Q)] (fun L st S => V MX2_collect h 75 L st S Q)) 1) : V MX2_collect h 0 L st S Q :=
  v_iload_n dX2_collect_0 rfl (fun L st S k => w_tsw [((nI 28), 32), ((nI 29), 47), ((nI 30), 57), ((nI 31), 64)] dX2_collect_1 (n := 4) (by decide) rfl (by decide) (by decide) (by decide) k) k
theorem b_X2_collect_32 {h : Nat} {L : LVs} {st : List AV} {S : ST} {Q : Option AV → ST → Prop} (k : o_al L st S (fun L st S => o_get L st S (fun L st S => o_il L st S (fun L st S => o_al L st S (fun L st S => V MX2_collect h 38 L st S Q) 0) 2) 2 4 (5, 5, 0)) 0) : V MX2_collect h 32 L st S Q :=
  v_aload_n dX2_collect_32 rfl (fun L st S k => v_get dX2_collect_33 rfl iX2 LY_2 rfl (by decide) rfl fl_X2_30 (fun L st S k => v_iload_n dX2_collect_36 rfl (fun L st S k => v_aload_n dX2_collect_37 rfl (fun L st S k => k) k) k) k) k
theorem k_X2_collect_38 {h : Nat} {L : LVs} {st : List AV} {S : ST} {Q Q' : Option AV → ST → Prop} {j : Nat} (hC : Ct MX2_pop h [vR 2 j] S Q') (k : ∀ (r : Option AV) (S' : ST), Q' r S' → V MX2_collect (h + 1) 41 L (r.toList ++ st) S' Q) (hj : j < NI 2) (hw : wid st ≤ 8) : V MX2_collect (h + 1) 38 L (vR 2 j :: st) S Q :=
  v_callV (M' := MX2_pop) (c := 2) (As := []) dX2_collect_38 ml_X2_138 im_X2_pop se_X2_pop in_X2 cd_X2_pop rfl LY_2 np_X2_pop (by decide) hw hj hC k
theorem k_X2_collect_41 {h : Nat} {L : LVs} {st : List AV} {S : ST} {Q Q' : Option AV → ST → Prop} {j : Nat} {a0 a1 : AV} (hC : Ct MX5_putNext h [vR 5 j, a0, a1] S Q') (k : ∀ (r : Option AV) (S' : ST), Q' r S' → V MX2_collect (h + 1) 44 L (r.toList ++ st) S' Q) (hj : j < NI 5) (hw : wid st ≤ 8) : V MX2_collect (h + 1) 41 L (a1 :: a0 :: vR 5 j :: st) S Q :=
  v_callV (M' := MX5_putNext) (c := 5) (As := [a0, a1]) dX2_collect_41 ml_X2_178 im_X5_putNext se_X5_putNext in_X5 cd_X5_putNext rfl LY_5 np_X5_putNext (by decide) hw hj hC k
theorem b_X2_collect_44 {h : Nat} {L : LVs} {st : List AV} {S : ST} {Q : Option AV → ST → Prop} (k : V MX2_collect h 85 L st S Q) : V MX2_collect h 44 L st S Q :=
  v_goto dX2_collect_44 (by decide) k
theorem b_X2_collect_47 {h : Nat} {L : LVs} {st : List AV} {S : ST} {Q : Option AV → ST → Prop} (k : o_al L st S (fun L st S => o_get L st S (fun L st S => V MX2_collect h 51 L st S Q) 2 4 (5, 5, 0)) 0) : V MX2_collect h 47 L st S Q :=
  v_aload_n dX2_collect_47 rfl (fun L st S k => v_get dX2_collect_48 rfl iX2 LY_2 rfl (by decide) rfl fl_X2_30 (fun L st S k => k) k) k
theorem k_X2_collect_51 {h : Nat} {L : LVs} {st : List AV} {S : ST} {Q Q' : Option AV → ST → Prop} {j : Nat} (hC : Ct MX5_append h [vR 5 j] S Q') (k : ∀ (r : Option AV) (S' : ST), Q' r S' → V MX2_collect (h + 1) 54 L (r.toList ++ st) S' Q) (hj : j < NI 5) (hw : wid st ≤ 8) : V MX2_collect (h + 1) 51 L (vR 5 j :: st) S Q :=
  v_callV (M' := MX5_append) (c := 5) (As := []) dX2_collect_51 ml_X2_182 im_X5_append se_X5_append in_X5 cd_X5_append rfl LY_5 np_X5_append (by decide) hw hj hC k
theorem b_X2_collect_54 {h : Nat} {L : LVs} {st : List AV} {S : ST} {Q : Option AV → ST → Prop} (k : V MX2_collect h 85 L st S Q) : V MX2_collect h 54 L st S Q :=
  v_goto dX2_collect_54 (by decide) k
theorem b_X2_collect_57 {h : Nat} {L : LVs} {st : List AV} {S : ST} {Q : Option AV → ST → Prop} (k : o_al L st S (fun L st S => V MX2_collect h 58 L st S Q) 0) : V MX2_collect h 57 L st S Q :=
  v_aload_n dX2_collect_57 rfl (fun L st S k => k) k
theorem k_X2_collect_58 {h : Nat} {L : LVs} {st : List AV} {S : ST} {Q Q' : Option AV → ST → Prop} {j : Nat} (hC : Ct MX2_startGroup h [vR 2 j] S Q') (k : ∀ (r : Option AV) (S' : ST), Q' r S' → V MX2_collect (h + 1) 61 L (r.toList ++ st) S' Q) (hj : j < NI 2) (hw : wid st ≤ 8) : V MX2_collect (h + 1) 58 L (vR 2 j :: st) S Q :=
  v_callV (M' := MX2_startGroup) (c := 2) (As := []) dX2_collect_58 ml_X2_185 im_X2_startGroup se_X2_startGroup in_X2 cd_X2_startGroup rfl LY_2 np_X2_startGroup (by decide) hw hj hC k
theorem b_X2_collect_61 {h : Nat} {L : LVs} {st : List AV} {S : ST} {Q : Option AV → ST → Prop} (k : V MX2_collect h 85 L st S Q) : V MX2_collect h 61 L st S Q :=
  v_goto dX2_collect_61 (by decide) k
theorem b_X2_collect_64 {h : Nat} {L : LVs} {st : List AV} {S : ST} {Q : Option AV → ST → Prop} (k : o_al L st S (fun L st S => o_al L st S (fun L st S => V MX2_collect h 66 L st S Q) 0) 0) : V MX2_collect h 64 L st S Q :=
  v_aload_n dX2_collect_64 rfl (fun L st S k => v_aload_n dX2_collect_65 rfl (fun L st S k => k) k) k
theorem k_X2_collect_66 {h : Nat} {L : LVs} {st : List AV} {S : ST} {Q Q' : Option AV → ST → Prop} {j : Nat} (hC : Ct MX2_pop h [vR 2 j] S Q') (k : ∀ (r : Option AV) (S' : ST), Q' r S' → V MX2_collect (h + 1) 69 L (r.toList ++ st) S' Q) (hj : j < NI 2) (hw : wid st ≤ 8) : V MX2_collect (h + 1) 66 L (vR 2 j :: st) S Q :=
  v_callV (M' := MX2_pop) (c := 2) (As := []) dX2_collect_66 ml_X2_138 im_X2_pop se_X2_pop in_X2 cd_X2_pop rfl LY_2 np_X2_pop (by decide) hw hj hC k
theorem k_X2_collect_69 {h : Nat} {L : LVs} {st : List AV} {S : ST} {Q Q' : Option AV → ST → Prop} {j : Nat} {a0 : AV} (hC : Ct MX2_findGroup h [vR 2 j, a0] S Q') (k : ∀ (r : Option AV) (S' : ST), Q' r S' → V MX2_collect (h + 1) 72 L (r.toList ++ st) S' Q) (hj : j < NI 2) (hw : wid st ≤ 8) : V MX2_collect (h + 1) 69 L (a0 :: vR 2 j :: st) S Q :=
  v_callV (M' := MX2_findGroup) (c := 2) (As := [a0]) dX2_collect_69 ml_X2_188 im_X2_findGroup se_X2_findGroup in_X2 cd_X2_findGroup rfl LY_2 np_X2_findGroup (by decide) hw hj hC k
theorem b_X2_collect_72 {h : Nat} {L : LVs} {st : List AV} {S : ST} {Q : Option AV → ST → Prop} (k : V MX2_collect h 85 L st S Q) : V MX2_collect h 72 L st S Q :=
  v_goto dX2_collect_72 (by decide) k
theorem b_X2_collect_75 {h : Nat} {L : LVs} {st : List AV} {S : ST} {Q : Option AV → ST → Prop} (k : o_al L st S (fun L st S => o_il L st S (fun L st S => o_il L st S (fun L st S => o_al L st S (fun L st S => V MX2_collect h 79 L st S Q) 0) 2) 1) 0) : V MX2_collect h 75 L st S Q :=
  v_aload_n dX2_collect_75 rfl (fun L st S k => v_iload_n dX2_collect_76 rfl (fun L st S k => v_iload_n dX2_collect_77 rfl (fun L st S k => v_aload_n dX2_collect_78 rfl (fun L st S k => k) k) k) k) k
theorem k_X2_collect_79 {h : Nat} {L : LVs} {st : List AV} {S : ST} {Q Q' : Option AV → ST → Prop} {j : Nat} (hC : Ct MX2_pop h [vR 2 j] S Q') (k : ∀ (r : Option AV) (S' : ST), Q' r S' → V MX2_collect (h + 1) 82 L (r.toList ++ st) S' Q) (hj : j < NI 2) (hw : wid st ≤ 8) : V MX2_collect (h + 1) 79 L (vR 2 j :: st) S Q :=
  v_callV (M' := MX2_pop) (c := 2) (As := []) dX2_collect_79 ml_X2_138 im_X2_pop se_X2_pop in_X2 cd_X2_pop rfl LY_2 np_X2_pop (by decide) hw hj hC k
theorem k_X2_collect_82 {h : Nat} {L : LVs} {st : List AV} {S : ST} {Q Q' : Option AV → ST → Prop} {j : Nat} {a0 a1 a2 : AV} (hC : Ct MX2_gather h [vR 2 j, a0, a1, a2] S Q') (k : ∀ (r : Option AV) (S' : ST), Q' r S' → V MX2_collect (h + 1) 85 L (r.toList ++ st) S' Q) (hj : j < NI 2) (hw : wid st ≤ 8) : V MX2_collect (h + 1) 82 L (a2 :: a1 :: a0 :: vR 2 j :: st) S Q :=
  v_callV (M' := MX2_gather) (c := 2) (As := [a0, a1, a2]) dX2_collect_82 ml_X2_191 im_X2_gather se_X2_gather in_X2 cd_X2_gather rfl LY_2 np_X2_gather (by decide) hw hj hC k
theorem b_X2_collect_85 {h : Nat} {L : LVs} {st : List AV} {S : ST} {Q : Option AV → ST → Prop} (k : t_vr st S Q) : V MX2_collect h 85 L st S Q :=
  w_vr dX2_collect_85 rfl k
-- QueryForge$Machine.findGroup(J)V
theorem dX2_findGroup_0 : decode cX2_findGroup 0 = .ok (.aload_n 0, 1) := by decide +kernel
theorem dX2_findGroup_1 : decode cX2_findGroup 1 = .ok (.aload_n 0, 1) := by decide +kernel
theorem dX2_findGroup_2 : decode cX2_findGroup 2 = .ok (.getfield 30, 3) := by decide +kernel
theorem dX2_findGroup_5 : decode cX2_findGroup 5 = .ok (.lload_n 1, 1) := by decide +kernel
theorem dX2_findGroup_6 : decode cX2_findGroup 6 = .ok (.invokevirtual 195, 3) := by decide +kernel
theorem dX2_findGroup_9 : decode cX2_findGroup 9 = .ok (.putfield 64, 3) := by decide +kernel
theorem dX2_findGroup_12 : decode cX2_findGroup 12 = .ok (.aload_n 0, 1) := by decide +kernel
theorem dX2_findGroup_13 : decode cX2_findGroup 13 = .ok (.getfield 64, 3) := by decide +kernel
theorem dX2_findGroup_16 : decode cX2_findGroup 16 = .ok (.iconst (-1), 1) := by decide +kernel
theorem dX2_findGroup_17 : decode cX2_findGroup 17 = .ok (.if_icmp .ne 20, 3) := by decide +kernel
theorem dX2_findGroup_20 : decode cX2_findGroup 20 = .ok (.aload_n 0, 1) := by decide +kernel
theorem dX2_findGroup_21 : decode cX2_findGroup 21 = .ok (.invokevirtual 185, 3) := by decide +kernel
theorem dX2_findGroup_24 : decode cX2_findGroup 24 = .ok (.aload_n 0, 1) := by decide +kernel
theorem dX2_findGroup_25 : decode cX2_findGroup 25 = .ok (.getfield 30, 3) := by decide +kernel
theorem dX2_findGroup_28 : decode cX2_findGroup 28 = .ok (.aload_n 0, 1) := by decide +kernel
theorem dX2_findGroup_29 : decode cX2_findGroup 29 = .ok (.getfield 64, 3) := by decide +kernel
theorem dX2_findGroup_32 : decode cX2_findGroup 32 = .ok (.iconst 0, 1) := by decide +kernel
theorem dX2_findGroup_33 : decode cX2_findGroup 33 = .ok (.lload_n 1, 1) := by decide +kernel
theorem dX2_findGroup_34 : decode cX2_findGroup 34 = .ok (.invokevirtual 199, 3) := by decide +kernel
theorem dX2_findGroup_37 : decode cX2_findGroup 37 = .ok (.return_, 1) := by decide +kernel
theorem b_X2_findGroup_0 {h : Nat} {L : LVs} {st : List AV} {S : ST} {Q : Option AV → ST → Prop} (k : o_al L st S (fun L st S => o_al L st S (fun L st S => o_get L st S (fun L st S => o_ll L st S (fun L st S => V MX2_findGroup h 6 L st S Q) 1) 2 4 (5, 5, 0)) 0) 0) : V MX2_findGroup h 0 L st S Q :=
  v_aload_n dX2_findGroup_0 rfl (fun L st S k => v_aload_n dX2_findGroup_1 rfl (fun L st S k => v_get dX2_findGroup_2 rfl iX2 LY_2 rfl (by decide) rfl fl_X2_30 (fun L st S k => v_lload_n dX2_findGroup_5 rfl (fun L st S k => k) k) k) k) k
theorem k_X2_findGroup_6 {h : Nat} {L : LVs} {st : List AV} {S : ST} {Q Q' : Option AV → ST → Prop} {j : Nat} {a0 : AV} (hC : Ct MX5_findFirstItem h [vR 5 j, a0] S Q') (k : ∀ (r : Option AV) (S' : ST), Q' r S' → V MX2_findGroup (h + 1) 9 L (r.toList ++ st) S' Q) (hj : j < NI 5) (hw : wid st ≤ 8) : V MX2_findGroup (h + 1) 6 L (a0 :: vR 5 j :: st) S Q :=
  v_callV (M' := MX5_findFirstItem) (c := 5) (As := [a0]) dX2_findGroup_6 ml_X2_195 im_X5_findFirstItem se_X5_findFirstItem in_X5 cd_X5_findFirstItem rfl LY_5 np_X5_findFirstItem (by decide) hw hj hC k
theorem b_X2_findGroup_9 {h : Nat} {L : LVs} {st : List AV} {S : ST} {Q : Option AV → ST → Prop} (k : o_puti L st S (fun L st S => o_al L st S (fun L st S => o_get L st S (fun L st S => o_c L st S (fun L st S => t_2 L st S (fun x y => x = y) (fun L st S => V MX2_findGroup h 20 L st S Q) (fun L st S => V MX2_findGroup h 37 L st S Q)) (-1)) 2 10 (0, 0, 0)) 0) 2 10) : V MX2_findGroup h 9 L st S Q :=
  v_puti dX2_findGroup_9 rfl iX2 tyX2_ok nmX2 LY_2 rfl (by decide) rfl fl_X2_64 rfl rfl (fun L st S k => v_aload_n dX2_findGroup_12 rfl (fun L st S k => v_get dX2_findGroup_13 rfl iX2 LY_2 rfl (by decide) rfl fl_X2_64 (fun L st S k => v_iconst dX2_findGroup_16 (by decide) (fun L st S k => w_icmp_ne dX2_findGroup_17 (by decide) rfl k) k) k) k) k
theorem b_X2_findGroup_20 {h : Nat} {L : LVs} {st : List AV} {S : ST} {Q : Option AV → ST → Prop} (k : o_al L st S (fun L st S => V MX2_findGroup h 21 L st S Q) 0) : V MX2_findGroup h 20 L st S Q :=
  v_aload_n dX2_findGroup_20 rfl (fun L st S k => k) k
theorem k_X2_findGroup_21 {h : Nat} {L : LVs} {st : List AV} {S : ST} {Q Q' : Option AV → ST → Prop} {j : Nat} (hC : Ct MX2_startGroup h [vR 2 j] S Q') (k : ∀ (r : Option AV) (S' : ST), Q' r S' → V MX2_findGroup (h + 1) 24 L (r.toList ++ st) S' Q) (hj : j < NI 2) (hw : wid st ≤ 8) : V MX2_findGroup (h + 1) 21 L (vR 2 j :: st) S Q :=
  v_callV (M' := MX2_startGroup) (c := 2) (As := []) dX2_findGroup_21 ml_X2_185 im_X2_startGroup se_X2_startGroup in_X2 cd_X2_startGroup rfl LY_2 np_X2_startGroup (by decide) hw hj hC k
theorem b_X2_findGroup_24 {h : Nat} {L : LVs} {st : List AV} {S : ST} {Q : Option AV → ST → Prop} (k : o_al L st S (fun L st S => o_get L st S (fun L st S => o_al L st S (fun L st S => o_get L st S (fun L st S => o_c L st S (fun L st S => o_ll L st S (fun L st S => V MX2_findGroup h 34 L st S Q) 1) (nI 0)) 2 10 (0, 0, 0)) 0) 2 4 (5, 5, 0)) 0) : V MX2_findGroup h 24 L st S Q :=
  v_aload_n dX2_findGroup_24 rfl (fun L st S k => v_get dX2_findGroup_25 rfl iX2 LY_2 rfl (by decide) rfl fl_X2_30 (fun L st S k => v_aload_n dX2_findGroup_28 rfl (fun L st S k => v_get dX2_findGroup_29 rfl iX2 LY_2 rfl (by decide) rfl fl_X2_64 (fun L st S k => v_iconst dX2_findGroup_32 (by decide) (fun L st S k => v_lload_n dX2_findGroup_33 rfl (fun L st S k => k) k) k) k) k) k) k
theorem k_X2_findGroup_34 {h : Nat} {L : LVs} {st : List AV} {S : ST} {Q Q' : Option AV → ST → Prop} {j : Nat} {a0 a1 a2 : AV} (hC : Ct MX5_set h [vR 5 j, a0, a1, a2] S Q') (k : ∀ (r : Option AV) (S' : ST), Q' r S' → V MX2_findGroup (h + 1) 37 L (r.toList ++ st) S' Q) (hj : j < NI 5) (hw : wid st ≤ 8) : V MX2_findGroup (h + 1) 34 L (a2 :: a1 :: a0 :: vR 5 j :: st) S Q :=
  v_callV (M' := MX5_set) (c := 5) (As := [a0, a1, a2]) dX2_findGroup_34 ml_X2_199 im_X5_set se_X5_set in_X5 cd_X5_set rfl LY_5 np_X5_set (by decide) hw hj hC k
theorem b_X2_findGroup_37 {h : Nat} {L : LVs} {st : List AV} {S : ST} {Q : Option AV → ST → Prop} (k : t_vr st S Q) : V MX2_findGroup h 37 L st S Q :=
  w_vr dX2_findGroup_37 rfl k
-- QueryForge$Machine.startGroup()V
theorem dX2_startGroup_0 : decode cX2_startGroup 0 = .ok (.aload_n 0, 1) := by decide +kernel
theorem dX2_startGroup_1 : decode cX2_startGroup 1 = .ok (.aload_n 0, 1) := by decide +kernel
theorem dX2_startGroup_2 : decode cX2_startGroup 2 = .ok (.getfield 30, 3) := by decide +kernel
theorem dX2_startGroup_5 : decode cX2_startGroup 5 = .ok (.invokevirtual 202, 3) := by decide +kernel
theorem dX2_startGroup_8 : decode cX2_startGroup 8 = .ok (.putfield 64, 3) := by decide +kernel
theorem dX2_startGroup_11 : decode cX2_startGroup 11 = .ok (.aload_n 0, 1) := by decide +kernel
theorem dX2_startGroup_12 : decode cX2_startGroup 12 = .ok (.getfield 30, 3) := by decide +kernel
theorem dX2_startGroup_15 : decode cX2_startGroup 15 = .ok (.invokevirtual 203, 3) := by decide +kernel
theorem dX2_startGroup_18 : decode cX2_startGroup 18 = .ok (.return_, 1) := by decide +kernel
theorem b_X2_startGroup_0 {h : Nat} {L : LVs} {st : List AV} {S : ST} {Q : Option AV → ST → Prop} (k : o_al L st S (fun L st S => o_al L st S (fun L st S => o_get L st S (fun L st S => V MX2_startGroup h 5 L st S Q) 2 4 (5, 5, 0)) 0) 0) : V MX2_startGroup h 0 L st S Q :=
  v_aload_n dX2_startGroup_0 rfl (fun L st S k => v_aload_n dX2_startGroup_1 rfl (fun L st S k => v_get dX2_startGroup_2 rfl iX2 LY_2 rfl (by decide) rfl fl_X2_30 (fun L st S k => k) k) k) k
theorem k_X2_startGroup_5 {h : Nat} {L : LVs} {st : List AV} {S : ST} {Q Q' : Option AV → ST → Prop} {j : Nat} (hC : Ct MX5_rowCount h [vR 5 j] S Q') (k : ∀ (r : Option AV) (S' : ST), Q' r S' → V MX2_startGroup (h + 1) 8 L (r.toList ++ st) S' Q) (hj : j < NI 5) (hw : wid st ≤ 8) : V MX2_startGroup (h + 1) 5 L (vR 5 j :: st) S Q :=
  v_callV (M' := MX5_rowCount) (c := 5) (As := []) dX2_startGroup_5 ml_X2_202 im_X5_rowCount se_X5_rowCount in_X5 cd_X5_rowCount rfl LY_5 np_X5_rowCount (by decide) hw hj hC k
theorem b_X2_startGroup_8 {h : Nat} {L : LVs} {st : List AV} {S : ST} {Q : Option AV → ST → Prop} (k : o_puti L st S (fun L st S => o_al L st S (fun L st S => o_get L st S (fun L st S => V MX2_startGroup h 15 L st S Q) 2 4 (5, 5, 0)) 0) 2 10) : V MX2_startGroup h 8 L st S Q :=
  v_puti dX2_startGroup_8 rfl iX2 tyX2_ok nmX2 LY_2 rfl (by decide) rfl fl_X2_64 rfl rfl (fun L st S k => v_aload_n dX2_startGroup_11 rfl (fun L st S k => v_get dX2_startGroup_12 rfl iX2 LY_2 rfl (by decide) rfl fl_X2_30 (fun L st S k => k) k) k) k
theorem k_X2_startGroup_15 {h : Nat} {L : LVs} {st : List AV} {S : ST} {Q Q' : Option AV → ST → Prop} {j : Nat} (hC : Ct MX5_appendMissing h [vR 5 j] S Q') (k : ∀ (r : Option AV) (S' : ST), Q' r S' → V MX2_startGroup (h + 1) 18 L (r.toList ++ st) S' Q) (hj : j < NI 5) (hw : wid st ≤ 8) : V MX2_startGroup (h + 1) 15 L (vR 5 j :: st) S Q :=
  v_callV (M' := MX5_appendMissing) (c := 5) (As := []) dX2_startGroup_15 ml_X2_203 im_X5_appendMissing se_X5_appendMissing in_X5 cd_X5_appendMissing rfl LY_5 np_X5_appendMissing (by decide) hw hj hC k
theorem b_X2_startGroup_18 {h : Nat} {L : LVs} {st : List AV} {S : ST} {Q : Option AV → ST → Prop} (k : t_vr st S Q) : V MX2_startGroup h 18 L st S Q :=
  w_vr dX2_startGroup_18 rfl k
-- QueryForge$Machine.gather(IIJ)V
theorem dX2_gather_0 : decode cX2_gather 0 = .ok (.lload_n 3, 1) := by decide +kernel
theorem dX2_gather_1 : decode cX2_gather 1 = .ok (.ldc2_w 120, 3) := by decide +kernel
theorem dX2_gather_4 : decode cX2_gather 4 = .ok (.lcmp, 1) := by decide +kernel
theorem dX2_gather_5 : decode cX2_gather 5 = .ok (.ifCond .ne 4, 3) := by decide +kernel
theorem dX2_gather_8 : decode cX2_gather 8 = .ok (.return_, 1) := by decide +kernel
theorem dX2_gather_9 : decode cX2_gather 9 = .ok (.aload_n 0, 1) := by decide +kernel
theorem dX2_gather_10 : decode cX2_gather 10 = .ok (.getfield 30, 3) := by decide +kernel
theorem dX2_gather_13 : decode cX2_gather 13 = .ok (.aload_n 0, 1) := by decide +kernel
theorem dX2_gather_14 : decode cX2_gather 14 = .ok (.getfield 64, 3) := by decide +kernel
theorem dX2_gather_17 : decode cX2_gather 17 = .ok (.iload_n 2, 1) := by decide +kernel
theorem dX2_gather_18 : decode cX2_gather 18 = .ok (.invokevirtual 206, 3) := by decide +kernel
theorem dX2_gather_21 : decode cX2_gather 21 = .ok (.lstore 5, 2) := by decide +kernel
theorem dX2_gather_23 : decode cX2_gather 23 = .ok (.lload 5, 2) := by decide +kernel
theorem dX2_gather_25 : decode cX2_gather 25 = .ok (.ldc2_w 120, 3) := by decide +kernel
theorem dX2_gather_28 : decode cX2_gather 28 = .ok (.lcmp, 1) := by decide +kernel
theorem dX2_gather_29 : decode cX2_gather 29 = .ok (.ifCond .ne 7, 3) := by decide +kernel
theorem dX2_gather_32 : decode cX2_gather 32 = .ok (.iconst 1, 1) := by decide +kernel
theorem dX2_gather_33 : decode cX2_gather 33 = .ok (.goto 4, 3) := by decide +kernel
theorem dX2_gather_36 : decode cX2_gather 36 = .ok (.iconst 0, 1) := by decide +kernel
theorem dX2_gather_37 : decode cX2_gather 37 = .ok (.istore 7, 2) := by decide +kernel
theorem dX2_gather_39 : decode cX2_gather 39 = .ok (.iload_n 1, 1) := by decide +kernel
theorem dX2_gather_40 : decode cX2_gather 40 = .ok (.tableswitch 114 32 34 #[28, 56, 84], 28) := by decide +kernel
theorem dX2_gather_68 : decode cX2_gather 68 = .ok (.aload_n 0, 1) := by decide +kernel
theorem dX2_gather_69 : decode cX2_gather 69 = .ok (.getfield 30, 3) := by decide +kernel
theorem dX2_gather_72 : decode cX2_gather 72 = .ok (.aload_n 0, 1) := by decide +kernel
theorem dX2_gather_73 : decode cX2_gather 73 = .ok (.getfield 64, 3) := by decide +kernel
theorem dX2_gather_76 : decode cX2_gather 76 = .ok (.iload_n 2, 1) := by decide +kernel
theorem dX2_gather_77 : decode cX2_gather 77 = .ok (.iload 7, 2) := by decide +kernel
theorem dX2_gather_79 : decode cX2_gather 79 = .ok (.ifCond .eq 7, 3) := by decide +kernel
theorem dX2_gather_82 : decode cX2_gather 82 = .ok (.lconst 1, 1) := by decide +kernel
theorem dX2_gather_83 : decode cX2_gather 83 = .ok (.goto 7, 3) := by decide +kernel
theorem dX2_gather_86 : decode cX2_gather 86 = .ok (.lload 5, 2) := by decide +kernel
theorem dX2_gather_88 : decode cX2_gather 88 = .ok (.lconst 1, 1) := by decide +kernel
theorem dX2_gather_89 : decode cX2_gather 89 = .ok (.ladd, 1) := by decide +kernel
theorem dX2_gather_90 : decode cX2_gather 90 = .ok (.invokevirtual 199, 3) := by decide +kernel
theorem dX2_gather_93 : decode cX2_gather 93 = .ok (.goto 88, 3) := by decide +kernel
theorem dX2_gather_96 : decode cX2_gather 96 = .ok (.aload_n 0, 1) := by decide +kernel
theorem dX2_gather_97 : decode cX2_gather 97 = .ok (.getfield 30, 3) := by decide +kernel
theorem dX2_gather_100 : decode cX2_gather 100 = .ok (.aload_n 0, 1) := by decide +kernel
theorem dX2_gather_101 : decode cX2_gather 101 = .ok (.getfield 64, 3) := by decide +kernel
theorem dX2_gather_104 : decode cX2_gather 104 = .ok (.iload_n 2, 1) := by decide +kernel
theorem dX2_gather_105 : decode cX2_gather 105 = .ok (.iload 7, 2) := by decide +kernel
theorem dX2_gather_107 : decode cX2_gather 107 = .ok (.ifCond .eq 7, 3) := by decide +kernel
theorem dX2_gather_110 : decode cX2_gather 110 = .ok (.lload_n 3, 1) := by decide +kernel
theorem dX2_gather_111 : decode cX2_gather 111 = .ok (.goto 7, 3) := by decide +kernel
theorem dX2_gather_114 : decode cX2_gather 114 = .ok (.lload 5, 2) := by decide +kernel
theorem dX2_gather_116 : decode cX2_gather 116 = .ok (.lload_n 3, 1) := by decide +kernel
theorem dX2_gather_117 : decode cX2_gather 117 = .ok (.ladd, 1) := by decide +kernel
theorem dX2_gather_118 : decode cX2_gather 118 = .ok (.invokevirtual 199, 3) := by decide +kernel
theorem dX2_gather_121 : decode cX2_gather 121 = .ok (.goto 60, 3) := by decide +kernel
theorem dX2_gather_124 : decode cX2_gather 124 = .ok (.aload_n 0, 1) := by decide +kernel
theorem dX2_gather_125 : decode cX2_gather 125 = .ok (.getfield 30, 3) := by decide +kernel
theorem dX2_gather_128 : decode cX2_gather 128 = .ok (.aload_n 0, 1) := by decide +kernel
theorem dX2_gather_129 : decode cX2_gather 129 = .ok (.getfield 64, 3) := by decide +kernel
theorem dX2_gather_132 : decode cX2_gather 132 = .ok (.iload_n 2, 1) := by decide +kernel
theorem dX2_gather_133 : decode cX2_gather 133 = .ok (.iload 7, 2) := by decide +kernel
theorem dX2_gather_135 : decode cX2_gather 135 = .ok (.ifCond .eq 7, 3) := by decide +kernel
theorem dX2_gather_138 : decode cX2_gather 138 = .ok (.lload_n 3, 1) := by decide +kernel
theorem dX2_gather_139 : decode cX2_gather 139 = .ok (.goto 9, 3) := by decide +kernel
theorem dX2_gather_142 : decode cX2_gather 142 = .ok (.lload 5, 2) := by decide +kernel
theorem dX2_gather_144 : decode cX2_gather 144 = .ok (.lload_n 3, 1) := by decide +kernel
theorem dX2_gather_145 : decode cX2_gather 145 = .ok (.invokestatic 159, 3) := by decide +kernel
theorem dX2_gather_148 : decode cX2_gather 148 = .ok (.invokevirtual 199, 3) := by decide +kernel
theorem dX2_gather_151 : decode cX2_gather 151 = .ok (.goto 30, 3) := by decide +kernel
theorem dX2_gather_154 : decode cX2_gather 154 = .ok (.aload_n 0, 1) := by decide +kernel
theorem dX2_gather_155 : decode cX2_gather 155 = .ok (.getfield 30, 3) := by decide +kernel
theorem dX2_gather_158 : decode cX2_gather 158 = .ok (.aload_n 0, 1) := by decide +kernel
theorem dX2_gather_159 : decode cX2_gather 159 = .ok (.getfield 64, 3) := by decide +kernel
theorem dX2_gather_162 : decode cX2_gather 162 = .ok (.iload_n 2, 1) := by decide +kernel
theorem dX2_gather_163 : decode cX2_gather 163 = .ok (.iload 7, 2) := by decide +kernel
theorem dX2_gather_165 : decode cX2_gather 165 = .ok (.ifCond .eq 7, 3) := by decide +kernel
theorem dX2_gather_168 : decode cX2_gather 168 = .ok (.lload_n 3, 1) := by decide +kernel
theorem dX2_gather_169 : decode cX2_gather 169 = .ok (.goto 9, 3) := by decide +kernel
theorem dX2_gather_172 : decode cX2_gather 172 = .ok (.lload 5, 2) := by decide +kernel
theorem dX2_gather_174 : decode cX2_gather 174 = .ok (.lload_n 3, 1) := by decide +kernel
theorem dX2_gather_175 : decode cX2_gather 175 = .ok (.invokestatic 165, 3) := by decide +kernel
theorem dX2_gather_178 : decode cX2_gather 178 = .ok (.invokevirtual 199, 3) := by decide +kernel
theorem dX2_gather_181 : decode cX2_gather 181 = .ok (.return_, 1) := by decide +kernel
theorem b_X2_gather_0 {h : Nat} {L : LVs} {st : List AV} {S : ST} {Q : Option AV → ST → Prop} (k : o_ll L st S (fun L st S => o_lc L st S (fun L st S => o_lcmp L st S (fun L st S => t_1 L st S (fun x => x = nI 0) (fun L st S => V MX2_gather h 8 L st S Q) (fun L st S => V MX2_gather h 9 L st S Q))) (-4611686018427387904)) 3) : V MX2_gather h 0 L st S Q :=
  v_lload_n dX2_gather_0 rfl (fun L st S k => v_ldc2 dX2_gather_1 kl_X2_120 (fun L st S k => v_lcmp dX2_gather_4 (fun L st S k => w_if_ne dX2_gather_5 (by decide) rfl k) k) k) k
theorem b_X2_gather_8 {h : Nat} {L : LVs} {st : List AV} {S : ST} {Q : Option AV → ST → Prop} (k : t_vr st S Q) : V MX2_gather h 8 L st S Q :=
  w_vr dX2_gather_8 rfl k
theorem b_X2_gather_9 {h : Nat} {L : LVs} {st : List AV} {S : ST} {Q : Option AV → ST → Prop} (k : o_al L st S (fun L st S => o_get L st S (fun L st S => o_al L st S (fun L st S => o_get L st S (fun L st S => o_il L st S (fun L st S => V MX2_gather h 18 L st S Q) 2) 2 10 (0, 0, 0)) 0) 2 4 (5, 5, 0)) 0) : V MX2_gather h 9 L st S Q :=
  v_aload_n dX2_gather_9 rfl (fun L st S k => v_get dX2_gather_10 rfl iX2 LY_2 rfl (by decide) rfl fl_X2_30 (fun L st S k => v_aload_n dX2_gather_13 rfl (fun L st S k => v_get dX2_gather_14 rfl iX2 LY_2 rfl (by decide) rfl fl_X2_64 (fun L st S k => v_iload_n dX2_gather_17 rfl (fun L st S k => k) k) k) k) k) k
theorem k_X2_gather_18 {h : Nat} {L : LVs} {st : List AV} {S : ST} {Q Q' : Option AV → ST → Prop} {j : Nat} {a0 a1 : AV} (hC : Ct MX5_heldAt h [vR 5 j, a0, a1] S Q') (k : ∀ (r : Option AV) (S' : ST), Q' r S' → V MX2_gather (h + 1) 21 L (r.toList ++ st) S' Q) (hj : j < NI 5) (hw : wid st ≤ 8) : V MX2_gather (h + 1) 18 L (a1 :: a0 :: vR 5 j :: st) S Q :=
  v_callV (M' := MX5_heldAt) (c := 5) (As := [a0, a1]) dX2_gather_18 ml_X2_206 im_X5_heldAt se_X5_heldAt in_X5 cd_X5_heldAt rfl LY_5 np_X5_heldAt (by decide) hw hj hC k
theorem b_X2_gather_21 {h : Nat} {L : LVs} {st : List AV} {S : ST} {Q : Option AV → ST → Prop} (k : o_ls L st S (fun L st S => o_ll L st S (fun L st S => o_lc L st S (fun L st S => o_lcmp L st S (fun L st S => t_1 L st S (fun x => x = nI 0) (fun L st S => V MX2_gather h 32 L st S Q) (fun L st S => V MX2_gather h 36 L st S Q))) (-4611686018427387904)) 5) 5) : V MX2_gather h 21 L st S Q :=
  v_lstore dX2_gather_21 (by decide) (fun L st S k => v_lload dX2_gather_23 (fun L st S k => v_ldc2 dX2_gather_25 kl_X2_120 (fun L st S k => v_lcmp dX2_gather_28 (fun L st S k => w_if_ne dX2_gather_29 (by decide) rfl k) k) k) k) k
theorem b_X2_gather_32 {h : Nat} {L : LVs} {st : List AV} {S : ST} {Q : Option AV → ST → Prop} (k : o_c L st S (fun L st S => V MX2_gather h 37 L st S Q) (nI 1)) : V MX2_gather h 32 L st S Q :=
  v_iconst dX2_gather_32 (by decide) (fun L st S k => v_goto dX2_gather_33 (by decide) k) k
theorem b_X2_gather_36 {h : Nat} {L : LVs} {st : List AV} {S : ST} {Q : Option AV → ST → Prop} (k : o_c L st S (fun L st S => V MX2_gather h 37 L st S Q) (nI 0)) : V MX2_gather h 36 L st S Q :=
  v_iconst dX2_gather_36 (by decide) (fun L st S k => k) k
theorem b_X2_gather_37 {h : Nat} {L : LVs} {st : List AV} {S : ST} {Q : Option AV → ST → Prop} (k : o_is L st S (fun L st S => o_il L st S (fun L st S => t_sw L st S [((nI 32), fun L st S => V MX2_gather h 68 L st S Q), ((nI 33), fun L st S => V MX2_gather h 96 L st S Q), ((nI 34), fun L st S => V MX2_gather h 124 L st S Q)] (fun L st S => V MX2_gather h 154 L st S Q)) 1) 7) : V MX2_gather h 37 L st S Q :=
  v_istore dX2_gather_37 (by decide) (fun L st S k => v_iload_n dX2_gather_39 rfl (fun L st S k => w_tsw [((nI 32), 68), ((nI 33), 96), ((nI 34), 124)] dX2_gather_40 (n := 3) (by decide) rfl (by decide) (by decide) (by decide) k) k) k
theorem b_X2_gather_68 {h : Nat} {L : LVs} {st : List AV} {S : ST} {Q : Option AV → ST → Prop} (k : o_al L st S (fun L st S => o_get L st S (fun L st S => o_al L st S (fun L st S => o_get L st S (fun L st S => o_il L st S (fun L st S => o_il L st S (fun L st S => t_1 L st S (fun x => x = nI 0) (fun L st S => V MX2_gather h 86 L st S Q) (fun L st S => V MX2_gather h 82 L st S Q)) 7) 2) 2 10 (0, 0, 0)) 0) 2 4 (5, 5, 0)) 0) : V MX2_gather h 68 L st S Q :=
  v_aload_n dX2_gather_68 rfl (fun L st S k => v_get dX2_gather_69 rfl iX2 LY_2 rfl (by decide) rfl fl_X2_30 (fun L st S k => v_aload_n dX2_gather_72 rfl (fun L st S k => v_get dX2_gather_73 rfl iX2 LY_2 rfl (by decide) rfl fl_X2_64 (fun L st S k => v_iload_n dX2_gather_76 rfl (fun L st S k => v_iload dX2_gather_77 (fun L st S k => w_if_eq dX2_gather_79 (by decide) rfl k) k) k) k) k) k) k
theorem b_X2_gather_82 {h : Nat} {L : LVs} {st : List AV} {S : ST} {Q : Option AV → ST → Prop} (k : o_lc L st S (fun L st S => V MX2_gather h 90 L st S Q) (lN 1)) : V MX2_gather h 82 L st S Q :=
  v_lconst dX2_gather_82 (by decide) (fun L st S k => v_goto dX2_gather_83 (by decide) k) k
theorem b_X2_gather_86 {h : Nat} {L : LVs} {st : List AV} {S : ST} {Q : Option AV → ST → Prop} (k : o_ll L st S (fun L st S => o_lc L st S (fun L st S => o_ladd L st S (fun L st S => V MX2_gather h 90 L st S Q)) (lN 1)) 5) : V MX2_gather h 86 L st S Q :=
  v_lload dX2_gather_86 (fun L st S k => v_lconst dX2_gather_88 (by decide) (fun L st S k => v_ladd dX2_gather_89 (fun L st S k => k) k) k) k
theorem k_X2_gather_90 {h : Nat} {L : LVs} {st : List AV} {S : ST} {Q Q' : Option AV → ST → Prop} {j : Nat} {a0 a1 a2 : AV} (hC : Ct MX5_set h [vR 5 j, a0, a1, a2] S Q') (k : ∀ (r : Option AV) (S' : ST), Q' r S' → V MX2_gather (h + 1) 93 L (r.toList ++ st) S' Q) (hj : j < NI 5) (hw : wid st ≤ 8) : V MX2_gather (h + 1) 90 L (a2 :: a1 :: a0 :: vR 5 j :: st) S Q :=
  v_callV (M' := MX5_set) (c := 5) (As := [a0, a1, a2]) dX2_gather_90 ml_X2_199 im_X5_set se_X5_set in_X5 cd_X5_set rfl LY_5 np_X5_set (by decide) hw hj hC k
theorem b_X2_gather_93 {h : Nat} {L : LVs} {st : List AV} {S : ST} {Q : Option AV → ST → Prop} (k : V MX2_gather h 181 L st S Q) : V MX2_gather h 93 L st S Q :=
  v_goto dX2_gather_93 (by decide) k
theorem b_X2_gather_96 {h : Nat} {L : LVs} {st : List AV} {S : ST} {Q : Option AV → ST → Prop} (k : o_al L st S (fun L st S => o_get L st S (fun L st S => o_al L st S (fun L st S => o_get L st S (fun L st S => o_il L st S (fun L st S => o_il L st S (fun L st S => t_1 L st S (fun x => x = nI 0) (fun L st S => V MX2_gather h 114 L st S Q) (fun L st S => V MX2_gather h 110 L st S Q)) 7) 2) 2 10 (0, 0, 0)) 0) 2 4 (5, 5, 0)) 0) : V MX2_gather h 96 L st S Q :=
  v_aload_n dX2_gather_96 rfl (fun L st S k => v_get dX2_gather_97 rfl iX2 LY_2 rfl (by decide) rfl fl_X2_30 (fun L st S k => v_aload_n dX2_gather_100 rfl (fun L st S k => v_get dX2_gather_101 rfl iX2 LY_2 rfl (by decide) rfl fl_X2_64 (fun L st S k => v_iload_n dX2_gather_104 rfl (fun L st S k => v_iload dX2_gather_105 (fun L st S k => w_if_eq dX2_gather_107 (by decide) rfl k) k) k) k) k) k) k
theorem b_X2_gather_110 {h : Nat} {L : LVs} {st : List AV} {S : ST} {Q : Option AV → ST → Prop} (k : o_ll L st S (fun L st S => V MX2_gather h 118 L st S Q) 3) : V MX2_gather h 110 L st S Q :=
  v_lload_n dX2_gather_110 rfl (fun L st S k => v_goto dX2_gather_111 (by decide) k) k
theorem b_X2_gather_114 {h : Nat} {L : LVs} {st : List AV} {S : ST} {Q : Option AV → ST → Prop} (k : o_ll L st S (fun L st S => o_ll L st S (fun L st S => o_ladd L st S (fun L st S => V MX2_gather h 118 L st S Q)) 3) 5) : V MX2_gather h 114 L st S Q :=
  v_lload dX2_gather_114 (fun L st S k => v_lload_n dX2_gather_116 rfl (fun L st S k => v_ladd dX2_gather_117 (fun L st S k => k) k) k) k
theorem k_X2_gather_118 {h : Nat} {L : LVs} {st : List AV} {S : ST} {Q Q' : Option AV → ST → Prop} {j : Nat} {a0 a1 a2 : AV} (hC : Ct MX5_set h [vR 5 j, a0, a1, a2] S Q') (k : ∀ (r : Option AV) (S' : ST), Q' r S' → V MX2_gather (h + 1) 121 L (r.toList ++ st) S' Q) (hj : j < NI 5) (hw : wid st ≤ 8) : V MX2_gather (h + 1) 118 L (a2 :: a1 :: a0 :: vR 5 j :: st) S Q :=
  v_callV (M' := MX5_set) (c := 5) (As := [a0, a1, a2]) dX2_gather_118 ml_X2_199 im_X5_set se_X5_set in_X5 cd_X5_set rfl LY_5 np_X5_set (by decide) hw hj hC k
theorem b_X2_gather_121 {h : Nat} {L : LVs} {st : List AV} {S : ST} {Q : Option AV → ST → Prop} (k : V MX2_gather h 181 L st S Q) : V MX2_gather h 121 L st S Q :=
  v_goto dX2_gather_121 (by decide) k
theorem b_X2_gather_124 {h : Nat} {L : LVs} {st : List AV} {S : ST} {Q : Option AV → ST → Prop} (k : o_al L st S (fun L st S => o_get L st S (fun L st S => o_al L st S (fun L st S => o_get L st S (fun L st S => o_il L st S (fun L st S => o_il L st S (fun L st S => t_1 L st S (fun x => x = nI 0) (fun L st S => V MX2_gather h 142 L st S Q) (fun L st S => V MX2_gather h 138 L st S Q)) 7) 2) 2 10 (0, 0, 0)) 0) 2 4 (5, 5, 0)) 0) : V MX2_gather h 124 L st S Q :=
  v_aload_n dX2_gather_124 rfl (fun L st S k => v_get dX2_gather_125 rfl iX2 LY_2 rfl (by decide) rfl fl_X2_30 (fun L st S k => v_aload_n dX2_gather_128 rfl (fun L st S k => v_get dX2_gather_129 rfl iX2 LY_2 rfl (by decide) rfl fl_X2_64 (fun L st S k => v_iload_n dX2_gather_132 rfl (fun L st S k => v_iload dX2_gather_133 (fun L st S k => w_if_eq dX2_gather_135 (by decide) rfl k) k) k) k) k) k) k
theorem b_X2_gather_138 {h : Nat} {L : LVs} {st : List AV} {S : ST} {Q : Option AV → ST → Prop} (k : o_ll L st S (fun L st S => V MX2_gather h 148 L st S Q) 3) : V MX2_gather h 138 L st S Q :=
  v_lload_n dX2_gather_138 rfl (fun L st S k => v_goto dX2_gather_139 (by decide) k) k
theorem b_X2_gather_142 {h : Nat} {L : LVs} {st : List AV} {S : ST} {Q : Option AV → ST → Prop} (k : o_ll L st S (fun L st S => o_ll L st S (fun L st S => o_lmin L st S (fun L st S => V MX2_gather (h + 1) 148 L st S Q)) 3) 5) : V MX2_gather (h + 1) 142 L st S Q :=
  v_lload dX2_gather_142 (fun L st S k => v_lload_n dX2_gather_144 rfl (fun L st S k => v_lmin dX2_gather_145 mm_X2_159 (fun L st S k => k) k) k) k
theorem k_X2_gather_148 {h : Nat} {L : LVs} {st : List AV} {S : ST} {Q Q' : Option AV → ST → Prop} {j : Nat} {a0 a1 a2 : AV} (hC : Ct MX5_set h [vR 5 j, a0, a1, a2] S Q') (k : ∀ (r : Option AV) (S' : ST), Q' r S' → V MX2_gather (h + 1) 151 L (r.toList ++ st) S' Q) (hj : j < NI 5) (hw : wid st ≤ 8) : V MX2_gather (h + 1) 148 L (a2 :: a1 :: a0 :: vR 5 j :: st) S Q :=
  v_callV (M' := MX5_set) (c := 5) (As := [a0, a1, a2]) dX2_gather_148 ml_X2_199 im_X5_set se_X5_set in_X5 cd_X5_set rfl LY_5 np_X5_set (by decide) hw hj hC k
theorem b_X2_gather_151 {h : Nat} {L : LVs} {st : List AV} {S : ST} {Q : Option AV → ST → Prop} (k : V MX2_gather h 181 L st S Q) : V MX2_gather h 151 L st S Q :=
  v_goto dX2_gather_151 (by decide) k
theorem b_X2_gather_154 {h : Nat} {L : LVs} {st : List AV} {S : ST} {Q : Option AV → ST → Prop} (k : o_al L st S (fun L st S => o_get L st S (fun L st S => o_al L st S (fun L st S => o_get L st S (fun L st S => o_il L st S (fun L st S => o_il L st S (fun L st S => t_1 L st S (fun x => x = nI 0) (fun L st S => V MX2_gather h 172 L st S Q) (fun L st S => V MX2_gather h 168 L st S Q)) 7) 2) 2 10 (0, 0, 0)) 0) 2 4 (5, 5, 0)) 0) : V MX2_gather h 154 L st S Q :=
  v_aload_n dX2_gather_154 rfl (fun L st S k => v_get dX2_gather_155 rfl iX2 LY_2 rfl (by decide) rfl fl_X2_30 (fun L st S k => v_aload_n dX2_gather_158 rfl (fun L st S k => v_get dX2_gather_159 rfl iX2 LY_2 rfl (by decide) rfl fl_X2_64 (fun L st S k => v_iload_n dX2_gather_162 rfl (fun L st S k => v_iload dX2_gather_163 (fun L st S k => w_if_eq dX2_gather_165 (by decide) rfl k) k) k) k) k) k) k
theorem b_X2_gather_168 {h : Nat} {L : LVs} {st : List AV} {S : ST} {Q : Option AV → ST → Prop} (k : o_ll L st S (fun L st S => V MX2_gather h 178 L st S Q) 3) : V MX2_gather h 168 L st S Q :=
  v_lload_n dX2_gather_168 rfl (fun L st S k => v_goto dX2_gather_169 (by decide) k) k
theorem b_X2_gather_172 {h : Nat} {L : LVs} {st : List AV} {S : ST} {Q : Option AV → ST → Prop} (k : o_ll L st S (fun L st S => o_ll L st S (fun L st S => o_lmax L st S (fun L st S => V MX2_gather (h + 1) 178 L st S Q)) 3) 5) : V MX2_gather (h + 1) 172 L st S Q :=
  v_lload dX2_gather_172 (fun L st S k => v_lload_n dX2_gather_174 rfl (fun L st S k => v_lmax dX2_gather_175 mm_X2_165 (fun L st S k => k) k) k) k
theorem k_X2_gather_178 {h : Nat} {L : LVs} {st : List AV} {S : ST} {Q Q' : Option AV → ST → Prop} {j : Nat} {a0 a1 a2 : AV} (hC : Ct MX5_set h [vR 5 j, a0, a1, a2] S Q') (k : ∀ (r : Option AV) (S' : ST), Q' r S' → V MX2_gather (h + 1) 181 L (r.toList ++ st) S' Q) (hj : j < NI 5) (hw : wid st ≤ 8) : V MX2_gather (h + 1) 178 L (a2 :: a1 :: a0 :: vR 5 j :: st) S Q :=
  v_callV (M' := MX5_set) (c := 5) (As := [a0, a1, a2]) dX2_gather_178 ml_X2_199 im_X5_set se_X5_set in_X5 cd_X5_set rfl LY_5 np_X5_set (by decide) hw hj hC k
theorem b_X2_gather_181 {h : Nat} {L : LVs} {st : List AV} {S : ST} {Q : Option AV → ST → Prop} (k : t_vr st S Q) : V MX2_gather h 181 L st S Q :=
  w_vr dX2_gather_181 rfl k
-- QueryForge$Machine.finishRows(II)V
theorem dX2_finishRows_0 : decode cX2_finishRows 0 = .ok (.iload_n 1, 1) := by decide +kernel
theorem dX2_finishRows_1 : decode cX2_finishRows 1 = .ok (.tableswitch 71 36 39 #[31, 39, 47, 59], 31) := by decide +kernel
theorem dX2_finishRows_32 : decode cX2_finishRows 32 = .ok (.aload_n 0, 1) := by decide +kernel
theorem dX2_finishRows_33 : decode cX2_finishRows 33 = .ok (.iload_n 2, 1) := by decide +kernel
theorem dX2_finishRows_34 : decode cX2_finishRows 34 = .ok (.invokevirtual 207, 3) := by decide +kernel
theorem dX2_finishRows_37 : decode cX2_finishRows 37 = .ok (.goto 40, 3) := by decide +kernel
theorem dX2_finishRows_40 : decode cX2_finishRows 40 = .ok (.aload_n 0, 1) := by decide +kernel
theorem dX2_finishRows_41 : decode cX2_finishRows 41 = .ok (.iload_n 2, 1) := by decide +kernel
theorem dX2_finishRows_42 : decode cX2_finishRows 42 = .ok (.invokevirtual 210, 3) := by decide +kernel
theorem dX2_finishRows_45 : decode cX2_finishRows 45 = .ok (.goto 32, 3) := by decide +kernel
theorem dX2_finishRows_48 : decode cX2_finishRows 48 = .ok (.aload_n 0, 1) := by decide +kernel
theorem dX2_finishRows_49 : decode cX2_finishRows 49 = .ok (.getfield 30, 3) := by decide +kernel
theorem dX2_finishRows_52 : decode cX2_finishRows 52 = .ok (.iload_n 2, 1) := by decide +kernel
theorem dX2_finishRows_53 : decode cX2_finishRows 53 = .ok (.iconst 0, 1) := by decide +kernel
theorem dX2_finishRows_54 : decode cX2_finishRows 54 = .ok (.invokevirtual 213, 3) := by decide +kernel
theorem dX2_finishRows_57 : decode cX2_finishRows 57 = .ok (.goto 20, 3) := by decide +kernel
theorem dX2_finishRows_60 : decode cX2_finishRows 60 = .ok (.aload_n 0, 1) := by decide +kernel
theorem dX2_finishRows_61 : decode cX2_finishRows 61 = .ok (.getfield 30, 3) := by decide +kernel
theorem dX2_finishRows_64 : decode cX2_finishRows 64 = .ok (.iload_n 2, 1) := by decide +kernel
theorem dX2_finishRows_65 : decode cX2_finishRows 65 = .ok (.iconst 1, 1) := by decide +kernel
theorem dX2_finishRows_66 : decode cX2_finishRows 66 = .ok (.invokevirtual 213, 3) := by decide +kernel
theorem dX2_finishRows_69 : decode cX2_finishRows 69 = .ok (.goto 8, 3) := by decide +kernel
theorem dX2_finishRows_72 : decode cX2_finishRows 72 = .ok (.aload_n 0, 1) := by decide +kernel
theorem dX2_finishRows_73 : decode cX2_finishRows 73 = .ok (.iload_n 2, 1) := by decide +kernel
theorem dX2_finishRows_74 : decode cX2_finishRows 74 = .ok (.invokevirtual 217, 3) := by decide +kernel
theorem dX2_finishRows_77 : decode cX2_finishRows 77 = .ok (.return_, 1) := by decide +kernel
theorem b_X2_finishRows_0 {h : Nat} {L : LVs} {st : List AV} {S : ST} {Q : Option AV → ST → Prop} (k : o_il L st S (fun L st S => t_sw L st S [((nI 36), fun L st S => V MX2_finishRows h 32 L st S Q), ((nI 37), fun L st S => V MX2_finishRows h 40 L st S Q), ((nI 38), fun L st S => V MX2_finishRows h 48 L st S Q), ((nI 39), fun L st S => V MX2_finishRows h 60 L st S Q)] (fun L st S => V MX2_finishRows h 72 L st S Q)) 1) : V MX2_finishRows h 0 L st S Q :=
  v_iload_n dX2_finishRows_0 rfl (fun L st S k => w_tsw [((nI 36), 32), ((nI 37), 40), ((nI 38), 48), ((nI 39), 60)] dX2_finishRows_1 (n := 4) (by decide) rfl (by decide) (by decide) (by decide) k) k
theorem b_X2_finishRows_32 {h : Nat} {L : LVs} {st : List AV} {S : ST} {Q : Option AV → ST → Prop} (k : o_al L st S (fun L st S => o_il L st S (fun L st S => V MX2_finishRows h 34 L st S Q) 2) 0) : V MX2_finishRows h 32 L st S Q :=
  v_aload_n dX2_finishRows_32 rfl (fun L st S k => v_iload_n dX2_finishRows_33 rfl (fun L st S k => k) k) k
theorem k_X2_finishRows_34 {h : Nat} {L : LVs} {st : List AV} {S : ST} {Q Q' : Option AV → ST → Prop} {j : Nat} {a0 : AV} (hC : Ct MX2_endCounts h [vR 2 j, a0] S Q') (k : ∀ (r : Option AV) (S' : ST), Q' r S' → V MX2_finishRows (h + 1) 37 L (r.toList ++ st) S' Q) (hj : j < NI 2) (hw : wid st ≤ 8) : V MX2_finishRows (h + 1) 34 L (a0 :: vR 2 j :: st) S Q :=
  v_callV (M' := MX2_endCounts) (c := 2) (As := [a0]) dX2_finishRows_34 ml_X2_207 im_X2_endCounts se_X2_endCounts in_X2 cd_X2_endCounts rfl LY_2 np_X2_endCounts (by decide) hw hj hC k
theorem b_X2_finishRows_37 {h : Nat} {L : LVs} {st : List AV} {S : ST} {Q : Option AV → ST → Prop} (k : V MX2_finishRows h 77 L st S Q) : V MX2_finishRows h 37 L st S Q :=
  v_goto dX2_finishRows_37 (by decide) k
theorem b_X2_finishRows_40 {h : Nat} {L : LVs} {st : List AV} {S : ST} {Q : Option AV → ST → Prop} (k : o_al L st S (fun L st S => o_il L st S (fun L st S => V MX2_finishRows h 42 L st S Q) 2) 0) : V MX2_finishRows h 40 L st S Q :=
  v_aload_n dX2_finishRows_40 rfl (fun L st S k => v_iload_n dX2_finishRows_41 rfl (fun L st S k => k) k) k
theorem k_X2_finishRows_42 {h : Nat} {L : LVs} {st : List AV} {S : ST} {Q Q' : Option AV → ST → Prop} {j : Nat} {a0 : AV} (hC : Ct MX2_endSums h [vR 2 j, a0] S Q') (k : ∀ (r : Option AV) (S' : ST), Q' r S' → V MX2_finishRows (h + 1) 45 L (r.toList ++ st) S' Q) (hj : j < NI 2) (hw : wid st ≤ 8) : V MX2_finishRows (h + 1) 42 L (a0 :: vR 2 j :: st) S Q :=
  v_callV (M' := MX2_endSums) (c := 2) (As := [a0]) dX2_finishRows_42 ml_X2_210 im_X2_endSums se_X2_endSums in_X2 cd_X2_endSums rfl LY_2 np_X2_endSums (by decide) hw hj hC k
theorem b_X2_finishRows_45 {h : Nat} {L : LVs} {st : List AV} {S : ST} {Q : Option AV → ST → Prop} (k : V MX2_finishRows h 77 L st S Q) : V MX2_finishRows h 45 L st S Q :=
  v_goto dX2_finishRows_45 (by decide) k
theorem b_X2_finishRows_48 {h : Nat} {L : LVs} {st : List AV} {S : ST} {Q : Option AV → ST → Prop} (k : o_al L st S (fun L st S => o_get L st S (fun L st S => o_il L st S (fun L st S => o_c L st S (fun L st S => V MX2_finishRows h 54 L st S Q) (nI 0)) 2) 2 4 (5, 5, 0)) 0) : V MX2_finishRows h 48 L st S Q :=
  v_aload_n dX2_finishRows_48 rfl (fun L st S k => v_get dX2_finishRows_49 rfl iX2 LY_2 rfl (by decide) rfl fl_X2_30 (fun L st S k => v_iload_n dX2_finishRows_52 rfl (fun L st S k => v_iconst dX2_finishRows_53 (by decide) (fun L st S k => k) k) k) k) k
theorem k_X2_finishRows_54 {h : Nat} {L : LVs} {st : List AV} {S : ST} {Q Q' : Option AV → ST → Prop} {j : Nat} {a0 a1 : AV} (hC : Ct MX5_sort h [vR 5 j, a0, a1] S Q') (k : ∀ (r : Option AV) (S' : ST), Q' r S' → V MX2_finishRows (h + 1) 57 L (r.toList ++ st) S' Q) (hj : j < NI 5) (hw : wid st ≤ 8) : V MX2_finishRows (h + 1) 54 L (a1 :: a0 :: vR 5 j :: st) S Q :=
  v_callV (M' := MX5_sort) (c := 5) (As := [a0, a1]) dX2_finishRows_54 ml_X2_213 im_X5_sort se_X5_sort in_X5 cd_X5_sort rfl LY_5 np_X5_sort (by decide) hw hj hC k
theorem b_X2_finishRows_57 {h : Nat} {L : LVs} {st : List AV} {S : ST} {Q : Option AV → ST → Prop} (k : V MX2_finishRows h 77 L st S Q) : V MX2_finishRows h 57 L st S Q :=
  v_goto dX2_finishRows_57 (by decide) k
theorem b_X2_finishRows_60 {h : Nat} {L : LVs} {st : List AV} {S : ST} {Q : Option AV → ST → Prop} (k : o_al L st S (fun L st S => o_get L st S (fun L st S => o_il L st S (fun L st S => o_c L st S (fun L st S => V MX2_finishRows h 66 L st S Q) (nI 1)) 2) 2 4 (5, 5, 0)) 0) : V MX2_finishRows h 60 L st S Q :=
  v_aload_n dX2_finishRows_60 rfl (fun L st S k => v_get dX2_finishRows_61 rfl iX2 LY_2 rfl (by decide) rfl fl_X2_30 (fun L st S k => v_iload_n dX2_finishRows_64 rfl (fun L st S k => v_iconst dX2_finishRows_65 (by decide) (fun L st S k => k) k) k) k) k
theorem k_X2_finishRows_66 {h : Nat} {L : LVs} {st : List AV} {S : ST} {Q Q' : Option AV → ST → Prop} {j : Nat} {a0 a1 : AV} (hC : Ct MX5_sort h [vR 5 j, a0, a1] S Q') (k : ∀ (r : Option AV) (S' : ST), Q' r S' → V MX2_finishRows (h + 1) 69 L (r.toList ++ st) S' Q) (hj : j < NI 5) (hw : wid st ≤ 8) : V MX2_finishRows (h + 1) 66 L (a1 :: a0 :: vR 5 j :: st) S Q :=
  v_callV (M' := MX5_sort) (c := 5) (As := [a0, a1]) dX2_finishRows_66 ml_X2_213 im_X5_sort se_X5_sort in_X5 cd_X5_sort rfl LY_5 np_X5_sort (by decide) hw hj hC k
theorem b_X2_finishRows_69 {h : Nat} {L : LVs} {st : List AV} {S : ST} {Q : Option AV → ST → Prop} (k : V MX2_finishRows h 77 L st S Q) : V MX2_finishRows h 69 L st S Q :=
  v_goto dX2_finishRows_69 (by decide) k
theorem b_X2_finishRows_72 {h : Nat} {L : LVs} {st : List AV} {S : ST} {Q : Option AV → ST → Prop} (k : o_al L st S (fun L st S => o_il L st S (fun L st S => V MX2_finishRows h 74 L st S Q) 2) 0) : V MX2_finishRows h 72 L st S Q :=
  v_aload_n dX2_finishRows_72 rfl (fun L st S k => v_iload_n dX2_finishRows_73 rfl (fun L st S k => k) k) k
theorem k_X2_finishRows_74 {h : Nat} {L : LVs} {st : List AV} {S : ST} {Q Q' : Option AV → ST → Prop} {j : Nat} {a0 : AV} (hC : Ct MX2_show h [vR 2 j, a0] S Q') (k : ∀ (r : Option AV) (S' : ST), Q' r S' → V MX2_finishRows (h + 1) 77 L (r.toList ++ st) S' Q) (hj : j < NI 2) (hw : wid st ≤ 8) : V MX2_finishRows (h + 1) 74 L (a0 :: vR 2 j :: st) S Q :=
  v_callV (M' := MX2_show) (c := 2) (As := [a0]) dX2_finishRows_74 ml_X2_217 im_X2_show se_X2_show in_X2 cd_X2_show rfl LY_2 np_X2_show (by decide) hw hj hC k
theorem b_X2_finishRows_77 {h : Nat} {L : LVs} {st : List AV} {S : ST} {Q : Option AV → ST → Prop} (k : t_vr st S Q) : V MX2_finishRows h 77 L st S Q :=
  w_vr dX2_finishRows_77 rfl k
-- QueryForge$Machine.endCounts(I)V
theorem dX2_endCounts_0 : decode cX2_endCounts 0 = .ok (.iconst 0, 1) := by decide +kernel
theorem dX2_endCounts_1 : decode cX2_endCounts 1 = .ok (.istore_n 2, 1) := by decide +kernel
theorem dX2_endCounts_2 : decode cX2_endCounts 2 = .ok (.iload_n 2, 1) := by decide +kernel
theorem dX2_endCounts_3 : decode cX2_endCounts 3 = .ok (.aload_n 0, 1) := by decide +kernel
theorem dX2_endCounts_4 : decode cX2_endCounts 4 = .ok (.getfield 30, 3) := by decide +kernel
theorem dX2_endCounts_7 : decode cX2_endCounts 7 = .ok (.invokevirtual 202, 3) := by decide +kernel
theorem dX2_endCounts_10 : decode cX2_endCounts 10 = .ok (.if_icmp .ge 35, 3) := by decide +kernel
theorem dX2_endCounts_13 : decode cX2_endCounts 13 = .ok (.aload_n 0, 1) := by decide +kernel
theorem dX2_endCounts_14 : decode cX2_endCounts 14 = .ok (.getfield 30, 3) := by decide +kernel
theorem dX2_endCounts_17 : decode cX2_endCounts 17 = .ok (.iload_n 2, 1) := by decide +kernel
theorem dX2_endCounts_18 : decode cX2_endCounts 18 = .ok (.iload_n 1, 1) := by decide +kernel
theorem dX2_endCounts_19 : decode cX2_endCounts 19 = .ok (.invokevirtual 206, 3) := by decide +kernel
theorem dX2_endCounts_22 : decode cX2_endCounts 22 = .ok (.ldc2_w 120, 3) := by decide +kernel
theorem dX2_endCounts_25 : decode cX2_endCounts 25 = .ok (.lcmp, 1) := by decide +kernel
theorem dX2_endCounts_26 : decode cX2_endCounts 26 = .ok (.ifCond .ne 13, 3) := by decide +kernel
theorem dX2_endCounts_29 : decode cX2_endCounts 29 = .ok (.aload_n 0, 1) := by decide +kernel
theorem dX2_endCounts_30 : decode cX2_endCounts 30 = .ok (.getfield 30, 3) := by decide +kernel
theorem dX2_endCounts_33 : decode cX2_endCounts 33 = .ok (.iload_n 2, 1) := by decide +kernel
theorem dX2_endCounts_34 : decode cX2_endCounts 34 = .ok (.iload_n 1, 1) := by decide +kernel
theorem dX2_endCounts_35 : decode cX2_endCounts 35 = .ok (.lconst 0, 1) := by decide +kernel
theorem dX2_endCounts_36 : decode cX2_endCounts 36 = .ok (.invokevirtual 199, 3) := by decide +kernel
theorem dX2_endCounts_39 : decode cX2_endCounts 39 = .ok (.iinc 2 1, 3) := by decide +kernel
theorem dX2_endCounts_42 : decode cX2_endCounts 42 = .ok (.goto (-40), 3) := by decide +kernel
theorem dX2_endCounts_45 : decode cX2_endCounts 45 = .ok (.return_, 1) := by decide +kernel
theorem b_X2_endCounts_0 {h : Nat} {L : LVs} {st : List AV} {S : ST} {Q : Option AV → ST → Prop} (k : o_c L st S (fun L st S => o_is L st S (fun L st S => V MX2_endCounts h 2 L st S Q) 2) (nI 0)) : V MX2_endCounts h 0 L st S Q :=
  v_iconst dX2_endCounts_0 (by decide) (fun L st S k => v_istore_n dX2_endCounts_1 rfl (by decide) (fun L st S k => k) k) k
theorem b_X2_endCounts_2 {h : Nat} {L : LVs} {st : List AV} {S : ST} {Q : Option AV → ST → Prop} (k : o_il L st S (fun L st S => o_al L st S (fun L st S => o_get L st S (fun L st S => V MX2_endCounts h 7 L st S Q) 2 4 (5, 5, 0)) 0) 2) : V MX2_endCounts h 2 L st S Q :=
  v_iload_n dX2_endCounts_2 rfl (fun L st S k => v_aload_n dX2_endCounts_3 rfl (fun L st S k => v_get dX2_endCounts_4 rfl iX2 LY_2 rfl (by decide) rfl fl_X2_30 (fun L st S k => k) k) k) k
theorem k_X2_endCounts_7 {h : Nat} {L : LVs} {st : List AV} {S : ST} {Q Q' : Option AV → ST → Prop} {j : Nat} (hC : Ct MX5_rowCount h [vR 5 j] S Q') (k : ∀ (r : Option AV) (S' : ST), Q' r S' → V MX2_endCounts (h + 1) 10 L (r.toList ++ st) S' Q) (hj : j < NI 5) (hw : wid st ≤ 8) : V MX2_endCounts (h + 1) 7 L (vR 5 j :: st) S Q :=
  v_callV (M' := MX5_rowCount) (c := 5) (As := []) dX2_endCounts_7 ml_X2_202 im_X5_rowCount se_X5_rowCount in_X5 cd_X5_rowCount rfl LY_5 np_X5_rowCount (by decide) hw hj hC k
theorem b_X2_endCounts_10 {h : Nat} {L : LVs} {st : List AV} {S : ST} {Q : Option AV → ST → Prop} (k : t_2 L st S (fun x y => y ≤ x) (fun L st S => V MX2_endCounts h 45 L st S Q) (fun L st S => V MX2_endCounts h 13 L st S Q)) : V MX2_endCounts h 10 L st S Q :=
  w_icmp_ge dX2_endCounts_10 (by decide) rfl k
theorem b_X2_endCounts_13 {h : Nat} {L : LVs} {st : List AV} {S : ST} {Q : Option AV → ST → Prop} (k : o_al L st S (fun L st S => o_get L st S (fun L st S => o_il L st S (fun L st S => o_il L st S (fun L st S => V MX2_endCounts h 19 L st S Q) 1) 2) 2 4 (5, 5, 0)) 0) : V MX2_endCounts h 13 L st S Q :=
  v_aload_n dX2_endCounts_13 rfl (fun L st S k => v_get dX2_endCounts_14 rfl iX2 LY_2 rfl (by decide) rfl fl_X2_30 (fun L st S k => v_iload_n dX2_endCounts_17 rfl (fun L st S k => v_iload_n dX2_endCounts_18 rfl (fun L st S k => k) k) k) k) k
theorem k_X2_endCounts_19 {h : Nat} {L : LVs} {st : List AV} {S : ST} {Q Q' : Option AV → ST → Prop} {j : Nat} {a0 a1 : AV} (hC : Ct MX5_heldAt h [vR 5 j, a0, a1] S Q') (k : ∀ (r : Option AV) (S' : ST), Q' r S' → V MX2_endCounts (h + 1) 22 L (r.toList ++ st) S' Q) (hj : j < NI 5) (hw : wid st ≤ 8) : V MX2_endCounts (h + 1) 19 L (a1 :: a0 :: vR 5 j :: st) S Q :=
  v_callV (M' := MX5_heldAt) (c := 5) (As := [a0, a1]) dX2_endCounts_19 ml_X2_206 im_X5_heldAt se_X5_heldAt in_X5 cd_X5_heldAt rfl LY_5 np_X5_heldAt (by decide) hw hj hC k
theorem b_X2_endCounts_22 {h : Nat} {L : LVs} {st : List AV} {S : ST} {Q : Option AV → ST → Prop} (k : o_lc L st S (fun L st S => o_lcmp L st S (fun L st S => t_1 L st S (fun x => x = nI 0) (fun L st S => V MX2_endCounts h 29 L st S Q) (fun L st S => V MX2_endCounts h 39 L st S Q))) (-4611686018427387904)) : V MX2_endCounts h 22 L st S Q :=
  v_ldc2 dX2_endCounts_22 kl_X2_120 (fun L st S k => v_lcmp dX2_endCounts_25 (fun L st S k => w_if_ne dX2_endCounts_26 (by decide) rfl k) k) k
theorem b_X2_endCounts_29 {h : Nat} {L : LVs} {st : List AV} {S : ST} {Q : Option AV → ST → Prop} (k : o_al L st S (fun L st S => o_get L st S (fun L st S => o_il L st S (fun L st S => o_il L st S (fun L st S => o_lc L st S (fun L st S => V MX2_endCounts h 36 L st S Q) (lN 0)) 1) 2) 2 4 (5, 5, 0)) 0) : V MX2_endCounts h 29 L st S Q :=
  v_aload_n dX2_endCounts_29 rfl (fun L st S k => v_get dX2_endCounts_30 rfl iX2 LY_2 rfl (by decide) rfl fl_X2_30 (fun L st S k => v_iload_n dX2_endCounts_33 rfl (fun L st S k => v_iload_n dX2_endCounts_34 rfl (fun L st S k => v_lconst dX2_endCounts_35 (by decide) (fun L st S k => k) k) k) k) k) k
theorem k_X2_endCounts_36 {h : Nat} {L : LVs} {st : List AV} {S : ST} {Q Q' : Option AV → ST → Prop} {j : Nat} {a0 a1 a2 : AV} (hC : Ct MX5_set h [vR 5 j, a0, a1, a2] S Q') (k : ∀ (r : Option AV) (S' : ST), Q' r S' → V MX2_endCounts (h + 1) 39 L (r.toList ++ st) S' Q) (hj : j < NI 5) (hw : wid st ≤ 8) : V MX2_endCounts (h + 1) 36 L (a2 :: a1 :: a0 :: vR 5 j :: st) S Q :=
  v_callV (M' := MX5_set) (c := 5) (As := [a0, a1, a2]) dX2_endCounts_36 ml_X2_199 im_X5_set se_X5_set in_X5 cd_X5_set rfl LY_5 np_X5_set (by decide) hw hj hC k
theorem b_X2_endCounts_39 {h : Nat} {L : LVs} {st : List AV} {S : ST} {Q : Option AV → ST → Prop} (k : o_inc L st S (fun L st S => V MX2_endCounts h 2 L st S Q) 2 (nI 1)) : V MX2_endCounts h 39 L st S Q :=
  v_iinc dX2_endCounts_39 (by decide) (by decide) (fun L st S k => v_goto dX2_endCounts_42 (by decide) k) k
theorem b_X2_endCounts_45 {h : Nat} {L : LVs} {st : List AV} {S : ST} {Q : Option AV → ST → Prop} (k : t_vr st S Q) : V MX2_endCounts h 45 L st S Q :=
  w_vr dX2_endCounts_45 rfl k
-- QueryForge$Machine.endSums(I)V
theorem dX2_endSums_0 : decode cX2_endSums 0 = .ok (.iconst 0, 1) := by decide +kernel
theorem dX2_endSums_1 : decode cX2_endSums 1 = .ok (.istore_n 2, 1) := by decide +kernel
theorem dX2_endSums_2 : decode cX2_endSums 2 = .ok (.iload_n 2, 1) := by decide +kernel
theorem dX2_endSums_3 : decode cX2_endSums 3 = .ok (.aload_n 0, 1) := by decide +kernel
theorem dX2_endSums_4 : decode cX2_endSums 4 = .ok (.getfield 30, 3) := by decide +kernel
theorem dX2_endSums_7 : decode cX2_endSums 7 = .ok (.invokevirtual 202, 3) := by decide +kernel
theorem dX2_endSums_10 : decode cX2_endSums 10 = .ok (.if_icmp .ge 41, 3) := by decide +kernel
theorem dX2_endSums_13 : decode cX2_endSums 13 = .ok (.aload_n 0, 1) := by decide +kernel
theorem dX2_endSums_14 : decode cX2_endSums 14 = .ok (.getfield 30, 3) := by decide +kernel
theorem dX2_endSums_17 : decode cX2_endSums 17 = .ok (.iload_n 2, 1) := by decide +kernel
theorem dX2_endSums_18 : decode cX2_endSums 18 = .ok (.iload_n 1, 1) := by decide +kernel
theorem dX2_endSums_19 : decode cX2_endSums 19 = .ok (.invokevirtual 206, 3) := by decide +kernel
theorem dX2_endSums_22 : decode cX2_endSums 22 = .ok (.lstore_n 3, 1) := by decide +kernel
theorem dX2_endSums_23 : decode cX2_endSums 23 = .ok (.lload_n 3, 1) := by decide +kernel
theorem dX2_endSums_24 : decode cX2_endSums 24 = .ok (.ldc2_w 120, 3) := by decide +kernel
theorem dX2_endSums_27 : decode cX2_endSums 27 = .ok (.lcmp, 1) := by decide +kernel
theorem dX2_endSums_28 : decode cX2_endSums 28 = .ok (.ifCond .eq 17, 3) := by decide +kernel
theorem dX2_endSums_31 : decode cX2_endSums 31 = .ok (.lload_n 3, 1) := by decide +kernel
theorem dX2_endSums_32 : decode cX2_endSums 32 = .ok (.invokestatic 149, 3) := by decide +kernel
theorem dX2_endSums_35 : decode cX2_endSums 35 = .ok (.ifCond .ne 10, 3) := by decide +kernel
theorem dX2_endSums_38 : decode cX2_endSums 38 = .ok (.aload_n 0, 1) := by decide +kernel
theorem dX2_endSums_39 : decode cX2_endSums 39 = .ok (.sipush (-1005), 3) := by decide +kernel
theorem dX2_endSums_42 : decode cX2_endSums 42 = .ok (.invokevirtual 142, 3) := by decide +kernel
theorem dX2_endSums_45 : decode cX2_endSums 45 = .ok (.iinc 2 1, 3) := by decide +kernel
theorem dX2_endSums_48 : decode cX2_endSums 48 = .ok (.goto (-46), 3) := by decide +kernel
theorem dX2_endSums_51 : decode cX2_endSums 51 = .ok (.return_, 1) := by decide +kernel
theorem b_X2_endSums_0 {h : Nat} {L : LVs} {st : List AV} {S : ST} {Q : Option AV → ST → Prop} (k : o_c L st S (fun L st S => o_is L st S (fun L st S => V MX2_endSums h 2 L st S Q) 2) (nI 0)) : V MX2_endSums h 0 L st S Q :=
  v_iconst dX2_endSums_0 (by decide) (fun L st S k => v_istore_n dX2_endSums_1 rfl (by decide) (fun L st S k => k) k) k
theorem b_X2_endSums_2 {h : Nat} {L : LVs} {st : List AV} {S : ST} {Q : Option AV → ST → Prop} (k : o_il L st S (fun L st S => o_al L st S (fun L st S => o_get L st S (fun L st S => V MX2_endSums h 7 L st S Q) 2 4 (5, 5, 0)) 0) 2) : V MX2_endSums h 2 L st S Q :=
  v_iload_n dX2_endSums_2 rfl (fun L st S k => v_aload_n dX2_endSums_3 rfl (fun L st S k => v_get dX2_endSums_4 rfl iX2 LY_2 rfl (by decide) rfl fl_X2_30 (fun L st S k => k) k) k) k
theorem k_X2_endSums_7 {h : Nat} {L : LVs} {st : List AV} {S : ST} {Q Q' : Option AV → ST → Prop} {j : Nat} (hC : Ct MX5_rowCount h [vR 5 j] S Q') (k : ∀ (r : Option AV) (S' : ST), Q' r S' → V MX2_endSums (h + 1) 10 L (r.toList ++ st) S' Q) (hj : j < NI 5) (hw : wid st ≤ 8) : V MX2_endSums (h + 1) 7 L (vR 5 j :: st) S Q :=
  v_callV (M' := MX5_rowCount) (c := 5) (As := []) dX2_endSums_7 ml_X2_202 im_X5_rowCount se_X5_rowCount in_X5 cd_X5_rowCount rfl LY_5 np_X5_rowCount (by decide) hw hj hC k
theorem b_X2_endSums_10 {h : Nat} {L : LVs} {st : List AV} {S : ST} {Q : Option AV → ST → Prop} (k : t_2 L st S (fun x y => y ≤ x) (fun L st S => V MX2_endSums h 51 L st S Q) (fun L st S => V MX2_endSums h 13 L st S Q)) : V MX2_endSums h 10 L st S Q :=
  w_icmp_ge dX2_endSums_10 (by decide) rfl k
theorem b_X2_endSums_13 {h : Nat} {L : LVs} {st : List AV} {S : ST} {Q : Option AV → ST → Prop} (k : o_al L st S (fun L st S => o_get L st S (fun L st S => o_il L st S (fun L st S => o_il L st S (fun L st S => V MX2_endSums h 19 L st S Q) 1) 2) 2 4 (5, 5, 0)) 0) : V MX2_endSums h 13 L st S Q :=
  v_aload_n dX2_endSums_13 rfl (fun L st S k => v_get dX2_endSums_14 rfl iX2 LY_2 rfl (by decide) rfl fl_X2_30 (fun L st S k => v_iload_n dX2_endSums_17 rfl (fun L st S k => v_iload_n dX2_endSums_18 rfl (fun L st S k => k) k) k) k) k
theorem k_X2_endSums_19 {h : Nat} {L : LVs} {st : List AV} {S : ST} {Q Q' : Option AV → ST → Prop} {j : Nat} {a0 a1 : AV} (hC : Ct MX5_heldAt h [vR 5 j, a0, a1] S Q') (k : ∀ (r : Option AV) (S' : ST), Q' r S' → V MX2_endSums (h + 1) 22 L (r.toList ++ st) S' Q) (hj : j < NI 5) (hw : wid st ≤ 8) : V MX2_endSums (h + 1) 19 L (a1 :: a0 :: vR 5 j :: st) S Q :=
  v_callV (M' := MX5_heldAt) (c := 5) (As := [a0, a1]) dX2_endSums_19 ml_X2_206 im_X5_heldAt se_X5_heldAt in_X5 cd_X5_heldAt rfl LY_5 np_X5_heldAt (by decide) hw hj hC k
theorem b_X2_endSums_22 {h : Nat} {L : LVs} {st : List AV} {S : ST} {Q : Option AV → ST → Prop} (k : o_ls L st S (fun L st S => o_ll L st S (fun L st S => o_lc L st S (fun L st S => o_lcmp L st S (fun L st S => t_1 L st S (fun x => x = nI 0) (fun L st S => V MX2_endSums h 45 L st S Q) (fun L st S => V MX2_endSums h 31 L st S Q))) (-4611686018427387904)) 3) 3) : V MX2_endSums h 22 L st S Q :=
  v_lstore_n dX2_endSums_22 rfl (by decide) (fun L st S k => v_lload_n dX2_endSums_23 rfl (fun L st S k => v_ldc2 dX2_endSums_24 kl_X2_120 (fun L st S k => v_lcmp dX2_endSums_27 (fun L st S k => w_if_eq dX2_endSums_28 (by decide) rfl k) k) k) k) k
theorem b_X2_endSums_31 {h : Nat} {L : LVs} {st : List AV} {S : ST} {Q : Option AV → ST → Prop} (k : o_ll L st S (fun L st S => V MX2_endSums h 32 L st S Q) 3) : V MX2_endSums h 31 L st S Q :=
  v_lload_n dX2_endSums_31 rfl (fun L st S k => k) k
theorem k_X2_endSums_32 {h : Nat} {L : LVs} {st : List AV} {S : ST} {Q Q' : Option AV → ST → Prop} {a0 : AV} (hC : Ct MX2_fits h [a0] S Q') (k : ∀ (r : Option AV) (S' : ST), Q' r S' → V MX2_endSums (h + 1) 35 L (r.toList ++ st) S' Q) (hw : wid st ≤ 8) : V MX2_endSums (h + 1) 32 L (a0 :: st) S Q :=
  v_callS (M' := MX2_fits) (As := [a0]) dX2_endSums_32 ml_X2_149 sm_X2_fits in_X2 cd_X2_fits ⟨rfl, np_X2_fits⟩ (by decide) hw hC k
theorem b_X2_endSums_35 {h : Nat} {L : LVs} {st : List AV} {S : ST} {Q : Option AV → ST → Prop} (k : t_1 L st S (fun x => x = nI 0) (fun L st S => V MX2_endSums h 38 L st S Q) (fun L st S => V MX2_endSums h 45 L st S Q)) : V MX2_endSums h 35 L st S Q :=
  w_if_ne dX2_endSums_35 (by decide) rfl k
theorem b_X2_endSums_38 {h : Nat} {L : LVs} {st : List AV} {S : ST} {Q : Option AV → ST → Prop} (k : o_al L st S (fun L st S => o_c L st S (fun L st S => V MX2_endSums h 42 L st S Q) (-1005)) 0) : V MX2_endSums h 38 L st S Q :=
  v_aload_n dX2_endSums_38 rfl (fun L st S k => v_sipush dX2_endSums_39 (by decide) (fun L st S k => k) k) k
theorem k_X2_endSums_42 {h : Nat} {L : LVs} {st : List AV} {S : ST} {Q Q' : Option AV → ST → Prop} {j : Nat} {a0 : AV} (hC : Ct MX2_fail h [vR 2 j, a0] S Q') (k : ∀ (r : Option AV) (S' : ST), Q' r S' → V MX2_endSums (h + 1) 45 L (r.toList ++ st) S' Q) (hj : j < NI 2) (hw : wid st ≤ 8) : V MX2_endSums (h + 1) 42 L (a0 :: vR 2 j :: st) S Q :=
  v_callV (M' := MX2_fail) (c := 2) (As := [a0]) dX2_endSums_42 ml_X2_142 im_X2_fail se_X2_fail in_X2 cd_X2_fail rfl LY_2 np_X2_fail (by decide) hw hj hC k
theorem b_X2_endSums_45 {h : Nat} {L : LVs} {st : List AV} {S : ST} {Q : Option AV → ST → Prop} (k : o_inc L st S (fun L st S => V MX2_endSums h 2 L st S Q) 2 (nI 1)) : V MX2_endSums h 45 L st S Q :=
  v_iinc dX2_endSums_45 (by decide) (by decide) (fun L st S k => v_goto dX2_endSums_48 (by decide) k) k
theorem b_X2_endSums_51 {h : Nat} {L : LVs} {st : List AV} {S : ST} {Q : Option AV → ST → Prop} (k : t_vr st S Q) : V MX2_endSums h 51 L st S Q :=
  w_vr dX2_endSums_51 rfl k
-- QueryForge$Machine.show(I)V
theorem dX2_show_0 : decode cX2_show 0 = .ok (.aload_n 0, 1) := by decide +kernel
theorem dX2_show_1 : decode cX2_show 1 = .ok (.getfield 30, 3) := by decide +kernel
theorem dX2_show_4 : decode cX2_show 4 = .ok (.iload_n 1, 1) := by decide +kernel
theorem dX2_show_5 : decode cX2_show 5 = .ok (.invokevirtual 220, 3) := by decide +kernel
theorem dX2_show_8 : decode cX2_show 8 = .ok (.aload_n 0, 1) := by decide +kernel
theorem dX2_show_9 : decode cX2_show 9 = .ok (.getfield 26, 3) := by decide +kernel
theorem dX2_show_12 : decode cX2_show 12 = .ok (.astore_n 2, 1) := by decide +kernel
theorem dX2_show_13 : decode cX2_show 13 = .ok (.aload_n 0, 1) := by decide +kernel
theorem dX2_show_14 : decode cX2_show 14 = .ok (.aload_n 0, 1) := by decide +kernel
theorem dX2_show_15 : decode cX2_show 15 = .ok (.getfield 30, 3) := by decide +kernel
theorem dX2_show_18 : decode cX2_show 18 = .ok (.putfield 26, 3) := by decide +kernel
theorem dX2_show_21 : decode cX2_show 21 = .ok (.aload_n 0, 1) := by decide +kernel
theorem dX2_show_22 : decode cX2_show 22 = .ok (.aload_n 2, 1) := by decide +kernel
theorem dX2_show_23 : decode cX2_show 23 = .ok (.putfield 30, 3) := by decide +kernel
theorem dX2_show_26 : decode cX2_show 26 = .ok (.aload_n 0, 1) := by decide +kernel
theorem dX2_show_27 : decode cX2_show 27 = .ok (.aload_n 0, 1) := by decide +kernel
theorem dX2_show_28 : decode cX2_show 28 = .ok (.getfield 26, 3) := by decide +kernel
theorem dX2_show_31 : decode cX2_show 31 = .ok (.invokevirtual 202, 3) := by decide +kernel
theorem dX2_show_34 : decode cX2_show 34 = .ok (.putfield 70, 3) := by decide +kernel
theorem dX2_show_37 : decode cX2_show 37 = .ok (.return_, 1) := by decide +kernel
theorem b_X2_show_0 {h : Nat} {L : LVs} {st : List AV} {S : ST} {Q : Option AV → ST → Prop} (k : o_al L st S (fun L st S => o_get L st S (fun L st S => o_il L st S (fun L st S => V MX2_show h 5 L st S Q) 1) 2 4 (5, 5, 0)) 0) : V MX2_show h 0 L st S Q :=
  v_aload_n dX2_show_0 rfl (fun L st S k => v_get dX2_show_1 rfl iX2 LY_2 rfl (by decide) rfl fl_X2_30 (fun L st S k => v_iload_n dX2_show_4 rfl (fun L st S k => k) k) k) k
theorem k_X2_show_5 {h : Nat} {L : LVs} {st : List AV} {S : ST} {Q Q' : Option AV → ST → Prop} {j : Nat} {a0 : AV} (hC : Ct MX5_setItemCount h [vR 5 j, a0] S Q') (k : ∀ (r : Option AV) (S' : ST), Q' r S' → V MX2_show (h + 1) 8 L (r.toList ++ st) S' Q) (hj : j < NI 5) (hw : wid st ≤ 8) : V MX2_show (h + 1) 5 L (a0 :: vR 5 j :: st) S Q :=
  v_callV (M' := MX5_setItemCount) (c := 5) (As := [a0]) dX2_show_5 ml_X2_220 im_X5_setItemCount se_X5_setItemCount in_X5 cd_X5_setItemCount rfl LY_5 np_X5_setItemCount (by decide) hw hj hC k
theorem b_X2_show_8 {h : Nat} {L : LVs} {st : List AV} {S : ST} {Q : Option AV → ST → Prop} (k : o_al L st S (fun L st S => o_get L st S (fun L st S => o_as L st S (fun L st S => o_al L st S (fun L st S => o_al L st S (fun L st S => o_get L st S (fun L st S => o_putr L st S (fun L st S => o_al L st S (fun L st S => o_al L st S (fun L st S => o_putr L st S (fun L st S => o_al L st S (fun L st S => o_al L st S (fun L st S => o_get L st S (fun L st S => V MX2_show h 31 L st S Q) 2 3 (5, 5, 0)) 0) 0) 2 4 5) 2) 0) 2 3 5) 2 4 (5, 5, 0)) 0) 0) 2) 2 3 (5, 5, 0)) 0) : V MX2_show h 8 L st S Q :=
  v_aload_n dX2_show_8 rfl (fun L st S k => v_get dX2_show_9 rfl iX2 LY_2 rfl (by decide) rfl fl_X2_26 (fun L st S k => v_astore_n dX2_show_12 rfl (by decide) (fun L st S k => v_aload_n dX2_show_13 rfl (fun L st S k => v_aload_n dX2_show_14 rfl (fun L st S k => v_get dX2_show_15 rfl iX2 LY_2 rfl (by decide) rfl fl_X2_30 (fun L st S k => v_putr dX2_show_18 rfl iX2 tyX2_ok nmX2 LY_2 rfl (by decide) rfl fl_X2_26 rfl rfl (fun L st S k => v_aload_n dX2_show_21 rfl (fun L st S k => v_aload_n dX2_show_22 rfl (fun L st S k => v_putr dX2_show_23 rfl iX2 tyX2_ok nmX2 LY_2 rfl (by decide) rfl fl_X2_30 rfl rfl (fun L st S k => v_aload_n dX2_show_26 rfl (fun L st S k => v_aload_n dX2_show_27 rfl (fun L st S k => v_get dX2_show_28 rfl iX2 LY_2 rfl (by decide) rfl fl_X2_26 (fun L st S k => k) k) k) k) k) k) k) k) k) k) k) k) k) k
theorem k_X2_show_31 {h : Nat} {L : LVs} {st : List AV} {S : ST} {Q Q' : Option AV → ST → Prop} {j : Nat} (hC : Ct MX5_rowCount h [vR 5 j] S Q') (k : ∀ (r : Option AV) (S' : ST), Q' r S' → V MX2_show (h + 1) 34 L (r.toList ++ st) S' Q) (hj : j < NI 5) (hw : wid st ≤ 8) : V MX2_show (h + 1) 31 L (vR 5 j :: st) S Q :=
  v_callV (M' := MX5_rowCount) (c := 5) (As := []) dX2_show_31 ml_X2_202 im_X5_rowCount se_X5_rowCount in_X5 cd_X5_rowCount rfl LY_5 np_X5_rowCount (by decide) hw hj hC k
theorem b_X2_show_34 {h : Nat} {L : LVs} {st : List AV} {S : ST} {Q : Option AV → ST → Prop} (k : o_puti L st S (fun L st S => t_vr st S Q) 2 12) : V MX2_show h 34 L st S Q :=
  v_puti dX2_show_34 rfl iX2 tyX2_ok nmX2 LY_2 rfl (by decide) rfl fl_X2_70 rfl rfl (fun L st S k => w_vr dX2_show_37 rfl k) k
-- QueryForge$Machine.changeTables(II)V
theorem dX2_changeTables_0 : decode cX2_changeTables 0 = .ok (.iload_n 1, 1) := by decide +kernel
theorem dX2_changeTables_1 : decode cX2_changeTables 1 = .ok (.tableswitch 165 41 48 #[47, 64, 82, 96, 111, 126, 141, 153], 47) := by decide +kernel
theorem dX2_changeTables_48 : decode cX2_changeTables 48 = .ok (.aload_n 0, 1) := by decide +kernel
theorem dX2_changeTables_49 : decode cX2_changeTables 49 = .ok (.getfield 39, 3) := by decide +kernel
theorem dX2_changeTables_52 : decode cX2_changeTables 52 = .ok (.aload_n 0, 1) := by decide +kernel
theorem dX2_changeTables_53 : decode cX2_changeTables 53 = .ok (.getfield 126, 3) := by decide +kernel
theorem dX2_changeTables_56 : decode cX2_changeTables 56 = .ok (.ldc2_w 120, 3) := by decide +kernel
theorem dX2_changeTables_59 : decode cX2_changeTables 59 = .ok (.invokevirtual 223, 3) := by decide +kernel
theorem dX2_changeTables_62 : decode cX2_changeTables 62 = .ok (.goto 112, 3) := by decide +kernel
theorem dX2_changeTables_65 : decode cX2_changeTables 65 = .ok (.aload_n 0, 1) := by decide +kernel
theorem dX2_changeTables_66 : decode cX2_changeTables 66 = .ok (.getfield 39, 3) := by decide +kernel
theorem dX2_changeTables_69 : decode cX2_changeTables 69 = .ok (.aload_n 0, 1) := by decide +kernel
theorem dX2_changeTables_70 : decode cX2_changeTables 70 = .ok (.getfield 126, 3) := by decide +kernel
theorem dX2_changeTables_73 : decode cX2_changeTables 73 = .ok (.aload_n 0, 1) := by decide +kernel
theorem dX2_changeTables_74 : decode cX2_changeTables 74 = .ok (.invokevirtual 138, 3) := by decide +kernel
theorem dX2_changeTables_77 : decode cX2_changeTables 77 = .ok (.invokevirtual 223, 3) := by decide +kernel
theorem dX2_changeTables_80 : decode cX2_changeTables 80 = .ok (.goto 94, 3) := by decide +kernel
theorem dX2_changeTables_83 : decode cX2_changeTables 83 = .ok (.aload_n 0, 1) := by decide +kernel
theorem dX2_changeTables_84 : decode cX2_changeTables 84 = .ok (.aload_n 0, 1) := by decide +kernel
theorem dX2_changeTables_85 : decode cX2_changeTables 85 = .ok (.getfield 39, 3) := by decide +kernel
theorem dX2_changeTables_88 : decode cX2_changeTables 88 = .ok (.invokevirtual 226, 3) := by decide +kernel
theorem dX2_changeTables_91 : decode cX2_changeTables 91 = .ok (.putfield 70, 3) := by decide +kernel
theorem dX2_changeTables_94 : decode cX2_changeTables 94 = .ok (.goto 80, 3) := by decide +kernel
theorem dX2_changeTables_97 : decode cX2_changeTables 97 = .ok (.aload_n 0, 1) := by decide +kernel
theorem dX2_changeTables_98 : decode cX2_changeTables 98 = .ok (.aload_n 0, 1) := by decide +kernel
theorem dX2_changeTables_99 : decode cX2_changeTables 99 = .ok (.getfield 39, 3) := by decide +kernel
theorem dX2_changeTables_102 : decode cX2_changeTables 102 = .ok (.iload_n 2, 1) := by decide +kernel
theorem dX2_changeTables_103 : decode cX2_changeTables 103 = .ok (.invokevirtual 229, 3) := by decide +kernel
theorem dX2_changeTables_106 : decode cX2_changeTables 106 = .ok (.putfield 70, 3) := by decide +kernel
theorem dX2_changeTables_109 : decode cX2_changeTables 109 = .ok (.goto 65, 3) := by decide +kernel
theorem dX2_changeTables_112 : decode cX2_changeTables 112 = .ok (.aload_n 0, 1) := by decide +kernel
theorem dX2_changeTables_113 : decode cX2_changeTables 113 = .ok (.getfield 39, 3) := by decide +kernel
theorem dX2_changeTables_116 : decode cX2_changeTables 116 = .ok (.iload_n 2, 1) := by decide +kernel
theorem dX2_changeTables_117 : decode cX2_changeTables 117 = .ok (.aload_n 0, 1) := by decide +kernel
theorem dX2_changeTables_118 : decode cX2_changeTables 118 = .ok (.invokevirtual 138, 3) := by decide +kernel
theorem dX2_changeTables_121 : decode cX2_changeTables 121 = .ok (.invokevirtual 232, 3) := by decide +kernel
theorem dX2_changeTables_124 : decode cX2_changeTables 124 = .ok (.goto 50, 3) := by decide +kernel
theorem dX2_changeTables_127 : decode cX2_changeTables 127 = .ok (.aload_n 0, 1) := by decide +kernel
theorem dX2_changeTables_128 : decode cX2_changeTables 128 = .ok (.getfield 39, 3) := by decide +kernel
theorem dX2_changeTables_131 : decode cX2_changeTables 131 = .ok (.invokevirtual 233, 3) := by decide +kernel
theorem dX2_changeTables_134 : decode cX2_changeTables 134 = .ok (.aload_n 0, 1) := by decide +kernel
theorem dX2_changeTables_135 : decode cX2_changeTables 135 = .ok (.iconst 1, 1) := by decide +kernel
theorem dX2_changeTables_136 : decode cX2_changeTables 136 = .ok (.putfield 70, 3) := by decide +kernel
theorem dX2_changeTables_139 : decode cX2_changeTables 139 = .ok (.goto 35, 3) := by decide +kernel
theorem dX2_changeTables_142 : decode cX2_changeTables 142 = .ok (.aload_n 0, 1) := by decide +kernel
theorem dX2_changeTables_143 : decode cX2_changeTables 143 = .ok (.getfield 15, 3) := by decide +kernel
theorem dX2_changeTables_146 : decode cX2_changeTables 146 = .ok (.iload_n 2, 1) := by decide +kernel
theorem dX2_changeTables_147 : decode cX2_changeTables 147 = .ok (.iconst 1, 1) := by decide +kernel
theorem dX2_changeTables_148 : decode cX2_changeTables 148 = .ok (.invokevirtual 234, 3) := by decide +kernel
theorem dX2_changeTables_151 : decode cX2_changeTables 151 = .ok (.goto 23, 3) := by decide +kernel
theorem dX2_changeTables_154 : decode cX2_changeTables 154 = .ok (.aload_n 0, 1) := by decide +kernel
theorem dX2_changeTables_155 : decode cX2_changeTables 155 = .ok (.getfield 15, 3) := by decide +kernel
theorem dX2_changeTables_158 : decode cX2_changeTables 158 = .ok (.iload_n 2, 1) := by decide +kernel
theorem dX2_changeTables_159 : decode cX2_changeTables 159 = .ok (.iconst 2, 1) := by decide +kernel
theorem dX2_changeTables_160 : decode cX2_changeTables 160 = .ok (.invokevirtual 234, 3) := by decide +kernel
theorem dX2_changeTables_163 : decode cX2_changeTables 163 = .ok (.goto 11, 3) := by decide +kernel
theorem dX2_changeTables_166 : decode cX2_changeTables 166 = .ok (.aload_n 0, 1) := by decide +kernel
theorem dX2_changeTables_167 : decode cX2_changeTables 167 = .ok (.getfield 15, 3) := by decide +kernel
theorem dX2_changeTables_170 : decode cX2_changeTables 170 = .ok (.iload_n 2, 1) := by decide +kernel
theorem dX2_changeTables_171 : decode cX2_changeTables 171 = .ok (.invokevirtual 237, 3) := by decide +kernel
theorem dX2_changeTables_174 : decode cX2_changeTables 174 = .ok (.return_, 1) := by decide +kernel
theorem b_X2_changeTables_0 {h : Nat} {L : LVs} {st : List AV} {S : ST} {Q : Option AV → ST → Prop} (k : o_il L st S (fun L st S => t_sw L st S [((nI 41), fun L st S => V MX2_changeTables h 48 L st S Q), ((nI 42), fun L st S => V MX2_changeTables h 65 L st S Q), ((nI 43), fun L st S => V MX2_changeTables h 83 L st S Q), ((nI 44), fun L st S => V MX2_changeTables h 97 L st S Q), ((nI 45), fun L st S => V MX2_changeTables h 112 L st S Q), ((nI 46), fun L st S => V MX2_changeTables h 127 L st S Q), ((nI 47), fun L st S => V MX2_changeTables h 142 L st S Q), ((nI 48), fun L st S => V MX2_changeTables h 154 L st S Q)] (fun L st S => V MX2_changeTables h 166 L st S Q)) 1) : V MX2_changeTables h 0 L st S Q :=
  v_iload_n dX2_changeTables_0 rfl (fun L st S k => w_tsw [((nI 41), 48), ((nI 42), 65), ((nI 43), 83), ((nI 44), 97), ((nI 45), 112), ((nI 46), 127), ((nI 47), 142), ((nI 48), 154)] dX2_changeTables_1 (n := 8) (by decide) rfl (by decide) (by decide) (by decide) k) k
theorem b_X2_changeTables_48 {h : Nat} {L : LVs} {st : List AV} {S : ST} {Q : Option AV → ST → Prop} (k : o_al L st S (fun L st S => o_get L st S (fun L st S => o_al L st S (fun L st S => o_get L st S (fun L st S => o_lc L st S (fun L st S => V MX2_changeTables h 59 L st S Q) (-4611686018427387904)) 2 7 (0, 0, 0)) 0) 2 5 (5, 7, 0)) 0) : V MX2_changeTables h 48 L st S Q :=
  v_aload_n dX2_changeTables_48 rfl (fun L st S k => v_get dX2_changeTables_49 rfl iX2 LY_2 rfl (by decide) rfl fl_X2_39 (fun L st S k => v_aload_n dX2_changeTables_52 rfl (fun L st S k => v_get dX2_changeTables_53 rfl iX2 LY_2 rfl (by decide) rfl fl_X2_126 (fun L st S k => v_ldc2 dX2_changeTables_56 kl_X2_120 (fun L st S k => k) k) k) k) k) k
theorem k_X2_changeTables_59 {h : Nat} {L : LVs} {st : List AV} {S : ST} {Q Q' : Option AV → ST → Prop} {j : Nat} {a0 a1 : AV} (hC : Ct MX7_mark h [vR 7 j, a0, a1] S Q') (k : ∀ (r : Option AV) (S' : ST), Q' r S' → V MX2_changeTables (h + 1) 62 L (r.toList ++ st) S' Q) (hj : j < NI 7) (hw : wid st ≤ 8) : V MX2_changeTables (h + 1) 59 L (a1 :: a0 :: vR 7 j :: st) S Q :=
  v_callV (M' := MX7_mark) (c := 7) (As := [a0, a1]) dX2_changeTables_59 ml_X2_223 im_X7_mark se_X7_mark in_X7 cd_X7_mark rfl LY_7 np_X7_mark (by decide) hw hj hC k
theorem b_X2_changeTables_62 {h : Nat} {L : LVs} {st : List AV} {S : ST} {Q : Option AV → ST → Prop} (k : V MX2_changeTables h 174 L st S Q) : V MX2_changeTables h 62 L st S Q :=
  v_goto dX2_changeTables_62 (by decide) k
theorem b_X2_changeTables_65 {h : Nat} {L : LVs} {st : List AV} {S : ST} {Q : Option AV → ST → Prop} (k : o_al L st S (fun L st S => o_get L st S (fun L st S => o_al L st S (fun L st S => o_get L st S (fun L st S => o_al L st S (fun L st S => V MX2_changeTables h 74 L st S Q) 0) 2 7 (0, 0, 0)) 0) 2 5 (5, 7, 0)) 0) : V MX2_changeTables h 65 L st S Q :=
  v_aload_n dX2_changeTables_65 rfl (fun L st S k => v_get dX2_changeTables_66 rfl iX2 LY_2 rfl (by decide) rfl fl_X2_39 (fun L st S k => v_aload_n dX2_changeTables_69 rfl (fun L st S k => v_get dX2_changeTables_70 rfl iX2 LY_2 rfl (by decide) rfl fl_X2_126 (fun L st S k => v_aload_n dX2_changeTables_73 rfl (fun L st S k => k) k) k) k) k) k
theorem k_X2_changeTables_74 {h : Nat} {L : LVs} {st : List AV} {S : ST} {Q Q' : Option AV → ST → Prop} {j : Nat} (hC : Ct MX2_pop h [vR 2 j] S Q') (k : ∀ (r : Option AV) (S' : ST), Q' r S' → V MX2_changeTables (h + 1) 77 L (r.toList ++ st) S' Q) (hj : j < NI 2) (hw : wid st ≤ 8) : V MX2_changeTables (h + 1) 74 L (vR 2 j :: st) S Q :=
  v_callV (M' := MX2_pop) (c := 2) (As := []) dX2_changeTables_74 ml_X2_138 im_X2_pop se_X2_pop in_X2 cd_X2_pop rfl LY_2 np_X2_pop (by decide) hw hj hC k
theorem k_X2_changeTables_77 {h : Nat} {L : LVs} {st : List AV} {S : ST} {Q Q' : Option AV → ST → Prop} {j : Nat} {a0 a1 : AV} (hC : Ct MX7_mark h [vR 7 j, a0, a1] S Q') (k : ∀ (r : Option AV) (S' : ST), Q' r S' → V MX2_changeTables (h + 1) 80 L (r.toList ++ st) S' Q) (hj : j < NI 7) (hw : wid st ≤ 8) : V MX2_changeTables (h + 1) 77 L (a1 :: a0 :: vR 7 j :: st) S Q :=
  v_callV (M' := MX7_mark) (c := 7) (As := [a0, a1]) dX2_changeTables_77 ml_X2_223 im_X7_mark se_X7_mark in_X7 cd_X7_mark rfl LY_7 np_X7_mark (by decide) hw hj hC k
theorem b_X2_changeTables_80 {h : Nat} {L : LVs} {st : List AV} {S : ST} {Q : Option AV → ST → Prop} (k : V MX2_changeTables h 174 L st S Q) : V MX2_changeTables h 80 L st S Q :=
  v_goto dX2_changeTables_80 (by decide) k
theorem b_X2_changeTables_83 {h : Nat} {L : LVs} {st : List AV} {S : ST} {Q : Option AV → ST → Prop} (k : o_al L st S (fun L st S => o_al L st S (fun L st S => o_get L st S (fun L st S => V MX2_changeTables h 88 L st S Q) 2 5 (5, 7, 0)) 0) 0) : V MX2_changeTables h 83 L st S Q :=
  v_aload_n dX2_changeTables_83 rfl (fun L st S k => v_aload_n dX2_changeTables_84 rfl (fun L st S k => v_get dX2_changeTables_85 rfl iX2 LY_2 rfl (by decide) rfl fl_X2_39 (fun L st S k => k) k) k) k
theorem k_X2_changeTables_88 {h : Nat} {L : LVs} {st : List AV} {S : ST} {Q Q' : Option AV → ST → Prop} {j : Nat} (hC : Ct MX7_dropMarked h [vR 7 j] S Q') (k : ∀ (r : Option AV) (S' : ST), Q' r S' → V MX2_changeTables (h + 1) 91 L (r.toList ++ st) S' Q) (hj : j < NI 7) (hw : wid st ≤ 8) : V MX2_changeTables (h + 1) 88 L (vR 7 j :: st) S Q :=
  v_callV (M' := MX7_dropMarked) (c := 7) (As := []) dX2_changeTables_88 ml_X2_226 im_X7_dropMarked se_X7_dropMarked in_X7 cd_X7_dropMarked rfl LY_7 np_X7_dropMarked (by decide) hw hj hC k
theorem b_X2_changeTables_91 {h : Nat} {L : LVs} {st : List AV} {S : ST} {Q : Option AV → ST → Prop} (k : o_puti L st S (fun L st S => V MX2_changeTables h 174 L st S Q) 2 12) : V MX2_changeTables h 91 L st S Q :=
  v_puti dX2_changeTables_91 rfl iX2 tyX2_ok nmX2 LY_2 rfl (by decide) rfl fl_X2_70 rfl rfl (fun L st S k => v_goto dX2_changeTables_94 (by decide) k) k
theorem b_X2_changeTables_97 {h : Nat} {L : LVs} {st : List AV} {S : ST} {Q : Option AV → ST → Prop} (k : o_al L st S (fun L st S => o_al L st S (fun L st S => o_get L st S (fun L st S => o_il L st S (fun L st S => V MX2_changeTables h 103 L st S Q) 2) 2 5 (5, 7, 0)) 0) 0) : V MX2_changeTables h 97 L st S Q :=
  v_aload_n dX2_changeTables_97 rfl (fun L st S k => v_aload_n dX2_changeTables_98 rfl (fun L st S k => v_get dX2_changeTables_99 rfl iX2 LY_2 rfl (by decide) rfl fl_X2_39 (fun L st S k => v_iload_n dX2_changeTables_102 rfl (fun L st S k => k) k) k) k) k
theorem k_X2_changeTables_103 {h : Nat} {L : LVs} {st : List AV} {S : ST} {Q Q' : Option AV → ST → Prop} {j : Nat} {a0 : AV} (hC : Ct MX7_changeMarked h [vR 7 j, a0] S Q') (k : ∀ (r : Option AV) (S' : ST), Q' r S' → V MX2_changeTables (h + 1) 106 L (r.toList ++ st) S' Q) (hj : j < NI 7) (hw : wid st ≤ 8) : V MX2_changeTables (h + 1) 103 L (a0 :: vR 7 j :: st) S Q :=
  v_callV (M' := MX7_changeMarked) (c := 7) (As := [a0]) dX2_changeTables_103 ml_X2_229 im_X7_changeMarked se_X7_changeMarked in_X7 cd_X7_changeMarked rfl LY_7 np_X7_changeMarked (by decide) hw hj hC k
theorem b_X2_changeTables_106 {h : Nat} {L : LVs} {st : List AV} {S : ST} {Q : Option AV → ST → Prop} (k : o_puti L st S (fun L st S => V MX2_changeTables h 174 L st S Q) 2 12) : V MX2_changeTables h 106 L st S Q :=
  v_puti dX2_changeTables_106 rfl iX2 tyX2_ok nmX2 LY_2 rfl (by decide) rfl fl_X2_70 rfl rfl (fun L st S k => v_goto dX2_changeTables_109 (by decide) k) k
theorem b_X2_changeTables_112 {h : Nat} {L : LVs} {st : List AV} {S : ST} {Q : Option AV → ST → Prop} (k : o_al L st S (fun L st S => o_get L st S (fun L st S => o_il L st S (fun L st S => o_al L st S (fun L st S => V MX2_changeTables h 118 L st S Q) 0) 2) 2 5 (5, 7, 0)) 0) : V MX2_changeTables h 112 L st S Q :=
  v_aload_n dX2_changeTables_112 rfl (fun L st S k => v_get dX2_changeTables_113 rfl iX2 LY_2 rfl (by decide) rfl fl_X2_39 (fun L st S k => v_iload_n dX2_changeTables_116 rfl (fun L st S k => v_aload_n dX2_changeTables_117 rfl (fun L st S k => k) k) k) k) k
theorem k_X2_changeTables_118 {h : Nat} {L : LVs} {st : List AV} {S : ST} {Q Q' : Option AV → ST → Prop} {j : Nat} (hC : Ct MX2_pop h [vR 2 j] S Q') (k : ∀ (r : Option AV) (S' : ST), Q' r S' → V MX2_changeTables (h + 1) 121 L (r.toList ++ st) S' Q) (hj : j < NI 2) (hw : wid st ≤ 8) : V MX2_changeTables (h + 1) 118 L (vR 2 j :: st) S Q :=
  v_callV (M' := MX2_pop) (c := 2) (As := []) dX2_changeTables_118 ml_X2_138 im_X2_pop se_X2_pop in_X2 cd_X2_pop rfl LY_2 np_X2_pop (by decide) hw hj hC k
theorem k_X2_changeTables_121 {h : Nat} {L : LVs} {st : List AV} {S : ST} {Q Q' : Option AV → ST → Prop} {j : Nat} {a0 a1 : AV} (hC : Ct MX7_putNext h [vR 7 j, a0, a1] S Q') (k : ∀ (r : Option AV) (S' : ST), Q' r S' → V MX2_changeTables (h + 1) 124 L (r.toList ++ st) S' Q) (hj : j < NI 7) (hw : wid st ≤ 8) : V MX2_changeTables (h + 1) 121 L (a1 :: a0 :: vR 7 j :: st) S Q :=
  v_callV (M' := MX7_putNext) (c := 7) (As := [a0, a1]) dX2_changeTables_121 ml_X2_232 im_X7_putNext se_X7_putNext in_X7 cd_X7_putNext rfl LY_7 np_X7_putNext (by decide) hw hj hC k
theorem b_X2_changeTables_124 {h : Nat} {L : LVs} {st : List AV} {S : ST} {Q : Option AV → ST → Prop} (k : V MX2_changeTables h 174 L st S Q) : V MX2_changeTables h 124 L st S Q :=
  v_goto dX2_changeTables_124 (by decide) k
theorem b_X2_changeTables_127 {h : Nat} {L : LVs} {st : List AV} {S : ST} {Q : Option AV → ST → Prop} (k : o_al L st S (fun L st S => o_get L st S (fun L st S => V MX2_changeTables h 131 L st S Q) 2 5 (5, 7, 0)) 0) : V MX2_changeTables h 127 L st S Q :=
  v_aload_n dX2_changeTables_127 rfl (fun L st S k => v_get dX2_changeTables_128 rfl iX2 LY_2 rfl (by decide) rfl fl_X2_39 (fun L st S k => k) k) k
theorem k_X2_changeTables_131 {h : Nat} {L : LVs} {st : List AV} {S : ST} {Q Q' : Option AV → ST → Prop} {j : Nat} (hC : Ct MX7_append h [vR 7 j] S Q') (k : ∀ (r : Option AV) (S' : ST), Q' r S' → V MX2_changeTables (h + 1) 134 L (r.toList ++ st) S' Q) (hj : j < NI 7) (hw : wid st ≤ 8) : V MX2_changeTables (h + 1) 131 L (vR 7 j :: st) S Q :=
  v_callV (M' := MX7_append) (c := 7) (As := []) dX2_changeTables_131 ml_X2_233 im_X7_append se_X7_append in_X7 cd_X7_append rfl LY_7 np_X7_append (by decide) hw hj hC k
theorem b_X2_changeTables_134 {h : Nat} {L : LVs} {st : List AV} {S : ST} {Q : Option AV → ST → Prop} (k : o_al L st S (fun L st S => o_c L st S (fun L st S => o_puti L st S (fun L st S => V MX2_changeTables h 174 L st S Q) 2 12) (nI 1)) 0) : V MX2_changeTables h 134 L st S Q :=
  v_aload_n dX2_changeTables_134 rfl (fun L st S k => v_iconst dX2_changeTables_135 (by decide) (fun L st S k => v_puti dX2_changeTables_136 rfl iX2 tyX2_ok nmX2 LY_2 rfl (by decide) rfl fl_X2_70 rfl rfl (fun L st S k => v_goto dX2_changeTables_139 (by decide) k) k) k) k
theorem b_X2_changeTables_142 {h : Nat} {L : LVs} {st : List AV} {S : ST} {Q : Option AV → ST → Prop} (k : o_al L st S (fun L st S => o_get L st S (fun L st S => o_il L st S (fun L st S => o_c L st S (fun L st S => V MX2_changeTables h 148 L st S Q) (nI 1)) 2) 2 1 (4, 8, 0)) 0) : V MX2_changeTables h 142 L st S Q :=
  v_aload_n dX2_changeTables_142 rfl (fun L st S k => v_get dX2_changeTables_143 rfl iX2 LY_2 rfl (by decide) rfl fl_X2_15 (fun L st S k => v_iload_n dX2_changeTables_146 rfl (fun L st S k => v_iconst dX2_changeTables_147 (by decide) (fun L st S k => k) k) k) k) k
theorem k_X2_changeTables_148 {h : Nat} {L : LVs} {st : List AV} {S : ST} {Q Q' : Option AV → ST → Prop} {j : Nat} {a0 a1 : AV} (hC : Ct MX8_addNextColumn h [vR 8 j, a0, a1] S Q') (k : ∀ (r : Option AV) (S' : ST), Q' r S' → V MX2_changeTables (h + 1) 151 L (r.toList ++ st) S' Q) (hj : j < NI 8) (hw : wid st ≤ 8) : V MX2_changeTables (h + 1) 148 L (a1 :: a0 :: vR 8 j :: st) S Q :=
  v_callV (M' := MX8_addNextColumn) (c := 8) (As := [a0, a1]) dX2_changeTables_148 ml_X2_234 im_X8_addNextColumn se_X8_addNextColumn in_X8 cd_X8_addNextColumn rfl LY_8 np_X8_addNextColumn (by decide) hw hj hC k
theorem b_X2_changeTables_151 {h : Nat} {L : LVs} {st : List AV} {S : ST} {Q : Option AV → ST → Prop} (k : V MX2_changeTables h 174 L st S Q) : V MX2_changeTables h 151 L st S Q :=
  v_goto dX2_changeTables_151 (by decide) k
theorem b_X2_changeTables_154 {h : Nat} {L : LVs} {st : List AV} {S : ST} {Q : Option AV → ST → Prop} (k : o_al L st S (fun L st S => o_get L st S (fun L st S => o_il L st S (fun L st S => o_c L st S (fun L st S => V MX2_changeTables h 160 L st S Q) (nI 2)) 2) 2 1 (4, 8, 0)) 0) : V MX2_changeTables h 154 L st S Q :=
  v_aload_n dX2_changeTables_154 rfl (fun L st S k => v_get dX2_changeTables_155 rfl iX2 LY_2 rfl (by decide) rfl fl_X2_15 (fun L st S k => v_iload_n dX2_changeTables_158 rfl (fun L st S k => v_iconst dX2_changeTables_159 (by decide) (fun L st S k => k) k) k) k) k
theorem k_X2_changeTables_160 {h : Nat} {L : LVs} {st : List AV} {S : ST} {Q Q' : Option AV → ST → Prop} {j : Nat} {a0 a1 : AV} (hC : Ct MX8_addNextColumn h [vR 8 j, a0, a1] S Q') (k : ∀ (r : Option AV) (S' : ST), Q' r S' → V MX2_changeTables (h + 1) 163 L (r.toList ++ st) S' Q) (hj : j < NI 8) (hw : wid st ≤ 8) : V MX2_changeTables (h + 1) 160 L (a1 :: a0 :: vR 8 j :: st) S Q :=
  v_callV (M' := MX8_addNextColumn) (c := 8) (As := [a0, a1]) dX2_changeTables_160 ml_X2_234 im_X8_addNextColumn se_X8_addNextColumn in_X8 cd_X8_addNextColumn rfl LY_8 np_X8_addNextColumn (by decide) hw hj hC k
theorem b_X2_changeTables_163 {h : Nat} {L : LVs} {st : List AV} {S : ST} {Q : Option AV → ST → Prop} (k : V MX2_changeTables h 174 L st S Q) : V MX2_changeTables h 163 L st S Q :=
  v_goto dX2_changeTables_163 (by decide) k
theorem b_X2_changeTables_166 {h : Nat} {L : LVs} {st : List AV} {S : ST} {Q : Option AV → ST → Prop} (k : o_al L st S (fun L st S => o_get L st S (fun L st S => o_il L st S (fun L st S => V MX2_changeTables h 171 L st S Q) 2) 2 1 (4, 8, 0)) 0) : V MX2_changeTables h 166 L st S Q :=
  v_aload_n dX2_changeTables_166 rfl (fun L st S k => v_get dX2_changeTables_167 rfl iX2 LY_2 rfl (by decide) rfl fl_X2_15 (fun L st S k => v_iload_n dX2_changeTables_170 rfl (fun L st S k => k) k) k) k
theorem k_X2_changeTables_171 {h : Nat} {L : LVs} {st : List AV} {S : ST} {Q Q' : Option AV → ST → Prop} {j : Nat} {a0 : AV} (hC : Ct MX8_append h [vR 8 j, a0] S Q') (k : ∀ (r : Option AV) (S' : ST), Q' r S' → V MX2_changeTables (h + 1) 174 L (r.toList ++ st) S' Q) (hj : j < NI 8) (hw : wid st ≤ 8) : V MX2_changeTables (h + 1) 171 L (a0 :: vR 8 j :: st) S Q :=
  v_callV (M' := MX8_append) (c := 8) (As := [a0]) dX2_changeTables_171 ml_X2_237 im_X8_append se_X8_append in_X8 cd_X8_append rfl LY_8 np_X8_append (by decide) hw hj hC k
theorem b_X2_changeTables_174 {h : Nat} {L : LVs} {st : List AV} {S : ST} {Q : Option AV → ST → Prop} (k : t_vr st S Q) : V MX2_changeTables h 174 L st S Q :=
  w_vr dX2_changeTables_174 rfl k
-- QueryForge$Machine.push(J)V
theorem dX2_push_0 : decode cX2_push 0 = .ok (.aload_n 0, 1) := by decide +kernel
theorem dX2_push_1 : decode cX2_push 1 = .ok (.getfield 60, 3) := by decide +kernel
theorem dX2_push_4 : decode cX2_push 4 = .ok (.bipush 10, 2) := by decide +kernel
theorem dX2_push_6 : decode cX2_push 6 = .ok (.if_icmp .ge 23, 3) := by decide +kernel
theorem dX2_push_9 : decode cX2_push 9 = .ok (.aload_n 0, 1) := by decide +kernel
theorem dX2_push_10 : decode cX2_push 10 = .ok (.getfield 19, 3) := by decide +kernel
theorem dX2_push_13 : decode cX2_push 13 = .ok (.aload_n 0, 1) := by decide +kernel
theorem dX2_push_14 : decode cX2_push 14 = .ok (.getfield 60, 3) := by decide +kernel
theorem dX2_push_17 : decode cX2_push 17 = .ok (.lload_n 1, 1) := by decide +kernel
theorem dX2_push_18 : decode cX2_push 18 = .ok (.lastore, 1) := by decide +kernel
theorem dX2_push_19 : decode cX2_push 19 = .ok (.aload_n 0, 1) := by decide +kernel
theorem dX2_push_20 : decode cX2_push 20 = .ok (.dup, 1) := by decide +kernel
theorem dX2_push_21 : decode cX2_push 21 = .ok (.getfield 60, 3) := by decide +kernel
theorem dX2_push_24 : decode cX2_push 24 = .ok (.iconst 1, 1) := by decide +kernel
theorem dX2_push_25 : decode cX2_push 25 = .ok (.iadd, 1) := by decide +kernel
theorem dX2_push_26 : decode cX2_push 26 = .ok (.putfield 60, 3) := by decide +kernel
theorem dX2_push_29 : decode cX2_push 29 = .ok (.return_, 1) := by decide +kernel
theorem b_X2_push_0 {h : Nat} {L : LVs} {st : List AV} {S : ST} {Q : Option AV → ST → Prop} (k : o_al L st S (fun L st S => o_get L st S (fun L st S => o_c L st S (fun L st S => t_2 L st S (fun x y => y ≤ x) (fun L st S => V MX2_push h 29 L st S Q) (fun L st S => V MX2_push h 9 L st S Q)) (nI 10)) 2 9 (0, 0, 0)) 0) : V MX2_push h 0 L st S Q :=
  v_aload_n dX2_push_0 rfl (fun L st S k => v_get dX2_push_1 rfl iX2 LY_2 rfl (by decide) rfl fl_X2_60 (fun L st S k => v_bipush dX2_push_4 (by decide) (fun L st S k => w_icmp_ge dX2_push_6 (by decide) rfl k) k) k) k
theorem b_X2_push_9 {h : Nat} {L : LVs} {st : List AV} {S : ST} {Q : Option AV → ST → Prop} (k : o_al L st S (fun L st S => o_get L st S (fun L st S => o_al L st S (fun L st S => o_get L st S (fun L st S => o_ll L st S (fun L st S => o_last L st S (fun L st S => o_al L st S (fun L st S => o_dup L st S (fun L st S => o_get L st S (fun L st S => o_c L st S (fun L st S => o_iadd L st S (fun L st S => o_puti L st S (fun L st S => V MX2_push h 29 L st S Q) 2 9)) (nI 1)) 2 9 (0, 0, 0))) 0)) 1) 2 9 (0, 0, 0)) 0) 2 2 (3, 15, 0)) 0) : V MX2_push h 9 L st S Q :=
  v_aload_n dX2_push_9 rfl (fun L st S k => v_get dX2_push_10 rfl iX2 LY_2 rfl (by decide) rfl fl_X2_19 (fun L st S k => v_aload_n dX2_push_13 rfl (fun L st S k => v_get dX2_push_14 rfl iX2 LY_2 rfl (by decide) rfl fl_X2_60 (fun L st S k => v_lload_n dX2_push_17 rfl (fun L st S k => v_lastore dX2_push_18 (fun L st S k => v_aload_n dX2_push_19 rfl (fun L st S k => v_dup dX2_push_20 (fun L st S k => v_get dX2_push_21 rfl iX2 LY_2 rfl (by decide) rfl fl_X2_60 (fun L st S k => v_iconst dX2_push_24 (by decide) (fun L st S k => v_iadd dX2_push_25 (fun L st S k => v_puti dX2_push_26 rfl iX2 tyX2_ok nmX2 LY_2 rfl (by decide) rfl fl_X2_60 rfl rfl (fun L st S k => k) k) k) k) k) k) k) k) k) k) k) k) k
theorem b_X2_push_29 {h : Nat} {L : LVs} {st : List AV} {S : ST} {Q : Option AV → ST → Prop} (k : t_vr st S Q) : V MX2_push h 29 L st S Q :=
  w_vr dX2_push_29 rfl k
-- QueryForge$Machine.pop()J
theorem dX2_pop_0 : decode cX2_pop 0 = .ok (.aload_n 0, 1) := by decide +kernel
theorem dX2_pop_1 : decode cX2_pop 1 = .ok (.getfield 60, 3) := by decide +kernel
theorem dX2_pop_4 : decode cX2_pop 4 = .ok (.ifCond .le 13, 3) := by decide +kernel
theorem dX2_pop_7 : decode cX2_pop 7 = .ok (.aload_n 0, 1) := by decide +kernel
theorem dX2_pop_8 : decode cX2_pop 8 = .ok (.dup, 1) := by decide +kernel
theorem dX2_pop_9 : decode cX2_pop 9 = .ok (.getfield 60, 3) := by decide +kernel
theorem dX2_pop_12 : decode cX2_pop 12 = .ok (.iconst 1, 1) := by decide +kernel
theorem dX2_pop_13 : decode cX2_pop 13 = .ok (.isub, 1) := by decide +kernel
theorem dX2_pop_14 : decode cX2_pop 14 = .ok (.putfield 60, 3) := by decide +kernel
theorem dX2_pop_17 : decode cX2_pop 17 = .ok (.aload_n 0, 1) := by decide +kernel
theorem dX2_pop_18 : decode cX2_pop 18 = .ok (.getfield 19, 3) := by decide +kernel
theorem dX2_pop_21 : decode cX2_pop 21 = .ok (.aload_n 0, 1) := by decide +kernel
theorem dX2_pop_22 : decode cX2_pop 22 = .ok (.getfield 60, 3) := by decide +kernel
theorem dX2_pop_25 : decode cX2_pop 25 = .ok (.laload, 1) := by decide +kernel
theorem dX2_pop_26 : decode cX2_pop 26 = .ok (.lreturn, 1) := by decide +kernel
theorem b_X2_pop_0 {h : Nat} {L : LVs} {st : List AV} {S : ST} {Q : Option AV → ST → Prop} (k : o_al L st S (fun L st S => o_get L st S (fun L st S => t_1 L st S (fun x => x ≤ nI 0) (fun L st S => V MX2_pop h 17 L st S Q) (fun L st S => V MX2_pop h 7 L st S Q)) 2 9 (0, 0, 0)) 0) : V MX2_pop h 0 L st S Q :=
  v_aload_n dX2_pop_0 rfl (fun L st S k => v_get dX2_pop_1 rfl iX2 LY_2 rfl (by decide) rfl fl_X2_60 (fun L st S k => w_if_le dX2_pop_4 (by decide) rfl k) k) k
theorem b_X2_pop_7 {h : Nat} {L : LVs} {st : List AV} {S : ST} {Q : Option AV → ST → Prop} (k : o_al L st S (fun L st S => o_dup L st S (fun L st S => o_get L st S (fun L st S => o_c L st S (fun L st S => o_isub L st S (fun L st S => o_puti L st S (fun L st S => V MX2_pop h 17 L st S Q) 2 9)) (nI 1)) 2 9 (0, 0, 0))) 0) : V MX2_pop h 7 L st S Q :=
  v_aload_n dX2_pop_7 rfl (fun L st S k => v_dup dX2_pop_8 (fun L st S k => v_get dX2_pop_9 rfl iX2 LY_2 rfl (by decide) rfl fl_X2_60 (fun L st S k => v_iconst dX2_pop_12 (by decide) (fun L st S k => v_isub dX2_pop_13 (fun L st S k => v_puti dX2_pop_14 rfl iX2 tyX2_ok nmX2 LY_2 rfl (by decide) rfl fl_X2_60 rfl rfl (fun L st S k => k) k) k) k) k) k) k
theorem b_X2_pop_17 {h : Nat} {L : LVs} {st : List AV} {S : ST} {Q : Option AV → ST → Prop} (k : o_al L st S (fun L st S => o_get L st S (fun L st S => o_al L st S (fun L st S => o_get L st S (fun L st S => o_lald L st S (fun L st S => t_lr st S Q)) 2 9 (0, 0, 0)) 0) 2 2 (3, 15, 0)) 0) : V MX2_pop h 17 L st S Q :=
  v_aload_n dX2_pop_17 rfl (fun L st S k => v_get dX2_pop_18 rfl iX2 LY_2 rfl (by decide) rfl fl_X2_19 (fun L st S k => v_aload_n dX2_pop_21 rfl (fun L st S k => v_get dX2_pop_22 rfl iX2 LY_2 rfl (by decide) rfl fl_X2_60 (fun L st S k => v_laload dX2_pop_25 (fun L st S k => w_lr dX2_pop_26 rfl k) k) k) k) k) k
-- QueryForge$Machine.fail(I)V
theorem dX2_fail_0 : decode cX2_fail 0 = .ok (.aload_n 0, 1) := by decide +kernel
theorem dX2_fail_1 : decode cX2_fail 1 = .ok (.iload_n 1, 1) := by decide +kernel
theorem dX2_fail_2 : decode cX2_fail 2 = .ok (.putfield 70, 3) := by decide +kernel
theorem dX2_fail_5 : decode cX2_fail 5 = .ok (.aload_n 0, 1) := by decide +kernel
theorem dX2_fail_6 : decode cX2_fail 6 = .ok (.iconst 0, 1) := by decide +kernel
theorem dX2_fail_7 : decode cX2_fail 7 = .ok (.putfield 76, 3) := by decide +kernel
theorem dX2_fail_10 : decode cX2_fail 10 = .ok (.return_, 1) := by decide +kernel
theorem b_X2_fail_0 {h : Nat} {L : LVs} {st : List AV} {S : ST} {Q : Option AV → ST → Prop} (k : o_al L st S (fun L st S => o_il L st S (fun L st S => o_puti L st S (fun L st S => o_al L st S (fun L st S => o_c L st S (fun L st S => o_putz L st S (fun L st S => t_vr st S Q) 2 13) (nI 0)) 0) 2 12) 1) 0) : V MX2_fail h 0 L st S Q :=
  v_aload_n dX2_fail_0 rfl (fun L st S k => v_iload_n dX2_fail_1 rfl (fun L st S k => v_puti dX2_fail_2 rfl iX2 tyX2_ok nmX2 LY_2 rfl (by decide) rfl fl_X2_70 rfl rfl (fun L st S k => v_aload_n dX2_fail_5 rfl (fun L st S k => v_iconst dX2_fail_6 (by decide) (fun L st S k => v_putz dX2_fail_7 rfl iX2 tyX2_ok nmX2 LY_2 rfl (by decide) rfl fl_X2_76 rfl rfl (fun L st S k => w_vr dX2_fail_10 rfl k) k) k) k) k) k) k
-- QueryForge$Machine.fits(J)Z
theorem dX2_fits_0 : decode cX2_fits 0 = .ok (.lload_n 0, 1) := by decide +kernel
theorem dX2_fits_1 : decode cX2_fits 1 = .ok (.ldc2_w 239, 3) := by decide +kernel
theorem dX2_fits_4 : decode cX2_fits 4 = .ok (.lcmp, 1) := by decide +kernel
theorem dX2_fits_5 : decode cX2_fits 5 = .ok (.ifCond .lt 15, 3) := by decide +kernel
theorem dX2_fits_8 : decode cX2_fits 8 = .ok (.lload_n 0, 1) := by decide +kernel
theorem dX2_fits_9 : decode cX2_fits 9 = .ok (.ldc2_w 241, 3) := by decide +kernel
theorem dX2_fits_12 : decode cX2_fits 12 = .ok (.lcmp, 1) := by decide +kernel
theorem dX2_fits_13 : decode cX2_fits 13 = .ok (.ifCond .gt 7, 3) := by decide +kernel
theorem dX2_fits_16 : decode cX2_fits 16 = .ok (.iconst 1, 1) := by decide +kernel
theorem dX2_fits_17 : decode cX2_fits 17 = .ok (.goto 4, 3) := by decide +kernel
theorem dX2_fits_20 : decode cX2_fits 20 = .ok (.iconst 0, 1) := by decide +kernel
theorem dX2_fits_21 : decode cX2_fits 21 = .ok (.ireturn, 1) := by decide +kernel
theorem b_X2_fits_0 {h : Nat} {L : LVs} {st : List AV} {S : ST} {Q : Option AV → ST → Prop} (k : o_ll L st S (fun L st S => o_lc L st S (fun L st S => o_lcmp L st S (fun L st S => t_1 L st S (fun x => x < nI 0) (fun L st S => V MX2_fits h 20 L st S Q) (fun L st S => V MX2_fits h 8 L st S Q))) (-2147483648)) 0) : V MX2_fits h 0 L st S Q :=
  v_lload_n dX2_fits_0 rfl (fun L st S k => v_ldc2 dX2_fits_1 kl_X2_239 (fun L st S k => v_lcmp dX2_fits_4 (fun L st S k => w_if_lt dX2_fits_5 (by decide) rfl k) k) k) k
theorem b_X2_fits_8 {h : Nat} {L : LVs} {st : List AV} {S : ST} {Q : Option AV → ST → Prop} (k : o_ll L st S (fun L st S => o_lc L st S (fun L st S => o_lcmp L st S (fun L st S => t_1 L st S (fun x => nI 0 < x) (fun L st S => V MX2_fits h 20 L st S Q) (fun L st S => V MX2_fits h 16 L st S Q))) (lN 2147483647)) 0) : V MX2_fits h 8 L st S Q :=
  v_lload_n dX2_fits_8 rfl (fun L st S k => v_ldc2 dX2_fits_9 kl_X2_241 (fun L st S k => v_lcmp dX2_fits_12 (fun L st S k => w_if_gt dX2_fits_13 (by decide) rfl k) k) k) k
theorem b_X2_fits_16 {h : Nat} {L : LVs} {st : List AV} {S : ST} {Q : Option AV → ST → Prop} (k : o_c L st S (fun L st S => V MX2_fits h 21 L st S Q) (nI 1)) : V MX2_fits h 16 L st S Q :=
  v_iconst dX2_fits_16 (by decide) (fun L st S k => v_goto dX2_fits_17 (by decide) k) k
theorem b_X2_fits_20 {h : Nat} {L : LVs} {st : List AV} {S : ST} {Q : Option AV → ST → Prop} (k : o_c L st S (fun L st S => V MX2_fits h 21 L st S Q) (nI 0)) : V MX2_fits h 20 L st S Q :=
  v_iconst dX2_fits_20 (by decide) (fun L st S k => k) k
theorem b_X2_fits_21 {h : Nat} {L : LVs} {st : List AV} {S : ST} {Q : Option AV → ST → Prop} (k : t_zr st S Q) : V MX2_fits h 21 L st S Q :=
  w_zr dX2_fits_21 rfl k
