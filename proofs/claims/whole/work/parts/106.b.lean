-- QueryForge$Statement.clear(I)V
theorem dX6_clear_0 : decode cX6_clear 0 = .ok (.aload_n 0, 1) := by decide +kernel
theorem dX6_clear_1 : decode cX6_clear 1 = .ok (.getfield 12, 3) := by decide +kernel
theorem dX6_clear_4 : decode cX6_clear 4 = .ok (.invokevirtual 46, 3) := by decide +kernel
theorem dX6_clear_7 : decode cX6_clear 7 = .ok (.aload_n 0, 1) := by decide +kernel
theorem dX6_clear_8 : decode cX6_clear 8 = .ok (.iload_n 1, 1) := by decide +kernel
theorem dX6_clear_9 : decode cX6_clear 9 = .ok (.putfield 48, 3) := by decide +kernel
theorem dX6_clear_12 : decode cX6_clear 12 = .ok (.aload_n 0, 1) := by decide +kernel
theorem dX6_clear_13 : decode cX6_clear 13 = .ok (.iconst 0, 1) := by decide +kernel
theorem dX6_clear_14 : decode cX6_clear 14 = .ok (.putfield 52, 3) := by decide +kernel
theorem dX6_clear_17 : decode cX6_clear 17 = .ok (.aload_n 0, 1) := by decide +kernel
theorem dX6_clear_18 : decode cX6_clear 18 = .ok (.iconst 0, 1) := by decide +kernel
theorem dX6_clear_19 : decode cX6_clear 19 = .ok (.putfield 55, 3) := by decide +kernel
theorem dX6_clear_22 : decode cX6_clear 22 = .ok (.aload_n 0, 1) := by decide +kernel
theorem dX6_clear_23 : decode cX6_clear 23 = .ok (.iconst 0, 1) := by decide +kernel
theorem dX6_clear_24 : decode cX6_clear 24 = .ok (.putfield 58, 3) := by decide +kernel
theorem dX6_clear_27 : decode cX6_clear 27 = .ok (.aload_n 0, 1) := by decide +kernel
theorem dX6_clear_28 : decode cX6_clear 28 = .ok (.iconst (-1), 1) := by decide +kernel
theorem dX6_clear_29 : decode cX6_clear 29 = .ok (.putfield 61, 3) := by decide +kernel
theorem dX6_clear_32 : decode cX6_clear 32 = .ok (.aload_n 0, 1) := by decide +kernel
theorem dX6_clear_33 : decode cX6_clear 33 = .ok (.iconst (-1), 1) := by decide +kernel
theorem dX6_clear_34 : decode cX6_clear 34 = .ok (.putfield 64, 3) := by decide +kernel
theorem dX6_clear_37 : decode cX6_clear 37 = .ok (.aload_n 0, 1) := by decide +kernel
theorem dX6_clear_38 : decode cX6_clear 38 = .ok (.iconst (-1), 1) := by decide +kernel
theorem dX6_clear_39 : decode cX6_clear 39 = .ok (.putfield 67, 3) := by decide +kernel
theorem dX6_clear_42 : decode cX6_clear 42 = .ok (.aload_n 0, 1) := by decide +kernel
theorem dX6_clear_43 : decode cX6_clear 43 = .ok (.iconst (-1), 1) := by decide +kernel
theorem dX6_clear_44 : decode cX6_clear 44 = .ok (.putfield 70, 3) := by decide +kernel
theorem dX6_clear_47 : decode cX6_clear 47 = .ok (.aload_n 0, 1) := by decide +kernel
theorem dX6_clear_48 : decode cX6_clear 48 = .ok (.iconst 0, 1) := by decide +kernel
theorem dX6_clear_49 : decode cX6_clear 49 = .ok (.putfield 73, 3) := by decide +kernel
theorem dX6_clear_52 : decode cX6_clear 52 = .ok (.return_, 1) := by decide +kernel
theorem b_X6_clear_0 {h : Nat} {L : LVs} {st : List AV} {S : ST} {Q : Option AV → ST → Prop} (k : o_al L st S (fun L st S => o_get L st S (fun L st S => V MX6_clear h 4 L st S Q) 6 0 (4, 1, 0)) 0) : V MX6_clear h 0 L st S Q :=
  v_aload_n dX6_clear_0 rfl (fun L st S k => v_get dX6_clear_1 rfl iX6 LY_6 rfl (by decide) rfl fl_X6_12 (fun L st S k => k) k) k
theorem k_X6_clear_4 {h : Nat} {L : LVs} {st : List AV} {S : ST} {Q Q' : Option AV → ST → Prop} {j : Nat} (hC : Ct MX1_clear h [vR 1 j] S Q') (k : ∀ (r : Option AV) (S' : ST), Q' r S' → V MX6_clear (h + 1) 7 L (r.toList ++ st) S' Q) (hj : j < NI 1) (hw : wid st ≤ 8) : V MX6_clear (h + 1) 4 L (vR 1 j :: st) S Q :=
  v_callV (M' := MX1_clear) (c := 1) (As := []) dX6_clear_4 ml_X6_46 im_X1_clear se_X1_clear in_X1 cd_X1_clear rfl LY_1 np_X1_clear (by decide) hw hj hC k
theorem b_X6_clear_7 {h : Nat} {L : LVs} {st : List AV} {S : ST} {Q : Option AV → ST → Prop} (k : o_al L st S (fun L st S => o_il L st S (fun L st S => o_puti L st S (fun L st S => o_al L st S (fun L st S => o_c L st S (fun L st S => o_puti L st S (fun L st S => o_al L st S (fun L st S => o_c L st S (fun L st S => o_puti L st S (fun L st S => o_al L st S (fun L st S => o_c L st S (fun L st S => o_puti L st S (fun L st S => o_al L st S (fun L st S => o_c L st S (fun L st S => o_puti L st S (fun L st S => o_al L st S (fun L st S => o_c L st S (fun L st S => o_puti L st S (fun L st S => o_al L st S (fun L st S => o_c L st S (fun L st S => o_puti L st S (fun L st S => o_al L st S (fun L st S => o_c L st S (fun L st S => o_puti L st S (fun L st S => o_al L st S (fun L st S => o_c L st S (fun L st S => o_putz L st S (fun L st S => t_vr st S Q) 6 16) (nI 0)) 0) 6 15) (-1)) 0) 6 14) (-1)) 0) 6 13) (-1)) 0) 6 12) (-1)) 0) 6 11) (nI 0)) 0) 6 10) (nI 0)) 0) 6 9) (nI 0)) 0) 6 8) 1) 0) : V MX6_clear h 7 L st S Q :=
  v_aload_n dX6_clear_7 rfl (fun L st S k => v_iload_n dX6_clear_8 rfl (fun L st S k => v_puti dX6_clear_9 rfl iX6 tyX6_ok nmX6 LY_6 rfl (by decide) rfl fl_X6_48 rfl rfl (fun L st S k => v_aload_n dX6_clear_12 rfl (fun L st S k => v_iconst dX6_clear_13 (by decide) (fun L st S k => v_puti dX6_clear_14 rfl iX6 tyX6_ok nmX6 LY_6 rfl (by decide) rfl fl_X6_52 rfl rfl (fun L st S k => v_aload_n dX6_clear_17 rfl (fun L st S k => v_iconst dX6_clear_18 (by decide) (fun L st S k => v_puti dX6_clear_19 rfl iX6 tyX6_ok nmX6 LY_6 rfl (by decide) rfl fl_X6_55 rfl rfl (fun L st S k => v_aload_n dX6_clear_22 rfl (fun L st S k => v_iconst dX6_clear_23 (by decide) (fun L st S k => v_puti dX6_clear_24 rfl iX6 tyX6_ok nmX6 LY_6 rfl (by decide) rfl fl_X6_58 rfl rfl (fun L st S k => v_aload_n dX6_clear_27 rfl (fun L st S k => v_iconst dX6_clear_28 (by decide) (fun L st S k => v_puti dX6_clear_29 rfl iX6 tyX6_ok nmX6 LY_6 rfl (by decide) rfl fl_X6_61 rfl rfl (fun L st S k => v_aload_n dX6_clear_32 rfl (fun L st S k => v_iconst dX6_clear_33 (by decide) (fun L st S k => v_puti dX6_clear_34 rfl iX6 tyX6_ok nmX6 LY_6 rfl (by decide) rfl fl_X6_64 rfl rfl (fun L st S k => v_aload_n dX6_clear_37 rfl (fun L st S k => v_iconst dX6_clear_38 (by decide) (fun L st S k => v_puti dX6_clear_39 rfl iX6 tyX6_ok nmX6 LY_6 rfl (by decide) rfl fl_X6_67 rfl rfl (fun L st S k => v_aload_n dX6_clear_42 rfl (fun L st S k => v_iconst dX6_clear_43 (by decide) (fun L st S k => v_puti dX6_clear_44 rfl iX6 tyX6_ok nmX6 LY_6 rfl (by decide) rfl fl_X6_70 rfl rfl (fun L st S k => v_aload_n dX6_clear_47 rfl (fun L st S k => v_iconst dX6_clear_48 (by decide) (fun L st S k => v_putz dX6_clear_49 rfl iX6 tyX6_ok nmX6 LY_6 rfl (by decide) rfl fl_X6_73 rfl rfl (fun L st S k => w_vr dX6_clear_52 rfl k) k) k) k) k) k) k) k) k) k) k) k) k) k) k) k) k) k) k) k) k) k) k) k) k) k) k) k
-- QueryForge$Statement.addTable(I)V
theorem dX6_addTable_0 : decode cX6_addTable 0 = .ok (.aload_n 0, 1) := by decide +kernel
theorem dX6_addTable_1 : decode cX6_addTable 1 = .ok (.getfield 52, 3) := by decide +kernel
theorem dX6_addTable_4 : decode cX6_addTable 4 = .ok (.iconst 2, 1) := by decide +kernel
theorem dX6_addTable_5 : decode cX6_addTable 5 = .ok (.if_icmp .ge 33, 3) := by decide +kernel
theorem dX6_addTable_8 : decode cX6_addTable 8 = .ok (.aload_n 0, 1) := by decide +kernel
theorem dX6_addTable_9 : decode cX6_addTable 9 = .ok (.getfield 18, 3) := by decide +kernel
theorem dX6_addTable_12 : decode cX6_addTable 12 = .ok (.aload_n 0, 1) := by decide +kernel
theorem dX6_addTable_13 : decode cX6_addTable 13 = .ok (.getfield 52, 3) := by decide +kernel
theorem dX6_addTable_16 : decode cX6_addTable 16 = .ok (.iload_n 1, 1) := by decide +kernel
theorem dX6_addTable_17 : decode cX6_addTable 17 = .ok (.iastore, 1) := by decide +kernel
theorem dX6_addTable_18 : decode cX6_addTable 18 = .ok (.aload_n 0, 1) := by decide +kernel
theorem dX6_addTable_19 : decode cX6_addTable 19 = .ok (.getfield 22, 3) := by decide +kernel
theorem dX6_addTable_22 : decode cX6_addTable 22 = .ok (.aload_n 0, 1) := by decide +kernel
theorem dX6_addTable_23 : decode cX6_addTable 23 = .ok (.getfield 52, 3) := by decide +kernel
theorem dX6_addTable_26 : decode cX6_addTable 26 = .ok (.iconst 0, 1) := by decide +kernel
theorem dX6_addTable_27 : decode cX6_addTable 27 = .ok (.iastore, 1) := by decide +kernel
theorem dX6_addTable_28 : decode cX6_addTable 28 = .ok (.aload_n 0, 1) := by decide +kernel
theorem dX6_addTable_29 : decode cX6_addTable 29 = .ok (.dup, 1) := by decide +kernel
theorem dX6_addTable_30 : decode cX6_addTable 30 = .ok (.getfield 52, 3) := by decide +kernel
theorem dX6_addTable_33 : decode cX6_addTable 33 = .ok (.iconst 1, 1) := by decide +kernel
theorem dX6_addTable_34 : decode cX6_addTable 34 = .ok (.iadd, 1) := by decide +kernel
theorem dX6_addTable_35 : decode cX6_addTable 35 = .ok (.putfield 52, 3) := by decide +kernel
theorem dX6_addTable_38 : decode cX6_addTable 38 = .ok (.return_, 1) := by decide +kernel
theorem b_X6_addTable_0 {h : Nat} {L : LVs} {st : List AV} {S : ST} {Q : Option AV → ST → Prop} (k : o_al L st S (fun L st S => o_get L st S (fun L st S => o_c L st S (fun L st S => t_2 L st S (fun x y => y ≤ x) (fun L st S => V MX6_addTable h 38 L st S Q) (fun L st S => V MX6_addTable h 8 L st S Q)) (nI 2)) 6 9 (0, 0, 0)) 0) : V MX6_addTable h 0 L st S Q :=
  v_aload_n dX6_addTable_0 rfl (fun L st S k => v_get dX6_addTable_1 rfl iX6 LY_6 rfl (by decide) rfl fl_X6_52 (fun L st S k => v_iconst dX6_addTable_4 (by decide) (fun L st S k => w_icmp_ge dX6_addTable_5 (by decide) rfl k) k) k) k
theorem b_X6_addTable_8 {h : Nat} {L : LVs} {st : List AV} {S : ST} {Q : Option AV → ST → Prop} (k : o_al L st S (fun L st S => o_get L st S (fun L st S => o_al L st S (fun L st S => o_get L st S (fun L st S => o_il L st S (fun L st S => o_iast L st S (fun L st S => o_al L st S (fun L st S => o_get L st S (fun L st S => o_al L st S (fun L st S => o_get L st S (fun L st S => o_c L st S (fun L st S => o_iast L st S (fun L st S => o_al L st S (fun L st S => o_dup L st S (fun L st S => o_get L st S (fun L st S => o_c L st S (fun L st S => o_iadd L st S (fun L st S => o_puti L st S (fun L st S => V MX6_addTable h 38 L st S Q) 6 9)) (nI 1)) 6 9 (0, 0, 0))) 0)) (nI 0)) 6 9 (0, 0, 0)) 0) 6 2 (3, 23, 0)) 0)) 1) 6 9 (0, 0, 0)) 0) 6 1 (3, 22, 0)) 0) : V MX6_addTable h 8 L st S Q :=
  v_aload_n dX6_addTable_8 rfl (fun L st S k => v_get dX6_addTable_9 rfl iX6 LY_6 rfl (by decide) rfl fl_X6_18 (fun L st S k => v_aload_n dX6_addTable_12 rfl (fun L st S k => v_get dX6_addTable_13 rfl iX6 LY_6 rfl (by decide) rfl fl_X6_52 (fun L st S k => v_iload_n dX6_addTable_16 rfl (fun L st S k => v_iastore dX6_addTable_17 (fun L st S k => v_aload_n dX6_addTable_18 rfl (fun L st S k => v_get dX6_addTable_19 rfl iX6 LY_6 rfl (by decide) rfl fl_X6_22 (fun L st S k => v_aload_n dX6_addTable_22 rfl (fun L st S k => v_get dX6_addTable_23 rfl iX6 LY_6 rfl (by decide) rfl fl_X6_52 (fun L st S k => v_iconst dX6_addTable_26 (by decide) (fun L st S k => v_iastore dX6_addTable_27 (fun L st S k => v_aload_n dX6_addTable_28 rfl (fun L st S k => v_dup dX6_addTable_29 (fun L st S k => v_get dX6_addTable_30 rfl iX6 LY_6 rfl (by decide) rfl fl_X6_52 (fun L st S k => v_iconst dX6_addTable_33 (by decide) (fun L st S k => v_iadd dX6_addTable_34 (fun L st S k => v_puti dX6_addTable_35 rfl iX6 tyX6_ok nmX6 LY_6 rfl (by decide) rfl fl_X6_52 rfl rfl (fun L st S k => k) k) k) k) k) k) k) k) k) k) k) k) k) k) k) k) k) k) k
theorem b_X6_addTable_38 {h : Nat} {L : LVs} {st : List AV} {S : ST} {Q : Option AV → ST → Prop} (k : t_vr st S Q) : V MX6_addTable h 38 L st S Q :=
  w_vr dX6_addTable_38 rfl k
-- QueryForge$Statement.addColumn(II)V
theorem dX6_addColumn_0 : decode cX6_addColumn 0 = .ok (.aload_n 0, 1) := by decide +kernel
theorem dX6_addColumn_1 : decode cX6_addColumn 1 = .ok (.getfield 55, 3) := by decide +kernel
theorem dX6_addColumn_4 : decode cX6_addColumn 4 = .ok (.iconst 4, 1) := by decide +kernel
theorem dX6_addColumn_5 : decode cX6_addColumn 5 = .ok (.if_icmp .ge 33, 3) := by decide +kernel
theorem dX6_addColumn_8 : decode cX6_addColumn 8 = .ok (.aload_n 0, 1) := by decide +kernel
theorem dX6_addColumn_9 : decode cX6_addColumn 9 = .ok (.getfield 25, 3) := by decide +kernel
theorem dX6_addColumn_12 : decode cX6_addColumn 12 = .ok (.aload_n 0, 1) := by decide +kernel
theorem dX6_addColumn_13 : decode cX6_addColumn 13 = .ok (.getfield 55, 3) := by decide +kernel
theorem dX6_addColumn_16 : decode cX6_addColumn 16 = .ok (.iload_n 1, 1) := by decide +kernel
theorem dX6_addColumn_17 : decode cX6_addColumn 17 = .ok (.iastore, 1) := by decide +kernel
theorem dX6_addColumn_18 : decode cX6_addColumn 18 = .ok (.aload_n 0, 1) := by decide +kernel
theorem dX6_addColumn_19 : decode cX6_addColumn 19 = .ok (.getfield 28, 3) := by decide +kernel
theorem dX6_addColumn_22 : decode cX6_addColumn 22 = .ok (.aload_n 0, 1) := by decide +kernel
theorem dX6_addColumn_23 : decode cX6_addColumn 23 = .ok (.getfield 55, 3) := by decide +kernel
theorem dX6_addColumn_26 : decode cX6_addColumn 26 = .ok (.iload_n 2, 1) := by decide +kernel
theorem dX6_addColumn_27 : decode cX6_addColumn 27 = .ok (.iastore, 1) := by decide +kernel
theorem dX6_addColumn_28 : decode cX6_addColumn 28 = .ok (.aload_n 0, 1) := by decide +kernel
theorem dX6_addColumn_29 : decode cX6_addColumn 29 = .ok (.dup, 1) := by decide +kernel
theorem dX6_addColumn_30 : decode cX6_addColumn 30 = .ok (.getfield 55, 3) := by decide +kernel
theorem dX6_addColumn_33 : decode cX6_addColumn 33 = .ok (.iconst 1, 1) := by decide +kernel
theorem dX6_addColumn_34 : decode cX6_addColumn 34 = .ok (.iadd, 1) := by decide +kernel
theorem dX6_addColumn_35 : decode cX6_addColumn 35 = .ok (.putfield 55, 3) := by decide +kernel
theorem dX6_addColumn_38 : decode cX6_addColumn 38 = .ok (.return_, 1) := by decide +kernel
theorem b_X6_addColumn_0 {h : Nat} {L : LVs} {st : List AV} {S : ST} {Q : Option AV → ST → Prop} (k : o_al L st S (fun L st S => o_get L st S (fun L st S => o_c L st S (fun L st S => t_2 L st S (fun x y => y ≤ x) (fun L st S => V MX6_addColumn h 38 L st S Q) (fun L st S => V MX6_addColumn h 8 L st S Q)) (nI 4)) 6 10 (0, 0, 0)) 0) : V MX6_addColumn h 0 L st S Q :=
  v_aload_n dX6_addColumn_0 rfl (fun L st S k => v_get dX6_addColumn_1 rfl iX6 LY_6 rfl (by decide) rfl fl_X6_55 (fun L st S k => v_iconst dX6_addColumn_4 (by decide) (fun L st S k => w_icmp_ge dX6_addColumn_5 (by decide) rfl k) k) k) k
theorem b_X6_addColumn_8 {h : Nat} {L : LVs} {st : List AV} {S : ST} {Q : Option AV → ST → Prop} (k : o_al L st S (fun L st S => o_get L st S (fun L st S => o_al L st S (fun L st S => o_get L st S (fun L st S => o_il L st S (fun L st S => o_iast L st S (fun L st S => o_al L st S (fun L st S => o_get L st S (fun L st S => o_al L st S (fun L st S => o_get L st S (fun L st S => o_il L st S (fun L st S => o_iast L st S (fun L st S => o_al L st S (fun L st S => o_dup L st S (fun L st S => o_get L st S (fun L st S => o_c L st S (fun L st S => o_iadd L st S (fun L st S => o_puti L st S (fun L st S => V MX6_addColumn h 38 L st S Q) 6 10)) (nI 1)) 6 10 (0, 0, 0))) 0)) 2) 6 10 (0, 0, 0)) 0) 6 4 (3, 25, 0)) 0)) 1) 6 10 (0, 0, 0)) 0) 6 3 (3, 24, 0)) 0) : V MX6_addColumn h 8 L st S Q :=
  v_aload_n dX6_addColumn_8 rfl (fun L st S k => v_get dX6_addColumn_9 rfl iX6 LY_6 rfl (by decide) rfl fl_X6_25 (fun L st S k => v_aload_n dX6_addColumn_12 rfl (fun L st S k => v_get dX6_addColumn_13 rfl iX6 LY_6 rfl (by decide) rfl fl_X6_55 (fun L st S k => v_iload_n dX6_addColumn_16 rfl (fun L st S k => v_iastore dX6_addColumn_17 (fun L st S k => v_aload_n dX6_addColumn_18 rfl (fun L st S k => v_get dX6_addColumn_19 rfl iX6 LY_6 rfl (by decide) rfl fl_X6_28 (fun L st S k => v_aload_n dX6_addColumn_22 rfl (fun L st S k => v_get dX6_addColumn_23 rfl iX6 LY_6 rfl (by decide) rfl fl_X6_55 (fun L st S k => v_iload_n dX6_addColumn_26 rfl (fun L st S k => v_iastore dX6_addColumn_27 (fun L st S k => v_aload_n dX6_addColumn_28 rfl (fun L st S k => v_dup dX6_addColumn_29 (fun L st S k => v_get dX6_addColumn_30 rfl iX6 LY_6 rfl (by decide) rfl fl_X6_55 (fun L st S k => v_iconst dX6_addColumn_33 (by decide) (fun L st S k => v_iadd dX6_addColumn_34 (fun L st S k => v_puti dX6_addColumn_35 rfl iX6 tyX6_ok nmX6 LY_6 rfl (by decide) rfl fl_X6_55 rfl rfl (fun L st S k => k) k) k) k) k) k) k) k) k) k) k) k) k) k) k) k) k) k) k
theorem b_X6_addColumn_38 {h : Nat} {L : LVs} {st : List AV} {S : ST} {Q : Option AV → ST → Prop} (k : t_vr st S Q) : V MX6_addColumn h 38 L st S Q :=
  w_vr dX6_addColumn_38 rfl k
-- QueryForge$Statement.addValue(II)V
theorem dX6_addValue_0 : decode cX6_addValue 0 = .ok (.aload_n 0, 1) := by decide +kernel
theorem dX6_addValue_1 : decode cX6_addValue 1 = .ok (.getfield 55, 3) := by decide +kernel
theorem dX6_addValue_4 : decode cX6_addValue 4 = .ok (.iconst 4, 1) := by decide +kernel
theorem dX6_addValue_5 : decode cX6_addValue 5 = .ok (.if_icmp .ge 33, 3) := by decide +kernel
theorem dX6_addValue_8 : decode cX6_addValue 8 = .ok (.aload_n 0, 1) := by decide +kernel
theorem dX6_addValue_9 : decode cX6_addValue 9 = .ok (.getfield 31, 3) := by decide +kernel
theorem dX6_addValue_12 : decode cX6_addValue 12 = .ok (.aload_n 0, 1) := by decide +kernel
theorem dX6_addValue_13 : decode cX6_addValue 13 = .ok (.getfield 55, 3) := by decide +kernel
theorem dX6_addValue_16 : decode cX6_addValue 16 = .ok (.iload_n 1, 1) := by decide +kernel
theorem dX6_addValue_17 : decode cX6_addValue 17 = .ok (.iastore, 1) := by decide +kernel
theorem dX6_addValue_18 : decode cX6_addValue 18 = .ok (.aload_n 0, 1) := by decide +kernel
theorem dX6_addValue_19 : decode cX6_addValue 19 = .ok (.getfield 28, 3) := by decide +kernel
theorem dX6_addValue_22 : decode cX6_addValue 22 = .ok (.aload_n 0, 1) := by decide +kernel
theorem dX6_addValue_23 : decode cX6_addValue 23 = .ok (.getfield 55, 3) := by decide +kernel
theorem dX6_addValue_26 : decode cX6_addValue 26 = .ok (.iload_n 2, 1) := by decide +kernel
theorem dX6_addValue_27 : decode cX6_addValue 27 = .ok (.iastore, 1) := by decide +kernel
theorem dX6_addValue_28 : decode cX6_addValue 28 = .ok (.aload_n 0, 1) := by decide +kernel
theorem dX6_addValue_29 : decode cX6_addValue 29 = .ok (.dup, 1) := by decide +kernel
theorem dX6_addValue_30 : decode cX6_addValue 30 = .ok (.getfield 55, 3) := by decide +kernel
theorem dX6_addValue_33 : decode cX6_addValue 33 = .ok (.iconst 1, 1) := by decide +kernel
theorem dX6_addValue_34 : decode cX6_addValue 34 = .ok (.iadd, 1) := by decide +kernel
theorem dX6_addValue_35 : decode cX6_addValue 35 = .ok (.putfield 55, 3) := by decide +kernel
theorem dX6_addValue_38 : decode cX6_addValue 38 = .ok (.return_, 1) := by decide +kernel
theorem b_X6_addValue_0 {h : Nat} {L : LVs} {st : List AV} {S : ST} {Q : Option AV → ST → Prop} (k : o_al L st S (fun L st S => o_get L st S (fun L st S => o_c L st S (fun L st S => t_2 L st S (fun x y => y ≤ x) (fun L st S => V MX6_addValue h 38 L st S Q) (fun L st S => V MX6_addValue h 8 L st S Q)) (nI 4)) 6 10 (0, 0, 0)) 0) : V MX6_addValue h 0 L st S Q :=
  v_aload_n dX6_addValue_0 rfl (fun L st S k => v_get dX6_addValue_1 rfl iX6 LY_6 rfl (by decide) rfl fl_X6_55 (fun L st S k => v_iconst dX6_addValue_4 (by decide) (fun L st S k => w_icmp_ge dX6_addValue_5 (by decide) rfl k) k) k) k
theorem b_X6_addValue_8 {h : Nat} {L : LVs} {st : List AV} {S : ST} {Q : Option AV → ST → Prop} (k : o_al L st S (fun L st S => o_get L st S (fun L st S => o_al L st S (fun L st S => o_get L st S (fun L st S => o_il L st S (fun L st S => o_iast L st S (fun L st S => o_al L st S (fun L st S => o_get L st S (fun L st S => o_al L st S (fun L st S => o_get L st S (fun L st S => o_il L st S (fun L st S => o_iast L st S (fun L st S => o_al L st S (fun L st S => o_dup L st S (fun L st S => o_get L st S (fun L st S => o_c L st S (fun L st S => o_iadd L st S (fun L st S => o_puti L st S (fun L st S => V MX6_addValue h 38 L st S Q) 6 10)) (nI 1)) 6 10 (0, 0, 0))) 0)) 2) 6 10 (0, 0, 0)) 0) 6 4 (3, 25, 0)) 0)) 1) 6 10 (0, 0, 0)) 0) 6 5 (3, 26, 0)) 0) : V MX6_addValue h 8 L st S Q :=
  v_aload_n dX6_addValue_8 rfl (fun L st S k => v_get dX6_addValue_9 rfl iX6 LY_6 rfl (by decide) rfl fl_X6_31 (fun L st S k => v_aload_n dX6_addValue_12 rfl (fun L st S k => v_get dX6_addValue_13 rfl iX6 LY_6 rfl (by decide) rfl fl_X6_55 (fun L st S k => v_iload_n dX6_addValue_16 rfl (fun L st S k => v_iastore dX6_addValue_17 (fun L st S k => v_aload_n dX6_addValue_18 rfl (fun L st S k => v_get dX6_addValue_19 rfl iX6 LY_6 rfl (by decide) rfl fl_X6_28 (fun L st S k => v_aload_n dX6_addValue_22 rfl (fun L st S k => v_get dX6_addValue_23 rfl iX6 LY_6 rfl (by decide) rfl fl_X6_55 (fun L st S k => v_iload_n dX6_addValue_26 rfl (fun L st S k => v_iastore dX6_addValue_27 (fun L st S k => v_aload_n dX6_addValue_28 rfl (fun L st S k => v_dup dX6_addValue_29 (fun L st S k => v_get dX6_addValue_30 rfl iX6 LY_6 rfl (by decide) rfl fl_X6_55 (fun L st S k => v_iconst dX6_addValue_33 (by decide) (fun L st S k => v_iadd dX6_addValue_34 (fun L st S k => v_puti dX6_addValue_35 rfl iX6 tyX6_ok nmX6 LY_6 rfl (by decide) rfl fl_X6_55 rfl rfl (fun L st S k => k) k) k) k) k) k) k) k) k) k) k) k) k) k) k) k) k) k) k
theorem b_X6_addValue_38 {h : Nat} {L : LVs} {st : List AV} {S : ST} {Q : Option AV → ST → Prop} (k : t_vr st S Q) : V MX6_addValue h 38 L st S Q :=
  w_vr dX6_addValue_38 rfl k
-- QueryForge$Statement.addItem(I)V
theorem dX6_addItem_0 : decode cX6_addItem 0 = .ok (.aload_n 0, 1) := by decide +kernel
theorem dX6_addItem_1 : decode cX6_addItem 1 = .ok (.getfield 55, 3) := by decide +kernel
theorem dX6_addItem_4 : decode cX6_addItem 4 = .ok (.iconst 4, 1) := by decide +kernel
theorem dX6_addItem_5 : decode cX6_addItem 5 = .ok (.if_icmp .ge 39, 3) := by decide +kernel
theorem dX6_addItem_8 : decode cX6_addItem 8 = .ok (.aload_n 0, 1) := by decide +kernel
theorem dX6_addItem_9 : decode cX6_addItem 9 = .ok (.getfield 34, 3) := by decide +kernel
theorem dX6_addItem_12 : decode cX6_addItem 12 = .ok (.aload_n 0, 1) := by decide +kernel
theorem dX6_addItem_13 : decode cX6_addItem 13 = .ok (.getfield 55, 3) := by decide +kernel
theorem dX6_addItem_16 : decode cX6_addItem 16 = .ok (.iload_n 1, 1) := by decide +kernel
theorem dX6_addItem_17 : decode cX6_addItem 17 = .ok (.iastore, 1) := by decide +kernel
theorem dX6_addItem_18 : decode cX6_addItem 18 = .ok (.aload_n 0, 1) := by decide +kernel
theorem dX6_addItem_19 : decode cX6_addItem 19 = .ok (.getfield 37, 3) := by decide +kernel
theorem dX6_addItem_22 : decode cX6_addItem 22 = .ok (.aload_n 0, 1) := by decide +kernel
theorem dX6_addItem_23 : decode cX6_addItem 23 = .ok (.getfield 55, 3) := by decide +kernel
theorem dX6_addItem_26 : decode cX6_addItem 26 = .ok (.aload_n 0, 1) := by decide +kernel
theorem dX6_addItem_27 : decode cX6_addItem 27 = .ok (.getfield 12, 3) := by decide +kernel
theorem dX6_addItem_30 : decode cX6_addItem 30 = .ok (.invokevirtual 77, 3) := by decide +kernel
theorem dX6_addItem_33 : decode cX6_addItem 33 = .ok (.iastore, 1) := by decide +kernel
theorem dX6_addItem_34 : decode cX6_addItem 34 = .ok (.aload_n 0, 1) := by decide +kernel
theorem dX6_addItem_35 : decode cX6_addItem 35 = .ok (.dup, 1) := by decide +kernel
theorem dX6_addItem_36 : decode cX6_addItem 36 = .ok (.getfield 55, 3) := by decide +kernel
theorem dX6_addItem_39 : decode cX6_addItem 39 = .ok (.iconst 1, 1) := by decide +kernel
theorem dX6_addItem_40 : decode cX6_addItem 40 = .ok (.iadd, 1) := by decide +kernel
theorem dX6_addItem_41 : decode cX6_addItem 41 = .ok (.putfield 55, 3) := by decide +kernel
theorem dX6_addItem_44 : decode cX6_addItem 44 = .ok (.return_, 1) := by decide +kernel
theorem b_X6_addItem_0 {h : Nat} {L : LVs} {st : List AV} {S : ST} {Q : Option AV → ST → Prop} (k : o_al L st S (fun L st S => o_get L st S (fun L st S => o_c L st S (fun L st S => t_2 L st S (fun x y => y ≤ x) (fun L st S => V MX6_addItem h 44 L st S Q) (fun L st S => V MX6_addItem h 8 L st S Q)) (nI 4)) 6 10 (0, 0, 0)) 0) : V MX6_addItem h 0 L st S Q :=
  v_aload_n dX6_addItem_0 rfl (fun L st S k => v_get dX6_addItem_1 rfl iX6 LY_6 rfl (by decide) rfl fl_X6_55 (fun L st S k => v_iconst dX6_addItem_4 (by decide) (fun L st S k => w_icmp_ge dX6_addItem_5 (by decide) rfl k) k) k) k
theorem b_X6_addItem_8 {h : Nat} {L : LVs} {st : List AV} {S : ST} {Q : Option AV → ST → Prop} (k : o_al L st S (fun L st S => o_get L st S (fun L st S => o_al L st S (fun L st S => o_get L st S (fun L st S => o_il L st S (fun L st S => o_iast L st S (fun L st S => o_al L st S (fun L st S => o_get L st S (fun L st S => o_al L st S (fun L st S => o_get L st S (fun L st S => o_al L st S (fun L st S => o_get L st S (fun L st S => V MX6_addItem h 30 L st S Q) 6 0 (4, 1, 0)) 0) 6 10 (0, 0, 0)) 0) 6 7 (3, 28, 0)) 0)) 1) 6 10 (0, 0, 0)) 0) 6 6 (3, 27, 0)) 0) : V MX6_addItem h 8 L st S Q :=
  v_aload_n dX6_addItem_8 rfl (fun L st S k => v_get dX6_addItem_9 rfl iX6 LY_6 rfl (by decide) rfl fl_X6_34 (fun L st S k => v_aload_n dX6_addItem_12 rfl (fun L st S k => v_get dX6_addItem_13 rfl iX6 LY_6 rfl (by decide) rfl fl_X6_55 (fun L st S k => v_iload_n dX6_addItem_16 rfl (fun L st S k => v_iastore dX6_addItem_17 (fun L st S k => v_aload_n dX6_addItem_18 rfl (fun L st S k => v_get dX6_addItem_19 rfl iX6 LY_6 rfl (by decide) rfl fl_X6_37 (fun L st S k => v_aload_n dX6_addItem_22 rfl (fun L st S k => v_get dX6_addItem_23 rfl iX6 LY_6 rfl (by decide) rfl fl_X6_55 (fun L st S k => v_aload_n dX6_addItem_26 rfl (fun L st S k => v_get dX6_addItem_27 rfl iX6 LY_6 rfl (by decide) rfl fl_X6_12 (fun L st S k => k) k) k) k) k) k) k) k) k) k) k) k) k
theorem k_X6_addItem_30 {h : Nat} {L : LVs} {st : List AV} {S : ST} {Q Q' : Option AV → ST → Prop} {j : Nat} (hC : Ct MX1_end h [vR 1 j] S Q') (k : ∀ (r : Option AV) (S' : ST), Q' r S' → V MX6_addItem (h + 1) 33 L (r.toList ++ st) S' Q) (hj : j < NI 1) (hw : wid st ≤ 8) : V MX6_addItem (h + 1) 30 L (vR 1 j :: st) S Q :=
  v_callV (M' := MX1_end) (c := 1) (As := []) dX6_addItem_30 ml_X6_77 im_X1_end se_X1_end in_X1 cd_X1_end rfl LY_1 np_X1_end (by decide) hw hj hC k
theorem b_X6_addItem_33 {h : Nat} {L : LVs} {st : List AV} {S : ST} {Q : Option AV → ST → Prop} (k : o_iast L st S (fun L st S => o_al L st S (fun L st S => o_dup L st S (fun L st S => o_get L st S (fun L st S => o_c L st S (fun L st S => o_iadd L st S (fun L st S => o_puti L st S (fun L st S => V MX6_addItem h 44 L st S Q) 6 10)) (nI 1)) 6 10 (0, 0, 0))) 0)) : V MX6_addItem h 33 L st S Q :=
  v_iastore dX6_addItem_33 (fun L st S k => v_aload_n dX6_addItem_34 rfl (fun L st S k => v_dup dX6_addItem_35 (fun L st S k => v_get dX6_addItem_36 rfl iX6 LY_6 rfl (by decide) rfl fl_X6_55 (fun L st S k => v_iconst dX6_addItem_39 (by decide) (fun L st S k => v_iadd dX6_addItem_40 (fun L st S k => v_puti dX6_addItem_41 rfl iX6 tyX6_ok nmX6 LY_6 rfl (by decide) rfl fl_X6_55 rfl rfl (fun L st S k => k) k) k) k) k) k) k) k
theorem b_X6_addItem_44 {h : Nat} {L : LVs} {st : List AV} {S : ST} {Q : Option AV → ST → Prop} (k : t_vr st S Q) : V MX6_addItem h 44 L st S Q :=
  w_vr dX6_addItem_44 rfl k
-- QueryForge$Statement.itemStart(I)I
theorem dX6_itemStart_0 : decode cX6_itemStart 0 = .ok (.iload_n 1, 1) := by decide +kernel
theorem dX6_itemStart_1 : decode cX6_itemStart 1 = .ok (.iconst 1, 1) := by decide +kernel
theorem dX6_itemStart_2 : decode cX6_itemStart 2 = .ok (.if_icmp .lt 22, 3) := by decide +kernel
theorem dX6_itemStart_5 : decode cX6_itemStart 5 = .ok (.iload_n 1, 1) := by decide +kernel
theorem dX6_itemStart_6 : decode cX6_itemStart 6 = .ok (.aload_n 0, 1) := by decide +kernel
theorem dX6_itemStart_7 : decode cX6_itemStart 7 = .ok (.getfield 55, 3) := by decide +kernel
theorem dX6_itemStart_10 : decode cX6_itemStart 10 = .ok (.if_icmp .ge 14, 3) := by decide +kernel
theorem dX6_itemStart_13 : decode cX6_itemStart 13 = .ok (.aload_n 0, 1) := by decide +kernel
theorem dX6_itemStart_14 : decode cX6_itemStart 14 = .ok (.getfield 37, 3) := by decide +kernel
theorem dX6_itemStart_17 : decode cX6_itemStart 17 = .ok (.iload_n 1, 1) := by decide +kernel
theorem dX6_itemStart_18 : decode cX6_itemStart 18 = .ok (.iconst 1, 1) := by decide +kernel
theorem dX6_itemStart_19 : decode cX6_itemStart 19 = .ok (.isub, 1) := by decide +kernel
theorem dX6_itemStart_20 : decode cX6_itemStart 20 = .ok (.iaload, 1) := by decide +kernel
theorem dX6_itemStart_21 : decode cX6_itemStart 21 = .ok (.goto 4, 3) := by decide +kernel
theorem dX6_itemStart_24 : decode cX6_itemStart 24 = .ok (.iconst 0, 1) := by decide +kernel
theorem dX6_itemStart_25 : decode cX6_itemStart 25 = .ok (.ireturn, 1) := by decide +kernel
theorem b_X6_itemStart_0 {h : Nat} {L : LVs} {st : List AV} {S : ST} {Q : Option AV → ST → Prop} (k : o_il L st S (fun L st S => o_c L st S (fun L st S => t_2 L st S (fun x y => x < y) (fun L st S => V MX6_itemStart h 24 L st S Q) (fun L st S => V MX6_itemStart h 5 L st S Q)) (nI 1)) 1) : V MX6_itemStart h 0 L st S Q :=
  v_iload_n dX6_itemStart_0 rfl (fun L st S k => v_iconst dX6_itemStart_1 (by decide) (fun L st S k => w_icmp_lt dX6_itemStart_2 (by decide) rfl k) k) k
theorem b_X6_itemStart_5 {h : Nat} {L : LVs} {st : List AV} {S : ST} {Q : Option AV → ST → Prop} (k : o_il L st S (fun L st S => o_al L st S (fun L st S => o_get L st S (fun L st S => t_2 L st S (fun x y => y ≤ x) (fun L st S => V MX6_itemStart h 24 L st S Q) (fun L st S => V MX6_itemStart h 13 L st S Q)) 6 10 (0, 0, 0)) 0) 1) : V MX6_itemStart h 5 L st S Q :=
  v_iload_n dX6_itemStart_5 rfl (fun L st S k => v_aload_n dX6_itemStart_6 rfl (fun L st S k => v_get dX6_itemStart_7 rfl iX6 LY_6 rfl (by decide) rfl fl_X6_55 (fun L st S k => w_icmp_ge dX6_itemStart_10 (by decide) rfl k) k) k) k
theorem b_X6_itemStart_13 {h : Nat} {L : LVs} {st : List AV} {S : ST} {Q : Option AV → ST → Prop} (k : o_al L st S (fun L st S => o_get L st S (fun L st S => o_il L st S (fun L st S => o_c L st S (fun L st S => o_isub L st S (fun L st S => o_iald L st S (fun L st S => V MX6_itemStart h 25 L st S Q))) (nI 1)) 1) 6 7 (3, 28, 0)) 0) : V MX6_itemStart h 13 L st S Q :=
  v_aload_n dX6_itemStart_13 rfl (fun L st S k => v_get dX6_itemStart_14 rfl iX6 LY_6 rfl (by decide) rfl fl_X6_37 (fun L st S k => v_iload_n dX6_itemStart_17 rfl (fun L st S k => v_iconst dX6_itemStart_18 (by decide) (fun L st S k => v_isub dX6_itemStart_19 (fun L st S k => v_iaload dX6_itemStart_20 (fun L st S k => v_goto dX6_itemStart_21 (by decide) k) k) k) k) k) k) k
theorem b_X6_itemStart_24 {h : Nat} {L : LVs} {st : List AV} {S : ST} {Q : Option AV → ST → Prop} (k : o_c L st S (fun L st S => V MX6_itemStart h 25 L st S Q) (nI 0)) : V MX6_itemStart h 24 L st S Q :=
  v_iconst dX6_itemStart_24 (by decide) (fun L st S k => k) k
theorem b_X6_itemStart_25 {h : Nat} {L : LVs} {st : List AV} {S : ST} {Q : Option AV → ST → Prop} (k : t_ir st S Q) : V MX6_itemStart h 25 L st S Q :=
  w_ir dX6_itemStart_25 rfl k
-- QueryForge$Statement.isGrouped()Z
theorem dX6_isGrouped_0 : decode cX6_isGrouped 0 = .ok (.aload_n 0, 1) := by decide +kernel
theorem dX6_isGrouped_1 : decode cX6_isGrouped 1 = .ok (.getfield 67, 3) := by decide +kernel
theorem dX6_isGrouped_4 : decode cX6_isGrouped 4 = .ok (.iconst (-1), 1) := by decide +kernel
theorem dX6_isGrouped_5 : decode cX6_isGrouped 5 = .ok (.if_icmp .eq 7, 3) := by decide +kernel
theorem dX6_isGrouped_8 : decode cX6_isGrouped 8 = .ok (.iconst 1, 1) := by decide +kernel
theorem dX6_isGrouped_9 : decode cX6_isGrouped 9 = .ok (.goto 4, 3) := by decide +kernel
theorem dX6_isGrouped_12 : decode cX6_isGrouped 12 = .ok (.iconst 0, 1) := by decide +kernel
theorem dX6_isGrouped_13 : decode cX6_isGrouped 13 = .ok (.ireturn, 1) := by decide +kernel
theorem b_X6_isGrouped_0 {h : Nat} {L : LVs} {st : List AV} {S : ST} {Q : Option AV → ST → Prop} (k : o_al L st S (fun L st S => o_get L st S (fun L st S => o_c L st S (fun L st S => t_2 L st S (fun x y => x = y) (fun L st S => V MX6_isGrouped h 12 L st S Q) (fun L st S => V MX6_isGrouped h 8 L st S Q)) (-1)) 6 14 (0, 0, 0)) 0) : V MX6_isGrouped h 0 L st S Q :=
  v_aload_n dX6_isGrouped_0 rfl (fun L st S k => v_get dX6_isGrouped_1 rfl iX6 LY_6 rfl (by decide) rfl fl_X6_67 (fun L st S k => v_iconst dX6_isGrouped_4 (by decide) (fun L st S k => w_icmp_eq dX6_isGrouped_5 (by decide) rfl k) k) k) k
theorem b_X6_isGrouped_8 {h : Nat} {L : LVs} {st : List AV} {S : ST} {Q : Option AV → ST → Prop} (k : o_c L st S (fun L st S => V MX6_isGrouped h 13 L st S Q) (nI 1)) : V MX6_isGrouped h 8 L st S Q :=
  v_iconst dX6_isGrouped_8 (by decide) (fun L st S k => v_goto dX6_isGrouped_9 (by decide) k) k
theorem b_X6_isGrouped_12 {h : Nat} {L : LVs} {st : List AV} {S : ST} {Q : Option AV → ST → Prop} (k : o_c L st S (fun L st S => V MX6_isGrouped h 13 L st S Q) (nI 0)) : V MX6_isGrouped h 12 L st S Q :=
  v_iconst dX6_isGrouped_12 (by decide) (fun L st S k => k) k
theorem b_X6_isGrouped_13 {h : Nat} {L : LVs} {st : List AV} {S : ST} {Q : Option AV → ST → Prop} (k : t_zr st S Q) : V MX6_isGrouped h 13 L st S Q :=
  w_zr dX6_isGrouped_13 rfl k
-- QueryForge$Statement.aggregateCount()I
theorem dX6_aggregateCount_0 : decode cX6_aggregateCount 0 = .ok (.iconst 0, 1) := by decide +kernel
theorem dX6_aggregateCount_1 : decode cX6_aggregateCount 1 = .ok (.istore_n 1, 1) := by decide +kernel
theorem dX6_aggregateCount_2 : decode cX6_aggregateCount 2 = .ok (.iconst 0, 1) := by decide +kernel
theorem dX6_aggregateCount_3 : decode cX6_aggregateCount 3 = .ok (.istore_n 2, 1) := by decide +kernel
theorem dX6_aggregateCount_4 : decode cX6_aggregateCount 4 = .ok (.iload_n 2, 1) := by decide +kernel
theorem dX6_aggregateCount_5 : decode cX6_aggregateCount 5 = .ok (.aload_n 0, 1) := by decide +kernel
theorem dX6_aggregateCount_6 : decode cX6_aggregateCount 6 = .ok (.getfield 55, 3) := by decide +kernel
theorem dX6_aggregateCount_9 : decode cX6_aggregateCount 9 = .ok (.if_icmp .ge 22, 3) := by decide +kernel
theorem dX6_aggregateCount_12 : decode cX6_aggregateCount 12 = .ok (.aload_n 0, 1) := by decide +kernel
theorem dX6_aggregateCount_13 : decode cX6_aggregateCount 13 = .ok (.getfield 34, 3) := by decide +kernel
theorem dX6_aggregateCount_16 : decode cX6_aggregateCount 16 = .ok (.iload_n 2, 1) := by decide +kernel
theorem dX6_aggregateCount_17 : decode cX6_aggregateCount 17 = .ok (.iaload, 1) := by decide +kernel
theorem dX6_aggregateCount_18 : decode cX6_aggregateCount 18 = .ok (.iconst (-1), 1) := by decide +kernel
theorem dX6_aggregateCount_19 : decode cX6_aggregateCount 19 = .ok (.if_icmp .eq 6, 3) := by decide +kernel
theorem dX6_aggregateCount_22 : decode cX6_aggregateCount 22 = .ok (.iinc 1 1, 3) := by decide +kernel
theorem dX6_aggregateCount_25 : decode cX6_aggregateCount 25 = .ok (.iinc 2 1, 3) := by decide +kernel
theorem dX6_aggregateCount_28 : decode cX6_aggregateCount 28 = .ok (.goto (-24), 3) := by decide +kernel
theorem dX6_aggregateCount_31 : decode cX6_aggregateCount 31 = .ok (.iload_n 1, 1) := by decide +kernel
theorem dX6_aggregateCount_32 : decode cX6_aggregateCount 32 = .ok (.ireturn, 1) := by decide +kernel
theorem b_X6_aggregateCount_0 {h : Nat} {L : LVs} {st : List AV} {S : ST} {Q : Option AV → ST → Prop} (k : o_c L st S (fun L st S => o_is L st S (fun L st S => o_c L st S (fun L st S => o_is L st S (fun L st S => V MX6_aggregateCount h 4 L st S Q) 2) (nI 0)) 1) (nI 0)) : V MX6_aggregateCount h 0 L st S Q :=
  v_iconst dX6_aggregateCount_0 (by decide) (fun L st S k => v_istore_n dX6_aggregateCount_1 rfl (by decide) (fun L st S k => v_iconst dX6_aggregateCount_2 (by decide) (fun L st S k => v_istore_n dX6_aggregateCount_3 rfl (by decide) (fun L st S k => k) k) k) k) k
theorem b_X6_aggregateCount_4 {h : Nat} {L : LVs} {st : List AV} {S : ST} {Q : Option AV → ST → Prop} (k : o_il L st S (fun L st S => o_al L st S (fun L st S => o_get L st S (fun L st S => t_2 L st S (fun x y => y ≤ x) (fun L st S => V MX6_aggregateCount h 31 L st S Q) (fun L st S => V MX6_aggregateCount h 12 L st S Q)) 6 10 (0, 0, 0)) 0) 2) : V MX6_aggregateCount h 4 L st S Q :=
  v_iload_n dX6_aggregateCount_4 rfl (fun L st S k => v_aload_n dX6_aggregateCount_5 rfl (fun L st S k => v_get dX6_aggregateCount_6 rfl iX6 LY_6 rfl (by decide) rfl fl_X6_55 (fun L st S k => w_icmp_ge dX6_aggregateCount_9 (by decide) rfl k) k) k) k
theorem b_X6_aggregateCount_12 {h : Nat} {L : LVs} {st : List AV} {S : ST} {Q : Option AV → ST → Prop} (k : o_al L st S (fun L st S => o_get L st S (fun L st S => o_il L st S (fun L st S => o_iald L st S (fun L st S => o_c L st S (fun L st S => t_2 L st S (fun x y => x = y) (fun L st S => V MX6_aggregateCount h 25 L st S Q) (fun L st S => V MX6_aggregateCount h 22 L st S Q)) (-1))) 2) 6 6 (3, 27, 0)) 0) : V MX6_aggregateCount h 12 L st S Q :=
  v_aload_n dX6_aggregateCount_12 rfl (fun L st S k => v_get dX6_aggregateCount_13 rfl iX6 LY_6 rfl (by decide) rfl fl_X6_34 (fun L st S k => v_iload_n dX6_aggregateCount_16 rfl (fun L st S k => v_iaload dX6_aggregateCount_17 (fun L st S k => v_iconst dX6_aggregateCount_18 (by decide) (fun L st S k => w_icmp_eq dX6_aggregateCount_19 (by decide) rfl k) k) k) k) k) k
theorem b_X6_aggregateCount_22 {h : Nat} {L : LVs} {st : List AV} {S : ST} {Q : Option AV → ST → Prop} (k : o_inc L st S (fun L st S => V MX6_aggregateCount h 25 L st S Q) 1 (nI 1)) : V MX6_aggregateCount h 22 L st S Q :=
  v_iinc dX6_aggregateCount_22 (by decide) (by decide) (fun L st S k => k) k
theorem b_X6_aggregateCount_25 {h : Nat} {L : LVs} {st : List AV} {S : ST} {Q : Option AV → ST → Prop} (k : o_inc L st S (fun L st S => V MX6_aggregateCount h 4 L st S Q) 2 (nI 1)) : V MX6_aggregateCount h 25 L st S Q :=
  v_iinc dX6_aggregateCount_25 (by decide) (by decide) (fun L st S k => v_goto dX6_aggregateCount_28 (by decide) k) k
theorem b_X6_aggregateCount_31 {h : Nat} {L : LVs} {st : List AV} {S : ST} {Q : Option AV → ST → Prop} (k : o_il L st S (fun L st S => t_ir st S Q) 1) : V MX6_aggregateCount h 31 L st S Q :=
  v_iload_n dX6_aggregateCount_31 rfl (fun L st S k => w_ir dX6_aggregateCount_32 rfl k) k
