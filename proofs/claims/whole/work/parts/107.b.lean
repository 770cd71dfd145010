-- QueryForge$Table.ownName()I
theorem dX7_ownName_0 : decode cX7_ownName 0 = .ok (.aload_n 0, 1) := by decide +kernel
theorem dX7_ownName_1 : decode cX7_ownName 1 = .ok (.getfield 34, 3) := by decide +kernel
theorem dX7_ownName_4 : decode cX7_ownName 4 = .ok (.ireturn, 1) := by decide +kernel
theorem b_X7_ownName_0 {h : Nat} {L : LVs} {st : List AV} {S : ST} {Q : Option AV → ST → Prop} (k : o_al L st S (fun L st S => o_get L st S (fun L st S => t_ir st S Q) 7 7 (0, 0, 0)) 0) : V MX7_ownName h 0 L st S Q :=
  v_aload_n dX7_ownName_0 rfl (fun L st S k => v_get dX7_ownName_1 rfl iX7 LY_7 rfl (by decide) rfl fl_X7_34 (fun L st S k => w_ir dX7_ownName_4 rfl k) k) k
-- QueryForge$Table.setName(I)V
theorem dX7_setName_0 : decode cX7_setName 0 = .ok (.aload_n 0, 1) := by decide +kernel
theorem dX7_setName_1 : decode cX7_setName 1 = .ok (.iload_n 1, 1) := by decide +kernel
theorem dX7_setName_2 : decode cX7_setName 2 = .ok (.putfield 34, 3) := by decide +kernel
theorem dX7_setName_5 : decode cX7_setName 5 = .ok (.return_, 1) := by decide +kernel
theorem b_X7_setName_0 {h : Nat} {L : LVs} {st : List AV} {S : ST} {Q : Option AV → ST → Prop} (k : o_al L st S (fun L st S => o_il L st S (fun L st S => o_puti L st S (fun L st S => t_vr st S Q) 7 7) 1) 0) : V MX7_setName h 0 L st S Q :=
  v_aload_n dX7_setName_0 rfl (fun L st S k => v_iload_n dX7_setName_1 rfl (fun L st S k => v_puti dX7_setName_2 rfl iX7 tyX7_ok nmX7 LY_7 rfl (by decide) rfl fl_X7_34 rfl rfl (fun L st S k => w_vr dX7_setName_5 rfl k) k) k) k
-- QueryForge$Table.columnCount()I
theorem dX7_columnCount_0 : decode cX7_columnCount 0 = .ok (.aload_n 0, 1) := by decide +kernel
theorem dX7_columnCount_1 : decode cX7_columnCount 1 = .ok (.getfield 38, 3) := by decide +kernel
theorem dX7_columnCount_4 : decode cX7_columnCount 4 = .ok (.ireturn, 1) := by decide +kernel
theorem b_X7_columnCount_0 {h : Nat} {L : LVs} {st : List AV} {S : ST} {Q : Option AV → ST → Prop} (k : o_al L st S (fun L st S => o_get L st S (fun L st S => t_ir st S Q) 7 8 (0, 0, 0)) 0) : V MX7_columnCount h 0 L st S Q :=
  v_aload_n dX7_columnCount_0 rfl (fun L st S k => v_get dX7_columnCount_1 rfl iX7 LY_7 rfl (by decide) rfl fl_X7_38 (fun L st S k => w_ir dX7_columnCount_4 rfl k) k) k
-- QueryForge$Table.rowCount()I
theorem dX7_rowCount_0 : decode cX7_rowCount 0 = .ok (.aload_n 0, 1) := by decide +kernel
theorem dX7_rowCount_1 : decode cX7_rowCount 1 = .ok (.getfield 41, 3) := by decide +kernel
theorem dX7_rowCount_4 : decode cX7_rowCount 4 = .ok (.ireturn, 1) := by decide +kernel
theorem b_X7_rowCount_0 {h : Nat} {L : LVs} {st : List AV} {S : ST} {Q : Option AV → ST → Prop} (k : o_al L st S (fun L st S => o_get L st S (fun L st S => t_ir st S Q) 7 9 (0, 0, 0)) 0) : V MX7_rowCount h 0 L st S Q :=
  v_aload_n dX7_rowCount_0 rfl (fun L st S k => v_get dX7_rowCount_1 rfl iX7 LY_7 rfl (by decide) rfl fl_X7_41 (fun L st S k => w_ir dX7_rowCount_4 rfl k) k) k
-- QueryForge$Table.isFull()Z
theorem dX7_isFull_0 : decode cX7_isFull 0 = .ok (.aload_n 0, 1) := by decide +kernel
theorem dX7_isFull_1 : decode cX7_isFull 1 = .ok (.getfield 41, 3) := by decide +kernel
theorem dX7_isFull_4 : decode cX7_isFull 4 = .ok (.bipush 24, 2) := by decide +kernel
theorem dX7_isFull_6 : decode cX7_isFull 6 = .ok (.if_icmp .lt 7, 3) := by decide +kernel
theorem dX7_isFull_9 : decode cX7_isFull 9 = .ok (.iconst 1, 1) := by decide +kernel
theorem dX7_isFull_10 : decode cX7_isFull 10 = .ok (.goto 4, 3) := by decide +kernel
theorem dX7_isFull_13 : decode cX7_isFull 13 = .ok (.iconst 0, 1) := by decide +kernel
theorem dX7_isFull_14 : decode cX7_isFull 14 = .ok (.ireturn, 1) := by decide +kernel
theorem b_X7_isFull_0 {h : Nat} {L : LVs} {st : List AV} {S : ST} {Q : Option AV → ST → Prop} (k : o_al L st S (fun L st S => o_get L st S (fun L st S => o_c L st S (fun L st S => t_2 L st S (fun x y => x < y) (fun L st S => V MX7_isFull h 13 L st S Q) (fun L st S => V MX7_isFull h 9 L st S Q)) (nI 24)) 7 9 (0, 0, 0)) 0) : V MX7_isFull h 0 L st S Q :=
  v_aload_n dX7_isFull_0 rfl (fun L st S k => v_get dX7_isFull_1 rfl iX7 LY_7 rfl (by decide) rfl fl_X7_41 (fun L st S k => v_bipush dX7_isFull_4 (by decide) (fun L st S k => w_icmp_lt dX7_isFull_6 (by decide) rfl k) k) k) k
theorem b_X7_isFull_9 {h : Nat} {L : LVs} {st : List AV} {S : ST} {Q : Option AV → ST → Prop} (k : o_c L st S (fun L st S => V MX7_isFull h 14 L st S Q) (nI 1)) : V MX7_isFull h 9 L st S Q :=
  v_iconst dX7_isFull_9 (by decide) (fun L st S k => v_goto dX7_isFull_10 (by decide) k) k
theorem b_X7_isFull_13 {h : Nat} {L : LVs} {st : List AV} {S : ST} {Q : Option AV → ST → Prop} (k : o_c L st S (fun L st S => V MX7_isFull h 14 L st S Q) (nI 0)) : V MX7_isFull h 13 L st S Q :=
  v_iconst dX7_isFull_13 (by decide) (fun L st S k => k) k
theorem b_X7_isFull_14 {h : Nat} {L : LVs} {st : List AV} {S : ST} {Q : Option AV → ST → Prop} (k : t_zr st S Q) : V MX7_isFull h 14 L st S Q :=
  w_zr dX7_isFull_14 rfl k
-- QueryForge$Table.has(II)Z
theorem dX7_has_0 : decode cX7_has 0 = .ok (.iload_n 1, 1) := by decide +kernel
theorem dX7_has_1 : decode cX7_has 1 = .ok (.ifCond .lt 27, 3) := by decide +kernel
theorem dX7_has_4 : decode cX7_has 4 = .ok (.iload_n 1, 1) := by decide +kernel
theorem dX7_has_5 : decode cX7_has 5 = .ok (.aload_n 0, 1) := by decide +kernel
theorem dX7_has_6 : decode cX7_has 6 = .ok (.getfield 41, 3) := by decide +kernel
theorem dX7_has_9 : decode cX7_has 9 = .ok (.if_icmp .ge 19, 3) := by decide +kernel
theorem dX7_has_12 : decode cX7_has 12 = .ok (.iload_n 2, 1) := by decide +kernel
theorem dX7_has_13 : decode cX7_has 13 = .ok (.ifCond .lt 15, 3) := by decide +kernel
theorem dX7_has_16 : decode cX7_has 16 = .ok (.iload_n 2, 1) := by decide +kernel
theorem dX7_has_17 : decode cX7_has 17 = .ok (.aload_n 0, 1) := by decide +kernel
theorem dX7_has_18 : decode cX7_has 18 = .ok (.getfield 38, 3) := by decide +kernel
theorem dX7_has_21 : decode cX7_has 21 = .ok (.if_icmp .ge 7, 3) := by decide +kernel
theorem dX7_has_24 : decode cX7_has 24 = .ok (.iconst 1, 1) := by decide +kernel
theorem dX7_has_25 : decode cX7_has 25 = .ok (.goto 4, 3) := by decide +kernel
theorem dX7_has_28 : decode cX7_has 28 = .ok (.iconst 0, 1) := by decide +kernel
theorem dX7_has_29 : decode cX7_has 29 = .ok (.ireturn, 1) := by decide +kernel
theorem b_X7_has_0 {h : Nat} {L : LVs} {st : List AV} {S : ST} {Q : Option AV → ST → Prop} (k : o_il L st S (fun L st S => t_1 L st S (fun x => x < nI 0) (fun L st S => V MX7_has h 28 L st S Q) (fun L st S => V MX7_has h 4 L st S Q)) 1) : V MX7_has h 0 L st S Q :=
  v_iload_n dX7_has_0 rfl (fun L st S k => w_if_lt dX7_has_1 (by decide) rfl k) k
theorem b_X7_has_4 {h : Nat} {L : LVs} {st : List AV} {S : ST} {Q : Option AV → ST → Prop} (k : o_il L st S (fun L st S => o_al L st S (fun L st S => o_get L st S (fun L st S => t_2 L st S (fun x y => y ≤ x) (fun L st S => V MX7_has h 28 L st S Q) (fun L st S => V MX7_has h 12 L st S Q)) 7 9 (0, 0, 0)) 0) 1) : V MX7_has h 4 L st S Q :=
  v_iload_n dX7_has_4 rfl (fun L st S k => v_aload_n dX7_has_5 rfl (fun L st S k => v_get dX7_has_6 rfl iX7 LY_7 rfl (by decide) rfl fl_X7_41 (fun L st S k => w_icmp_ge dX7_has_9 (by decide) rfl k) k) k) k
theorem b_X7_has_12 {h : Nat} {L : LVs} {st : List AV} {S : ST} {Q : Option AV → ST → Prop} (k : o_il L st S (fun L st S => t_1 L st S (fun x => x < nI 0) (fun L st S => V MX7_has h 28 L st S Q) (fun L st S => V MX7_has h 16 L st S Q)) 2) : V MX7_has h 12 L st S Q :=
  v_iload_n dX7_has_12 rfl (fun L st S k => w_if_lt dX7_has_13 (by decide) rfl k) k
theorem b_X7_has_16 {h : Nat} {L : LVs} {st : List AV} {S : ST} {Q : Option AV → ST → Prop} (k : o_il L st S (fun L st S => o_al L st S (fun L st S => o_get L st S (fun L st S => t_2 L st S (fun x y => y ≤ x) (fun L st S => V MX7_has h 28 L st S Q) (fun L st S => V MX7_has h 24 L st S Q)) 7 8 (0, 0, 0)) 0) 2) : V MX7_has h 16 L st S Q :=
  v_iload_n dX7_has_16 rfl (fun L st S k => v_aload_n dX7_has_17 rfl (fun L st S k => v_get dX7_has_18 rfl iX7 LY_7 rfl (by decide) rfl fl_X7_38 (fun L st S k => w_icmp_ge dX7_has_21 (by decide) rfl k) k) k) k
theorem b_X7_has_24 {h : Nat} {L : LVs} {st : List AV} {S : ST} {Q : Option AV → ST → Prop} (k : o_c L st S (fun L st S => V MX7_has h 29 L st S Q) (nI 1)) : V MX7_has h 24 L st S Q :=
  v_iconst dX7_has_24 (by decide) (fun L st S k => v_goto dX7_has_25 (by decide) k) k
theorem b_X7_has_28 {h : Nat} {L : LVs} {st : List AV} {S : ST} {Q : Option AV → ST → Prop} (k : o_c L st S (fun L st S => V MX7_has h 29 L st S Q) (nI 0)) : V MX7_has h 28 L st S Q :=
  v_iconst dX7_has_28 (by decide) (fun L st S k => k) k
theorem b_X7_has_29 {h : Nat} {L : LVs} {st : List AV} {S : ST} {Q : Option AV → ST → Prop} (k : t_zr st S Q) : V MX7_has h 29 L st S Q :=
  w_zr dX7_has_29 rfl k
-- QueryForge$Table.valueAt(II)I
theorem dX7_valueAt_0 : decode cX7_valueAt 0 = .ok (.aload_n 0, 1) := by decide +kernel
theorem dX7_valueAt_1 : decode cX7_valueAt 1 = .ok (.iload_n 1, 1) := by decide +kernel
theorem dX7_valueAt_2 : decode cX7_valueAt 2 = .ok (.iload_n 2, 1) := by decide +kernel
theorem dX7_valueAt_3 : decode cX7_valueAt 3 = .ok (.invokevirtual 44, 3) := by decide +kernel
theorem dX7_valueAt_6 : decode cX7_valueAt 6 = .ok (.ifCond .eq 16, 3) := by decide +kernel
theorem dX7_valueAt_9 : decode cX7_valueAt 9 = .ok (.aload_n 0, 1) := by decide +kernel
theorem dX7_valueAt_10 : decode cX7_valueAt 10 = .ok (.getfield 18, 3) := by decide +kernel
theorem dX7_valueAt_13 : decode cX7_valueAt 13 = .ok (.iload_n 1, 1) := by decide +kernel
theorem dX7_valueAt_14 : decode cX7_valueAt 14 = .ok (.iconst 4, 1) := by decide +kernel
theorem dX7_valueAt_15 : decode cX7_valueAt 15 = .ok (.imul, 1) := by decide +kernel
theorem dX7_valueAt_16 : decode cX7_valueAt 16 = .ok (.iload_n 2, 1) := by decide +kernel
theorem dX7_valueAt_17 : decode cX7_valueAt 17 = .ok (.iadd, 1) := by decide +kernel
theorem dX7_valueAt_18 : decode cX7_valueAt 18 = .ok (.iaload, 1) := by decide +kernel
theorem dX7_valueAt_19 : decode cX7_valueAt 19 = .ok (.goto 4, 3) := by decide +kernel
theorem dX7_valueAt_22 : decode cX7_valueAt 22 = .ok (.iconst 0, 1) := by decide +kernel
theorem dX7_valueAt_23 : decode cX7_valueAt 23 = .ok (.ireturn, 1) := by decide +kernel
theorem b_X7_valueAt_0 {h : Nat} {L : LVs} {st : List AV} {S : ST} {Q : Option AV → ST → Prop} (k : o_al L st S (fun L st S => o_il L st S (fun L st S => o_il L st S (fun L st S => V MX7_valueAt h 3 L st S Q) 2) 1) 0) : V MX7_valueAt h 0 L st S Q :=
  v_aload_n dX7_valueAt_0 rfl (fun L st S k => v_iload_n dX7_valueAt_1 rfl (fun L st S k => v_iload_n dX7_valueAt_2 rfl (fun L st S k => k) k) k) k
theorem k_X7_valueAt_3 {h : Nat} {L : LVs} {st : List AV} {S : ST} {Q Q' : Option AV → ST → Prop} {j : Nat} {a0 a1 : AV} (hC : Ct MX7_has h [vR 7 j, a0, a1] S Q') (k : ∀ (r : Option AV) (S' : ST), Q' r S' → V MX7_valueAt (h + 1) 6 L (r.toList ++ st) S' Q) (hj : j < NI 7) (hw : wid st ≤ 8) : V MX7_valueAt (h + 1) 3 L (a1 :: a0 :: vR 7 j :: st) S Q :=
  v_callV (M' := MX7_has) (c := 7) (As := [a0, a1]) dX7_valueAt_3 ml_X7_44 im_X7_has se_X7_has in_X7 cd_X7_has rfl LY_7 np_X7_has (by decide) hw hj hC k
theorem b_X7_valueAt_6 {h : Nat} {L : LVs} {st : List AV} {S : ST} {Q : Option AV → ST → Prop} (k : t_1 L st S (fun x => x = nI 0) (fun L st S => V MX7_valueAt h 22 L st S Q) (fun L st S => V MX7_valueAt h 9 L st S Q)) : V MX7_valueAt h 6 L st S Q :=
  w_if_eq dX7_valueAt_6 (by decide) rfl k
theorem b_X7_valueAt_9 {h : Nat} {L : LVs} {st : List AV} {S : ST} {Q : Option AV → ST → Prop} (k : o_al L st S (fun L st S => o_get L st S (fun L st S => o_il L st S (fun L st S => o_c L st S (fun L st S => o_imul L st S (fun L st S => o_il L st S (fun L st S => o_iadd L st S (fun L st S => o_iald L st S (fun L st S => V MX7_valueAt h 23 L st S Q))) 2)) (nI 4)) 1) 7 2 (3, 31, 0)) 0) : V MX7_valueAt h 9 L st S Q :=
  v_aload_n dX7_valueAt_9 rfl (fun L st S k => v_get dX7_valueAt_10 rfl iX7 LY_7 rfl (by decide) rfl fl_X7_18 (fun L st S k => v_iload_n dX7_valueAt_13 rfl (fun L st S k => v_iconst dX7_valueAt_14 (by decide) (fun L st S k => v_imul dX7_valueAt_15 (fun L st S k => v_iload_n dX7_valueAt_16 rfl (fun L st S k => v_iadd dX7_valueAt_17 (fun L st S k => v_iaload dX7_valueAt_18 (fun L st S k => v_goto dX7_valueAt_19 (by decide) k) k) k) k) k) k) k) k) k
theorem b_X7_valueAt_22 {h : Nat} {L : LVs} {st : List AV} {S : ST} {Q : Option AV → ST → Prop} (k : o_c L st S (fun L st S => V MX7_valueAt h 23 L st S Q) (nI 0)) : V MX7_valueAt h 22 L st S Q :=
  v_iconst dX7_valueAt_22 (by decide) (fun L st S k => k) k
theorem b_X7_valueAt_23 {h : Nat} {L : LVs} {st : List AV} {S : ST} {Q : Option AV → ST → Prop} (k : t_ir st S Q) : V MX7_valueAt h 23 L st S Q :=
  w_ir dX7_valueAt_23 rfl k
-- QueryForge$Table.missingAt(II)Z
theorem dX7_missingAt_0 : decode cX7_missingAt 0 = .ok (.aload_n 0, 1) := by decide +kernel
theorem dX7_missingAt_1 : decode cX7_missingAt 1 = .ok (.iload_n 1, 1) := by decide +kernel
theorem dX7_missingAt_2 : decode cX7_missingAt 2 = .ok (.iload_n 2, 1) := by decide +kernel
theorem dX7_missingAt_3 : decode cX7_missingAt 3 = .ok (.invokevirtual 44, 3) := by decide +kernel
theorem dX7_missingAt_6 : decode cX7_missingAt 6 = .ok (.ifCond .eq 16, 3) := by decide +kernel
theorem dX7_missingAt_9 : decode cX7_missingAt 9 = .ok (.aload_n 0, 1) := by decide +kernel
theorem dX7_missingAt_10 : decode cX7_missingAt 10 = .ok (.getfield 21, 3) := by decide +kernel
theorem dX7_missingAt_13 : decode cX7_missingAt 13 = .ok (.iload_n 1, 1) := by decide +kernel
theorem dX7_missingAt_14 : decode cX7_missingAt 14 = .ok (.iconst 4, 1) := by decide +kernel
theorem dX7_missingAt_15 : decode cX7_missingAt 15 = .ok (.imul, 1) := by decide +kernel
theorem dX7_missingAt_16 : decode cX7_missingAt 16 = .ok (.iload_n 2, 1) := by decide +kernel
theorem dX7_missingAt_17 : decode cX7_missingAt 17 = .ok (.iadd, 1) := by decide +kernel
theorem dX7_missingAt_18 : decode cX7_missingAt 18 = .ok (.baload, 1) := by decide +kernel
theorem dX7_missingAt_19 : decode cX7_missingAt 19 = .ok (.ifCond .eq 7, 3) := by decide +kernel
theorem dX7_missingAt_22 : decode cX7_missingAt 22 = .ok (.iconst 1, 1) := by decide +kernel
theorem dX7_missingAt_23 : decode cX7_missingAt 23 = .ok (.goto 4, 3) := by decide +kernel
theorem dX7_missingAt_26 : decode cX7_missingAt 26 = .ok (.iconst 0, 1) := by decide +kernel
theorem dX7_missingAt_27 : decode cX7_missingAt 27 = .ok (.ireturn, 1) := by decide +kernel
theorem b_X7_missingAt_0 {h : Nat} {L : LVs} {st : List AV} {S : ST} {Q : Option AV → ST → Prop} (k : o_al L st S (fun L st S => o_il L st S (fun L st S => o_il L st S (fun L st S => V MX7_missingAt h 3 L st S Q) 2) 1) 0) : V MX7_missingAt h 0 L st S Q :=
  v_aload_n dX7_missingAt_0 rfl (fun L st S k => v_iload_n dX7_missingAt_1 rfl (fun L st S k => v_iload_n dX7_missingAt_2 rfl (fun L st S k => k) k) k) k
theorem k_X7_missingAt_3 {h : Nat} {L : LVs} {st : List AV} {S : ST} {Q Q' : Option AV → ST → Prop} {j : Nat} {a0 a1 : AV} (hC : Ct MX7_has h [vR 7 j, a0, a1] S Q') (k : ∀ (r : Option AV) (S' : ST), Q' r S' → V MX7_missingAt (h + 1) 6 L (r.toList ++ st) S' Q) (hj : j < NI 7) (hw : wid st ≤ 8) : V MX7_missingAt (h + 1) 3 L (a1 :: a0 :: vR 7 j :: st) S Q :=
  v_callV (M' := MX7_has) (c := 7) (As := [a0, a1]) dX7_missingAt_3 ml_X7_44 im_X7_has se_X7_has in_X7 cd_X7_has rfl LY_7 np_X7_has (by decide) hw hj hC k
theorem b_X7_missingAt_6 {h : Nat} {L : LVs} {st : List AV} {S : ST} {Q : Option AV → ST → Prop} (k : t_1 L st S (fun x => x = nI 0) (fun L st S => V MX7_missingAt h 22 L st S Q) (fun L st S => V MX7_missingAt h 9 L st S Q)) : V MX7_missingAt h 6 L st S Q :=
  w_if_eq dX7_missingAt_6 (by decide) rfl k
theorem b_X7_missingAt_9 {h : Nat} {L : LVs} {st : List AV} {S : ST} {Q : Option AV → ST → Prop} (k : o_al L st S (fun L st S => o_get L st S (fun L st S => o_il L st S (fun L st S => o_c L st S (fun L st S => o_imul L st S (fun L st S => o_il L st S (fun L st S => o_iadd L st S (fun L st S => o_zald L st S (fun L st S => t_1 L st S (fun x => x = nI 0) (fun L st S => V MX7_missingAt h 26 L st S Q) (fun L st S => V MX7_missingAt h 22 L st S Q)))) 2)) (nI 4)) 1) 7 3 (3, 32, 0)) 0) : V MX7_missingAt h 9 L st S Q :=
  v_aload_n dX7_missingAt_9 rfl (fun L st S k => v_get dX7_missingAt_10 rfl iX7 LY_7 rfl (by decide) rfl fl_X7_21 (fun L st S k => v_iload_n dX7_missingAt_13 rfl (fun L st S k => v_iconst dX7_missingAt_14 (by decide) (fun L st S k => v_imul dX7_missingAt_15 (fun L st S k => v_iload_n dX7_missingAt_16 rfl (fun L st S k => v_iadd dX7_missingAt_17 (fun L st S k => v_zaload dX7_missingAt_18 (fun L st S k => w_if_eq dX7_missingAt_19 (by decide) rfl k) k) k) k) k) k) k) k) k
theorem b_X7_missingAt_22 {h : Nat} {L : LVs} {st : List AV} {S : ST} {Q : Option AV → ST → Prop} (k : o_c L st S (fun L st S => V MX7_missingAt h 27 L st S Q) (nI 1)) : V MX7_missingAt h 22 L st S Q :=
  v_iconst dX7_missingAt_22 (by decide) (fun L st S k => v_goto dX7_missingAt_23 (by decide) k) k
theorem b_X7_missingAt_26 {h : Nat} {L : LVs} {st : List AV} {S : ST} {Q : Option AV → ST → Prop} (k : o_c L st S (fun L st S => V MX7_missingAt h 27 L st S Q) (nI 0)) : V MX7_missingAt h 26 L st S Q :=
  v_iconst dX7_missingAt_26 (by decide) (fun L st S k => k) k
theorem b_X7_missingAt_27 {h : Nat} {L : LVs} {st : List AV} {S : ST} {Q : Option AV → ST → Prop} (k : t_zr st S Q) : V MX7_missingAt h 27 L st S Q :=
  w_zr dX7_missingAt_27 rfl k
-- QueryForge$Table.typeOf(I)I
theorem dX7_typeOf_0 : decode cX7_typeOf 0 = .ok (.iload_n 1, 1) := by decide +kernel
theorem dX7_typeOf_1 : decode cX7_typeOf 1 = .ok (.ifCond .lt 20, 3) := by decide +kernel
theorem dX7_typeOf_4 : decode cX7_typeOf 4 = .ok (.iload_n 1, 1) := by decide +kernel
theorem dX7_typeOf_5 : decode cX7_typeOf 5 = .ok (.aload_n 0, 1) := by decide +kernel
theorem dX7_typeOf_6 : decode cX7_typeOf 6 = .ok (.getfield 38, 3) := by decide +kernel
theorem dX7_typeOf_9 : decode cX7_typeOf 9 = .ok (.if_icmp .ge 12, 3) := by decide +kernel
theorem dX7_typeOf_12 : decode cX7_typeOf 12 = .ok (.aload_n 0, 1) := by decide +kernel
theorem dX7_typeOf_13 : decode cX7_typeOf 13 = .ok (.getfield 15, 3) := by decide +kernel
theorem dX7_typeOf_16 : decode cX7_typeOf 16 = .ok (.iload_n 1, 1) := by decide +kernel
theorem dX7_typeOf_17 : decode cX7_typeOf 17 = .ok (.iaload, 1) := by decide +kernel
theorem dX7_typeOf_18 : decode cX7_typeOf 18 = .ok (.goto 4, 3) := by decide +kernel
theorem dX7_typeOf_21 : decode cX7_typeOf 21 = .ok (.iconst 0, 1) := by decide +kernel
theorem dX7_typeOf_22 : decode cX7_typeOf 22 = .ok (.ireturn, 1) := by decide +kernel
theorem b_X7_typeOf_0 {h : Nat} {L : LVs} {st : List AV} {S : ST} {Q : Option AV → ST → Prop} (k : o_il L st S (fun L st S => t_1 L st S (fun x => x < nI 0) (fun L st S => V MX7_typeOf h 21 L st S Q) (fun L st S => V MX7_typeOf h 4 L st S Q)) 1) : V MX7_typeOf h 0 L st S Q :=
  v_iload_n dX7_typeOf_0 rfl (fun L st S k => w_if_lt dX7_typeOf_1 (by decide) rfl k) k
theorem b_X7_typeOf_4 {h : Nat} {L : LVs} {st : List AV} {S : ST} {Q : Option AV → ST → Prop} (k : o_il L st S (fun L st S => o_al L st S (fun L st S => o_get L st S (fun L st S => t_2 L st S (fun x y => y ≤ x) (fun L st S => V MX7_typeOf h 21 L st S Q) (fun L st S => V MX7_typeOf h 12 L st S Q)) 7 8 (0, 0, 0)) 0) 1) : V MX7_typeOf h 4 L st S Q :=
  v_iload_n dX7_typeOf_4 rfl (fun L st S k => v_aload_n dX7_typeOf_5 rfl (fun L st S k => v_get dX7_typeOf_6 rfl iX7 LY_7 rfl (by decide) rfl fl_X7_38 (fun L st S k => w_icmp_ge dX7_typeOf_9 (by decide) rfl k) k) k) k
theorem b_X7_typeOf_12 {h : Nat} {L : LVs} {st : List AV} {S : ST} {Q : Option AV → ST → Prop} (k : o_al L st S (fun L st S => o_get L st S (fun L st S => o_il L st S (fun L st S => o_iald L st S (fun L st S => V MX7_typeOf h 22 L st S Q)) 1) 7 1 (3, 30, 0)) 0) : V MX7_typeOf h 12 L st S Q :=
  v_aload_n dX7_typeOf_12 rfl (fun L st S k => v_get dX7_typeOf_13 rfl iX7 LY_7 rfl (by decide) rfl fl_X7_15 (fun L st S k => v_iload_n dX7_typeOf_16 rfl (fun L st S k => v_iaload dX7_typeOf_17 (fun L st S k => v_goto dX7_typeOf_18 (by decide) k) k) k) k) k
theorem b_X7_typeOf_21 {h : Nat} {L : LVs} {st : List AV} {S : ST} {Q : Option AV → ST → Prop} (k : o_c L st S (fun L st S => V MX7_typeOf h 22 L st S Q) (nI 0)) : V MX7_typeOf h 21 L st S Q :=
  v_iconst dX7_typeOf_21 (by decide) (fun L st S k => k) k
theorem b_X7_typeOf_22 {h : Nat} {L : LVs} {st : List AV} {S : ST} {Q : Option AV → ST → Prop} (k : t_ir st S Q) : V MX7_typeOf h 22 L st S Q :=
  w_ir dX7_typeOf_22 rfl k
-- QueryForge$Table.findColumn(I)I
theorem dX7_findColumn_0 : decode cX7_findColumn 0 = .ok (.iconst 0, 1) := by decide +kernel
theorem dX7_findColumn_1 : decode cX7_findColumn 1 = .ok (.istore_n 2, 1) := by decide +kernel
theorem dX7_findColumn_2 : decode cX7_findColumn 2 = .ok (.iload_n 2, 1) := by decide +kernel
theorem dX7_findColumn_3 : decode cX7_findColumn 3 = .ok (.aload_n 0, 1) := by decide +kernel
theorem dX7_findColumn_4 : decode cX7_findColumn 4 = .ok (.getfield 38, 3) := by decide +kernel
theorem dX7_findColumn_7 : decode cX7_findColumn 7 = .ok (.if_icmp .ge 21, 3) := by decide +kernel
theorem dX7_findColumn_10 : decode cX7_findColumn 10 = .ok (.aload_n 0, 1) := by decide +kernel
theorem dX7_findColumn_11 : decode cX7_findColumn 11 = .ok (.getfield 9, 3) := by decide +kernel
theorem dX7_findColumn_14 : decode cX7_findColumn 14 = .ok (.iload_n 2, 1) := by decide +kernel
theorem dX7_findColumn_15 : decode cX7_findColumn 15 = .ok (.iaload, 1) := by decide +kernel
theorem dX7_findColumn_16 : decode cX7_findColumn 16 = .ok (.iload_n 1, 1) := by decide +kernel
theorem dX7_findColumn_17 : decode cX7_findColumn 17 = .ok (.if_icmp .ne 5, 3) := by decide +kernel
theorem dX7_findColumn_20 : decode cX7_findColumn 20 = .ok (.iload_n 2, 1) := by decide +kernel
theorem dX7_findColumn_21 : decode cX7_findColumn 21 = .ok (.ireturn, 1) := by decide +kernel
theorem dX7_findColumn_22 : decode cX7_findColumn 22 = .ok (.iinc 2 1, 3) := by decide +kernel
theorem dX7_findColumn_25 : decode cX7_findColumn 25 = .ok (.goto (-23), 3) := by decide +kernel
theorem dX7_findColumn_28 : decode cX7_findColumn 28 = .ok (.iconst (-1), 1) := by decide +kernel
theorem dX7_findColumn_29 : decode cX7_findColumn 29 = .ok (.ireturn, 1) := by decide +kernel
theorem b_X7_findColumn_0 {h : Nat} {L : LVs} {st : List AV} {S : ST} {Q : Option AV → ST → Prop} (k : o_c L st S (fun L st S => o_is L st S (fun L st S => V MX7_findColumn h 2 L st S Q) 2) (nI 0)) : V MX7_findColumn h 0 L st S Q :=
  v_iconst dX7_findColumn_0 (by decide) (fun L st S k => v_istore_n dX7_findColumn_1 rfl (by decide) (fun L st S k => k) k) k
theorem b_X7_findColumn_2 {h : Nat} {L : LVs} {st : List AV} {S : ST} {Q : Option AV → ST → Prop} (k : o_il L st S (fun L st S => o_al L st S (fun L st S => o_get L st S (fun L st S => t_2 L st S (fun x y => y ≤ x) (fun L st S => V MX7_findColumn h 28 L st S Q) (fun L st S => V MX7_findColumn h 10 L st S Q)) 7 8 (0, 0, 0)) 0) 2) : V MX7_findColumn h 2 L st S Q :=
  v_iload_n dX7_findColumn_2 rfl (fun L st S k => v_aload_n dX7_findColumn_3 rfl (fun L st S k => v_get dX7_findColumn_4 rfl iX7 LY_7 rfl (by decide) rfl fl_X7_38 (fun L st S k => w_icmp_ge dX7_findColumn_7 (by decide) rfl k) k) k) k
theorem b_X7_findColumn_10 {h : Nat} {L : LVs} {st : List AV} {S : ST} {Q : Option AV → ST → Prop} (k : o_al L st S (fun L st S => o_get L st S (fun L st S => o_il L st S (fun L st S => o_iald L st S (fun L st S => o_il L st S (fun L st S => t_2 L st S (fun x y => x = y) (fun L st S => V MX7_findColumn h 20 L st S Q) (fun L st S => V MX7_findColumn h 22 L st S Q)) 1)) 2) 7 0 (3, 29, 0)) 0) : V MX7_findColumn h 10 L st S Q :=
  v_aload_n dX7_findColumn_10 rfl (fun L st S k => v_get dX7_findColumn_11 rfl iX7 LY_7 rfl (by decide) rfl fl_X7_9 (fun L st S k => v_iload_n dX7_findColumn_14 rfl (fun L st S k => v_iaload dX7_findColumn_15 (fun L st S k => v_iload_n dX7_findColumn_16 rfl (fun L st S k => w_icmp_ne dX7_findColumn_17 (by decide) rfl k) k) k) k) k) k
theorem b_X7_findColumn_20 {h : Nat} {L : LVs} {st : List AV} {S : ST} {Q : Option AV → ST → Prop} (k : o_il L st S (fun L st S => t_ir st S Q) 2) : V MX7_findColumn h 20 L st S Q :=
  v_iload_n dX7_findColumn_20 rfl (fun L st S k => w_ir dX7_findColumn_21 rfl k) k
theorem b_X7_findColumn_22 {h : Nat} {L : LVs} {st : List AV} {S : ST} {Q : Option AV → ST → Prop} (k : o_inc L st S (fun L st S => V MX7_findColumn h 2 L st S Q) 2 (nI 1)) : V MX7_findColumn h 22 L st S Q :=
  v_iinc dX7_findColumn_22 (by decide) (by decide) (fun L st S k => v_goto dX7_findColumn_25 (by decide) k) k
theorem b_X7_findColumn_28 {h : Nat} {L : LVs} {st : List AV} {S : ST} {Q : Option AV → ST → Prop} (k : o_c L st S (fun L st S => t_ir st S Q) (-1)) : V MX7_findColumn h 28 L st S Q :=
  v_iconst dX7_findColumn_28 (by decide) (fun L st S k => w_ir dX7_findColumn_29 rfl k) k
-- QueryForge$Table.addColumn(II)V
theorem dX7_addColumn_0 : decode cX7_addColumn 0 = .ok (.aload_n 0, 1) := by decide +kernel
theorem dX7_addColumn_1 : decode cX7_addColumn 1 = .ok (.getfield 38, 3) := by decide +kernel
theorem dX7_addColumn_4 : decode cX7_addColumn 4 = .ok (.iconst 4, 1) := by decide +kernel
theorem dX7_addColumn_5 : decode cX7_addColumn 5 = .ok (.if_icmp .ge 33, 3) := by decide +kernel
theorem dX7_addColumn_8 : decode cX7_addColumn 8 = .ok (.aload_n 0, 1) := by decide +kernel
theorem dX7_addColumn_9 : decode cX7_addColumn 9 = .ok (.getfield 9, 3) := by decide +kernel
theorem dX7_addColumn_12 : decode cX7_addColumn 12 = .ok (.aload_n 0, 1) := by decide +kernel
theorem dX7_addColumn_13 : decode cX7_addColumn 13 = .ok (.getfield 38, 3) := by decide +kernel
theorem dX7_addColumn_16 : decode cX7_addColumn 16 = .ok (.iload_n 1, 1) := by decide +kernel
theorem dX7_addColumn_17 : decode cX7_addColumn 17 = .ok (.iastore, 1) := by decide +kernel
theorem dX7_addColumn_18 : decode cX7_addColumn 18 = .ok (.aload_n 0, 1) := by decide +kernel
theorem dX7_addColumn_19 : decode cX7_addColumn 19 = .ok (.getfield 15, 3) := by decide +kernel
theorem dX7_addColumn_22 : decode cX7_addColumn 22 = .ok (.aload_n 0, 1) := by decide +kernel
theorem dX7_addColumn_23 : decode cX7_addColumn 23 = .ok (.getfield 38, 3) := by decide +kernel
theorem dX7_addColumn_26 : decode cX7_addColumn 26 = .ok (.iload_n 2, 1) := by decide +kernel
theorem dX7_addColumn_27 : decode cX7_addColumn 27 = .ok (.iastore, 1) := by decide +kernel
theorem dX7_addColumn_28 : decode cX7_addColumn 28 = .ok (.aload_n 0, 1) := by decide +kernel
theorem dX7_addColumn_29 : decode cX7_addColumn 29 = .ok (.dup, 1) := by decide +kernel
theorem dX7_addColumn_30 : decode cX7_addColumn 30 = .ok (.getfield 38, 3) := by decide +kernel
theorem dX7_addColumn_33 : decode cX7_addColumn 33 = .ok (.iconst 1, 1) := by decide +kernel
theorem dX7_addColumn_34 : decode cX7_addColumn 34 = .ok (.iadd, 1) := by decide +kernel
theorem dX7_addColumn_35 : decode cX7_addColumn 35 = .ok (.putfield 38, 3) := by decide +kernel
theorem dX7_addColumn_38 : decode cX7_addColumn 38 = .ok (.return_, 1) := by decide +kernel
theorem b_X7_addColumn_0 {h : Nat} {L : LVs} {st : List AV} {S : ST} {Q : Option AV → ST → Prop} (k : o_al L st S (fun L st S => o_get L st S (fun L st S => o_c L st S (fun L st S => t_2 L st S (fun x y => y ≤ x) (fun L st S => V MX7_addColumn h 38 L st S Q) (fun L st S => V MX7_addColumn h 8 L st S Q)) (nI 4)) 7 8 (0, 0, 0)) 0) : V MX7_addColumn h 0 L st S Q :=
  v_aload_n dX7_addColumn_0 rfl (fun L st S k => v_get dX7_addColumn_1 rfl iX7 LY_7 rfl (by decide) rfl fl_X7_38 (fun L st S k => v_iconst dX7_addColumn_4 (by decide) (fun L st S k => w_icmp_ge dX7_addColumn_5 (by decide) rfl k) k) k) k
theorem b_X7_addColumn_8 {h : Nat} {L : LVs} {st : List AV} {S : ST} {Q : Option AV → ST → Prop} (k : o_al L st S (fun L st S => o_get L st S (fun L st S => o_al L st S (fun L st S => o_get L st S (fun L st S => o_il L st S (fun L st S => o_iast L st S (fun L st S => o_al L st S (fun L st S => o_get L st S (fun L st S => o_al L st S (fun L st S => o_get L st S (fun L st S => o_il L st S (fun L st S => o_iast L st S (fun L st S => o_al L st S (fun L st S => o_dup L st S (fun L st S => o_get L st S (fun L st S => o_c L st S (fun L st S => o_iadd L st S (fun L st S => o_puti L st S (fun L st S => V MX7_addColumn h 38 L st S Q) 7 8)) (nI 1)) 7 8 (0, 0, 0))) 0)) 2) 7 8 (0, 0, 0)) 0) 7 1 (3, 30, 0)) 0)) 1) 7 8 (0, 0, 0)) 0) 7 0 (3, 29, 0)) 0) : V MX7_addColumn h 8 L st S Q :=
  v_aload_n dX7_addColumn_8 rfl (fun L st S k => v_get dX7_addColumn_9 rfl iX7 LY_7 rfl (by decide) rfl fl_X7_9 (fun L st S k => v_aload_n dX7_addColumn_12 rfl (fun L st S k => v_get dX7_addColumn_13 rfl iX7 LY_7 rfl (by decide) rfl fl_X7_38 (fun L st S k => v_iload_n dX7_addColumn_16 rfl (fun L st S k => v_iastore dX7_addColumn_17 (fun L st S k => v_aload_n dX7_addColumn_18 rfl (fun L st S k => v_get dX7_addColumn_19 rfl iX7 LY_7 rfl (by decide) rfl fl_X7_15 (fun L st S k => v_aload_n dX7_addColumn_22 rfl (fun L st S k => v_get dX7_addColumn_23 rfl iX7 LY_7 rfl (by decide) rfl fl_X7_38 (fun L st S k => v_iload_n dX7_addColumn_26 rfl (fun L st S k => v_iastore dX7_addColumn_27 (fun L st S k => v_aload_n dX7_addColumn_28 rfl (fun L st S k => v_dup dX7_addColumn_29 (fun L st S k => v_get dX7_addColumn_30 rfl iX7 LY_7 rfl (by decide) rfl fl_X7_38 (fun L st S k => v_iconst dX7_addColumn_33 (by decide) (fun L st S k => v_iadd dX7_addColumn_34 (fun L st S k => v_puti dX7_addColumn_35 rfl iX7 tyX7_ok nmX7 LY_7 rfl (by decide) rfl fl_X7_38 rfl rfl (fun L st S k => k) k) k) k) k) k) k) k) k) k) k) k) k) k) k) k) k) k) k
theorem b_X7_addColumn_38 {h : Nat} {L : LVs} {st : List AV} {S : ST} {Q : Option AV → ST → Prop} (k : t_vr st S Q) : V MX7_addColumn h 38 L st S Q :=
  w_vr dX7_addColumn_38 rfl k
-- QueryForge$Table.putNext(IIZ)V
theorem dX7_putNext_0 : decode cX7_putNext 0 = .ok (.aload_n 0, 1) := by decide +kernel
theorem dX7_putNext_1 : decode cX7_putNext 1 = .ok (.getfield 41, 3) := by decide +kernel
theorem dX7_putNext_4 : decode cX7_putNext 4 = .ok (.bipush 24, 2) := by decide +kernel
theorem dX7_putNext_6 : decode cX7_putNext 6 = .ok (.if_icmp .ge 26, 3) := by decide +kernel
theorem dX7_putNext_9 : decode cX7_putNext 9 = .ok (.iload_n 1, 1) := by decide +kernel
theorem dX7_putNext_10 : decode cX7_putNext 10 = .ok (.ifCond .lt 22, 3) := by decide +kernel
theorem dX7_putNext_13 : decode cX7_putNext 13 = .ok (.iload_n 1, 1) := by decide +kernel
theorem dX7_putNext_14 : decode cX7_putNext 14 = .ok (.aload_n 0, 1) := by decide +kernel
theorem dX7_putNext_15 : decode cX7_putNext 15 = .ok (.getfield 38, 3) := by decide +kernel
theorem dX7_putNext_18 : decode cX7_putNext 18 = .ok (.if_icmp .ge 14, 3) := by decide +kernel
theorem dX7_putNext_21 : decode cX7_putNext 21 = .ok (.aload_n 0, 1) := by decide +kernel
theorem dX7_putNext_22 : decode cX7_putNext 22 = .ok (.aload_n 0, 1) := by decide +kernel
theorem dX7_putNext_23 : decode cX7_putNext 23 = .ok (.getfield 41, 3) := by decide +kernel
theorem dX7_putNext_26 : decode cX7_putNext 26 = .ok (.iload_n 1, 1) := by decide +kernel
theorem dX7_putNext_27 : decode cX7_putNext 27 = .ok (.iload_n 2, 1) := by decide +kernel
theorem dX7_putNext_28 : decode cX7_putNext 28 = .ok (.iload_n 3, 1) := by decide +kernel
theorem dX7_putNext_29 : decode cX7_putNext 29 = .ok (.invokevirtual 48, 3) := by decide +kernel
theorem dX7_putNext_32 : decode cX7_putNext 32 = .ok (.return_, 1) := by decide +kernel
theorem b_X7_putNext_0 {h : Nat} {L : LVs} {st : List AV} {S : ST} {Q : Option AV → ST → Prop} (k : o_al L st S (fun L st S => o_get L st S (fun L st S => o_c L st S (fun L st S => t_2 L st S (fun x y => y ≤ x) (fun L st S => V MX7_putNext h 32 L st S Q) (fun L st S => V MX7_putNext h 9 L st S Q)) (nI 24)) 7 9 (0, 0, 0)) 0) : V MX7_putNext h 0 L st S Q :=
  v_aload_n dX7_putNext_0 rfl (fun L st S k => v_get dX7_putNext_1 rfl iX7 LY_7 rfl (by decide) rfl fl_X7_41 (fun L st S k => v_bipush dX7_putNext_4 (by decide) (fun L st S k => w_icmp_ge dX7_putNext_6 (by decide) rfl k) k) k) k
theorem b_X7_putNext_9 {h : Nat} {L : LVs} {st : List AV} {S : ST} {Q : Option AV → ST → Prop} (k : o_il L st S (fun L st S => t_1 L st S (fun x => x < nI 0) (fun L st S => V MX7_putNext h 32 L st S Q) (fun L st S => V MX7_putNext h 13 L st S Q)) 1) : V MX7_putNext h 9 L st S Q :=
  v_iload_n dX7_putNext_9 rfl (fun L st S k => w_if_lt dX7_putNext_10 (by decide) rfl k) k
theorem b_X7_putNext_13 {h : Nat} {L : LVs} {st : List AV} {S : ST} {Q : Option AV → ST → Prop} (k : o_il L st S (fun L st S => o_al L st S (fun L st S => o_get L st S (fun L st S => t_2 L st S (fun x y => y ≤ x) (fun L st S => V MX7_putNext h 32 L st S Q) (fun L st S => V MX7_putNext h 21 L st S Q)) 7 8 (0, 0, 0)) 0) 1) : V MX7_putNext h 13 L st S Q :=
  v_iload_n dX7_putNext_13 rfl (fun L st S k => v_aload_n dX7_putNext_14 rfl (fun L st S k => v_get dX7_putNext_15 rfl iX7 LY_7 rfl (by decide) rfl fl_X7_38 (fun L st S k => w_icmp_ge dX7_putNext_18 (by decide) rfl k) k) k) k
theorem b_X7_putNext_21 {h : Nat} {L : LVs} {st : List AV} {S : ST} {Q : Option AV → ST → Prop} (k : o_al L st S (fun L st S => o_al L st S (fun L st S => o_get L st S (fun L st S => o_il L st S (fun L st S => o_il L st S (fun L st S => o_il L st S (fun L st S => V MX7_putNext h 29 L st S Q) 3) 2) 1) 7 9 (0, 0, 0)) 0) 0) : V MX7_putNext h 21 L st S Q :=
  v_aload_n dX7_putNext_21 rfl (fun L st S k => v_aload_n dX7_putNext_22 rfl (fun L st S k => v_get dX7_putNext_23 rfl iX7 LY_7 rfl (by decide) rfl fl_X7_41 (fun L st S k => v_iload_n dX7_putNext_26 rfl (fun L st S k => v_iload_n dX7_putNext_27 rfl (fun L st S k => v_iload_n dX7_putNext_28 rfl (fun L st S k => k) k) k) k) k) k) k
theorem k_X7_putNext_29 {h : Nat} {L : LVs} {st : List AV} {S : ST} {Q Q' : Option AV → ST → Prop} {j : Nat} {a0 a1 a2 a3 : AV} (hC : Ct MX7_put h [vR 7 j, a0, a1, a2, a3] S Q') (k : ∀ (r : Option AV) (S' : ST), Q' r S' → V MX7_putNext (h + 1) 32 L (r.toList ++ st) S' Q) (hj : j < NI 7) (hw : wid st ≤ 8) : V MX7_putNext (h + 1) 29 L (a3 :: a2 :: a1 :: a0 :: vR 7 j :: st) S Q :=
  v_callV (M' := MX7_put) (c := 7) (As := [a0, a1, a2, a3]) dX7_putNext_29 ml_X7_48 im_X7_put se_X7_put in_X7 cd_X7_put rfl LY_7 np_X7_put (by decide) hw hj hC k
theorem b_X7_putNext_32 {h : Nat} {L : LVs} {st : List AV} {S : ST} {Q : Option AV → ST → Prop} (k : t_vr st S Q) : V MX7_putNext h 32 L st S Q :=
  w_vr dX7_putNext_32 rfl k
-- QueryForge$Table.append()V
theorem dX7_append_0 : decode cX7_append 0 = .ok (.aload_n 0, 1) := by decide +kernel
theorem dX7_append_1 : decode cX7_append 1 = .ok (.getfield 41, 3) := by decide +kernel
theorem dX7_append_4 : decode cX7_append 4 = .ok (.bipush 24, 2) := by decide +kernel
theorem dX7_append_6 : decode cX7_append 6 = .ok (.if_icmp .ge 13, 3) := by decide +kernel
theorem dX7_append_9 : decode cX7_append 9 = .ok (.aload_n 0, 1) := by decide +kernel
theorem dX7_append_10 : decode cX7_append 10 = .ok (.dup, 1) := by decide +kernel
theorem dX7_append_11 : decode cX7_append 11 = .ok (.getfield 41, 3) := by decide +kernel
theorem dX7_append_14 : decode cX7_append 14 = .ok (.iconst 1, 1) := by decide +kernel
theorem dX7_append_15 : decode cX7_append 15 = .ok (.iadd, 1) := by decide +kernel
theorem dX7_append_16 : decode cX7_append 16 = .ok (.putfield 41, 3) := by decide +kernel
theorem dX7_append_19 : decode cX7_append 19 = .ok (.return_, 1) := by decide +kernel
theorem b_X7_append_0 {h : Nat} {L : LVs} {st : List AV} {S : ST} {Q : Option AV → ST → Prop} (k : o_al L st S (fun L st S => o_get L st S (fun L st S => o_c L st S (fun L st S => t_2 L st S (fun x y => y ≤ x) (fun L st S => V MX7_append h 19 L st S Q) (fun L st S => V MX7_append h 9 L st S Q)) (nI 24)) 7 9 (0, 0, 0)) 0) : V MX7_append h 0 L st S Q :=
  v_aload_n dX7_append_0 rfl (fun L st S k => v_get dX7_append_1 rfl iX7 LY_7 rfl (by decide) rfl fl_X7_41 (fun L st S k => v_bipush dX7_append_4 (by decide) (fun L st S k => w_icmp_ge dX7_append_6 (by decide) rfl k) k) k) k
theorem b_X7_append_9 {h : Nat} {L : LVs} {st : List AV} {S : ST} {Q : Option AV → ST → Prop} (k : o_al L st S (fun L st S => o_dup L st S (fun L st S => o_get L st S (fun L st S => o_c L st S (fun L st S => o_iadd L st S (fun L st S => o_puti L st S (fun L st S => V MX7_append h 19 L st S Q) 7 9)) (nI 1)) 7 9 (0, 0, 0))) 0) : V MX7_append h 9 L st S Q :=
  v_aload_n dX7_append_9 rfl (fun L st S k => v_dup dX7_append_10 (fun L st S k => v_get dX7_append_11 rfl iX7 LY_7 rfl (by decide) rfl fl_X7_41 (fun L st S k => v_iconst dX7_append_14 (by decide) (fun L st S k => v_iadd dX7_append_15 (fun L st S k => v_puti dX7_append_16 rfl iX7 tyX7_ok nmX7 LY_7 rfl (by decide) rfl fl_X7_41 rfl rfl (fun L st S k => k) k) k) k) k) k) k
theorem b_X7_append_19 {h : Nat} {L : LVs} {st : List AV} {S : ST} {Q : Option AV → ST → Prop} (k : t_vr st S Q) : V MX7_append h 19 L st S Q :=
  w_vr dX7_append_19 rfl k
-- QueryForge$Table.unmark()V
theorem dX7_unmark_0 : decode cX7_unmark 0 = .ok (.iconst 0, 1) := by decide +kernel
theorem dX7_unmark_1 : decode cX7_unmark 1 = .ok (.istore_n 1, 1) := by decide +kernel
theorem dX7_unmark_2 : decode cX7_unmark 2 = .ok (.iload_n 1, 1) := by decide +kernel
theorem dX7_unmark_3 : decode cX7_unmark 3 = .ok (.bipush 24, 2) := by decide +kernel
theorem dX7_unmark_5 : decode cX7_unmark 5 = .ok (.if_icmp .ge 16, 3) := by decide +kernel
theorem dX7_unmark_8 : decode cX7_unmark 8 = .ok (.aload_n 0, 1) := by decide +kernel
theorem dX7_unmark_9 : decode cX7_unmark 9 = .ok (.getfield 25, 3) := by decide +kernel
theorem dX7_unmark_12 : decode cX7_unmark 12 = .ok (.iload_n 1, 1) := by decide +kernel
theorem dX7_unmark_13 : decode cX7_unmark 13 = .ok (.iconst 0, 1) := by decide +kernel
theorem dX7_unmark_14 : decode cX7_unmark 14 = .ok (.bastore, 1) := by decide +kernel
theorem dX7_unmark_15 : decode cX7_unmark 15 = .ok (.iinc 1 1, 3) := by decide +kernel
theorem dX7_unmark_18 : decode cX7_unmark 18 = .ok (.goto (-16), 3) := by decide +kernel
theorem dX7_unmark_21 : decode cX7_unmark 21 = .ok (.return_, 1) := by decide +kernel
theorem b_X7_unmark_0 {h : Nat} {L : LVs} {st : List AV} {S : ST} {Q : Option AV → ST → Prop} (k : o_c L st S (fun L st S => o_is L st S (fun L st S => V MX7_unmark h 2 L st S Q) 1) (nI 0)) : V MX7_unmark h 0 L st S Q :=
  v_iconst dX7_unmark_0 (by decide) (fun L st S k => v_istore_n dX7_unmark_1 rfl (by decide) (fun L st S k => k) k) k
theorem b_X7_unmark_2 {h : Nat} {L : LVs} {st : List AV} {S : ST} {Q : Option AV → ST → Prop} (k : o_il L st S (fun L st S => o_c L st S (fun L st S => t_2 L st S (fun x y => y ≤ x) (fun L st S => V MX7_unmark h 21 L st S Q) (fun L st S => V MX7_unmark h 8 L st S Q)) (nI 24)) 1) : V MX7_unmark h 2 L st S Q :=
  v_iload_n dX7_unmark_2 rfl (fun L st S k => v_bipush dX7_unmark_3 (by decide) (fun L st S k => w_icmp_ge dX7_unmark_5 (by decide) rfl k) k) k
theorem b_X7_unmark_8 {h : Nat} {L : LVs} {st : List AV} {S : ST} {Q : Option AV → ST → Prop} (k : o_al L st S (fun L st S => o_get L st S (fun L st S => o_il L st S (fun L st S => o_c L st S (fun L st S => o_zast L st S (fun L st S => o_inc L st S (fun L st S => V MX7_unmark h 2 L st S Q) 1 (nI 1))) (nI 0)) 1) 7 4 (3, 33, 0)) 0) : V MX7_unmark h 8 L st S Q :=
  v_aload_n dX7_unmark_8 rfl (fun L st S k => v_get dX7_unmark_9 rfl iX7 LY_7 rfl (by decide) rfl fl_X7_25 (fun L st S k => v_iload_n dX7_unmark_12 rfl (fun L st S k => v_iconst dX7_unmark_13 (by decide) (fun L st S k => v_zastore dX7_unmark_14 (fun L st S k => v_iinc dX7_unmark_15 (by decide) (by decide) (fun L st S k => v_goto dX7_unmark_18 (by decide) k) k) k) k) k) k) k
theorem b_X7_unmark_21 {h : Nat} {L : LVs} {st : List AV} {S : ST} {Q : Option AV → ST → Prop} (k : t_vr st S Q) : V MX7_unmark h 21 L st S Q :=
  w_vr dX7_unmark_21 rfl k
-- QueryForge$Table.mark(IIZ)V
theorem dX7_mark_0 : decode cX7_mark 0 = .ok (.iload_n 1, 1) := by decide +kernel
theorem dX7_mark_1 : decode cX7_mark 1 = .ok (.ifCond .lt 32, 3) := by decide +kernel
theorem dX7_mark_4 : decode cX7_mark 4 = .ok (.iload_n 1, 1) := by decide +kernel
theorem dX7_mark_5 : decode cX7_mark 5 = .ok (.aload_n 0, 1) := by decide +kernel
theorem dX7_mark_6 : decode cX7_mark 6 = .ok (.getfield 41, 3) := by decide +kernel
theorem dX7_mark_9 : decode cX7_mark 9 = .ok (.if_icmp .ge 24, 3) := by decide +kernel
theorem dX7_mark_12 : decode cX7_mark 12 = .ok (.aload_n 0, 1) := by decide +kernel
theorem dX7_mark_13 : decode cX7_mark 13 = .ok (.getfield 25, 3) := by decide +kernel
theorem dX7_mark_16 : decode cX7_mark 16 = .ok (.iload_n 1, 1) := by decide +kernel
theorem dX7_mark_17 : decode cX7_mark 17 = .ok (.iconst 1, 1) := by decide +kernel
theorem dX7_mark_18 : decode cX7_mark 18 = .ok (.bastore, 1) := by decide +kernel
theorem dX7_mark_19 : decode cX7_mark 19 = .ok (.aload_n 0, 1) := by decide +kernel
theorem dX7_mark_20 : decode cX7_mark 20 = .ok (.getfield 28, 3) := by decide +kernel
theorem dX7_mark_23 : decode cX7_mark 23 = .ok (.iload_n 1, 1) := by decide +kernel
theorem dX7_mark_24 : decode cX7_mark 24 = .ok (.iload_n 2, 1) := by decide +kernel
theorem dX7_mark_25 : decode cX7_mark 25 = .ok (.iastore, 1) := by decide +kernel
theorem dX7_mark_26 : decode cX7_mark 26 = .ok (.aload_n 0, 1) := by decide +kernel
theorem dX7_mark_27 : decode cX7_mark 27 = .ok (.getfield 31, 3) := by decide +kernel
theorem dX7_mark_30 : decode cX7_mark 30 = .ok (.iload_n 1, 1) := by decide +kernel
theorem dX7_mark_31 : decode cX7_mark 31 = .ok (.iload_n 3, 1) := by decide +kernel
theorem dX7_mark_32 : decode cX7_mark 32 = .ok (.bastore, 1) := by decide +kernel
theorem dX7_mark_33 : decode cX7_mark 33 = .ok (.return_, 1) := by decide +kernel
theorem b_X7_mark_0 {h : Nat} {L : LVs} {st : List AV} {S : ST} {Q : Option AV → ST → Prop} (k : o_il L st S (fun L st S => t_1 L st S (fun x => x < nI 0) (fun L st S => V MX7_mark h 33 L st S Q) (fun L st S => V MX7_mark h 4 L st S Q)) 1) : V MX7_mark h 0 L st S Q :=
  v_iload_n dX7_mark_0 rfl (fun L st S k => w_if_lt dX7_mark_1 (by decide) rfl k) k
theorem b_X7_mark_4 {h : Nat} {L : LVs} {st : List AV} {S : ST} {Q : Option AV → ST → Prop} (k : o_il L st S (fun L st S => o_al L st S (fun L st S => o_get L st S (fun L st S => t_2 L st S (fun x y => y ≤ x) (fun L st S => V MX7_mark h 33 L st S Q) (fun L st S => V MX7_mark h 12 L st S Q)) 7 9 (0, 0, 0)) 0) 1) : V MX7_mark h 4 L st S Q :=
  v_iload_n dX7_mark_4 rfl (fun L st S k => v_aload_n dX7_mark_5 rfl (fun L st S k => v_get dX7_mark_6 rfl iX7 LY_7 rfl (by decide) rfl fl_X7_41 (fun L st S k => w_icmp_ge dX7_mark_9 (by decide) rfl k) k) k) k
theorem b_X7_mark_12 {h : Nat} {L : LVs} {st : List AV} {S : ST} {Q : Option AV → ST → Prop} (k : o_al L st S (fun L st S => o_get L st S (fun L st S => o_il L st S (fun L st S => o_c L st S (fun L st S => o_zast L st S (fun L st S => o_al L st S (fun L st S => o_get L st S (fun L st S => o_il L st S (fun L st S => o_il L st S (fun L st S => o_iast L st S (fun L st S => o_al L st S (fun L st S => o_get L st S (fun L st S => o_il L st S (fun L st S => o_il L st S (fun L st S => o_zast L st S (fun L st S => V MX7_mark h 33 L st S Q)) 3) 1) 7 6 (3, 35, 0)) 0)) 2) 1) 7 5 (3, 34, 0)) 0)) (nI 1)) 1) 7 4 (3, 33, 0)) 0) : V MX7_mark h 12 L st S Q :=
  v_aload_n dX7_mark_12 rfl (fun L st S k => v_get dX7_mark_13 rfl iX7 LY_7 rfl (by decide) rfl fl_X7_25 (fun L st S k => v_iload_n dX7_mark_16 rfl (fun L st S k => v_iconst dX7_mark_17 (by decide) (fun L st S k => v_zastore dX7_mark_18 (fun L st S k => v_aload_n dX7_mark_19 rfl (fun L st S k => v_get dX7_mark_20 rfl iX7 LY_7 rfl (by decide) rfl fl_X7_28 (fun L st S k => v_iload_n dX7_mark_23 rfl (fun L st S k => v_iload_n dX7_mark_24 rfl (fun L st S k => v_iastore dX7_mark_25 (fun L st S k => v_aload_n dX7_mark_26 rfl (fun L st S k => v_get dX7_mark_27 rfl iX7 LY_7 rfl (by decide) rfl fl_X7_31 (fun L st S k => v_iload_n dX7_mark_30 rfl (fun L st S k => v_iload_n dX7_mark_31 rfl (fun L st S k => v_zastore dX7_mark_32 (fun L st S k => k) k) k) k) k) k) k) k) k) k) k) k) k) k) k) k
theorem b_X7_mark_33 {h : Nat} {L : LVs} {st : List AV} {S : ST} {Q : Option AV → ST → Prop} (k : t_vr st S Q) : V MX7_mark h 33 L st S Q :=
  w_vr dX7_mark_33 rfl k
-- QueryForge$Table.dropMarked()I
theorem dX7_dropMarked_0 : decode cX7_dropMarked 0 = .ok (.iconst 0, 1) := by decide +kernel
theorem dX7_dropMarked_1 : decode cX7_dropMarked 1 = .ok (.istore_n 1, 1) := by decide +kernel
theorem dX7_dropMarked_2 : decode cX7_dropMarked 2 = .ok (.iconst 0, 1) := by decide +kernel
theorem dX7_dropMarked_3 : decode cX7_dropMarked 3 = .ok (.istore_n 2, 1) := by decide +kernel
theorem dX7_dropMarked_4 : decode cX7_dropMarked 4 = .ok (.iload_n 2, 1) := by decide +kernel
theorem dX7_dropMarked_5 : decode cX7_dropMarked 5 = .ok (.aload_n 0, 1) := by decide +kernel
theorem dX7_dropMarked_6 : decode cX7_dropMarked 6 = .ok (.getfield 41, 3) := by decide +kernel
theorem dX7_dropMarked_9 : decode cX7_dropMarked 9 = .ok (.if_icmp .ge 27, 3) := by decide +kernel
theorem dX7_dropMarked_12 : decode cX7_dropMarked 12 = .ok (.aload_n 0, 1) := by decide +kernel
theorem dX7_dropMarked_13 : decode cX7_dropMarked 13 = .ok (.getfield 25, 3) := by decide +kernel
theorem dX7_dropMarked_16 : decode cX7_dropMarked 16 = .ok (.iload_n 2, 1) := by decide +kernel
theorem dX7_dropMarked_17 : decode cX7_dropMarked 17 = .ok (.baload, 1) := by decide +kernel
theorem dX7_dropMarked_18 : decode cX7_dropMarked 18 = .ok (.ifCond .ne 12, 3) := by decide +kernel
theorem dX7_dropMarked_21 : decode cX7_dropMarked 21 = .ok (.aload_n 0, 1) := by decide +kernel
theorem dX7_dropMarked_22 : decode cX7_dropMarked 22 = .ok (.iload_n 2, 1) := by decide +kernel
theorem dX7_dropMarked_23 : decode cX7_dropMarked 23 = .ok (.iload_n 1, 1) := by decide +kernel
theorem dX7_dropMarked_24 : decode cX7_dropMarked 24 = .ok (.invokevirtual 52, 3) := by decide +kernel
theorem dX7_dropMarked_27 : decode cX7_dropMarked 27 = .ok (.iinc 1 1, 3) := by decide +kernel
theorem dX7_dropMarked_30 : decode cX7_dropMarked 30 = .ok (.iinc 2 1, 3) := by decide +kernel
theorem dX7_dropMarked_33 : decode cX7_dropMarked 33 = .ok (.goto (-29), 3) := by decide +kernel
theorem dX7_dropMarked_36 : decode cX7_dropMarked 36 = .ok (.aload_n 0, 1) := by decide +kernel
theorem dX7_dropMarked_37 : decode cX7_dropMarked 37 = .ok (.getfield 41, 3) := by decide +kernel
theorem dX7_dropMarked_40 : decode cX7_dropMarked 40 = .ok (.iload_n 1, 1) := by decide +kernel
theorem dX7_dropMarked_41 : decode cX7_dropMarked 41 = .ok (.isub, 1) := by decide +kernel
theorem dX7_dropMarked_42 : decode cX7_dropMarked 42 = .ok (.istore_n 2, 1) := by decide +kernel
theorem dX7_dropMarked_43 : decode cX7_dropMarked 43 = .ok (.aload_n 0, 1) := by decide +kernel
theorem dX7_dropMarked_44 : decode cX7_dropMarked 44 = .ok (.iload_n 1, 1) := by decide +kernel
theorem dX7_dropMarked_45 : decode cX7_dropMarked 45 = .ok (.putfield 41, 3) := by decide +kernel
theorem dX7_dropMarked_48 : decode cX7_dropMarked 48 = .ok (.iload_n 2, 1) := by decide +kernel
theorem dX7_dropMarked_49 : decode cX7_dropMarked 49 = .ok (.ireturn, 1) := by decide +kernel
theorem b_X7_dropMarked_0 {h : Nat} {L : LVs} {st : List AV} {S : ST} {Q : Option AV → ST → Prop} (k : o_c L st S (fun L st S => o_is L st S (fun L st S => o_c L st S (fun L st S => o_is L st S (fun L st S => V MX7_dropMarked h 4 L st S Q) 2) (nI 0)) 1) (nI 0)) : V MX7_dropMarked h 0 L st S Q :=
  v_iconst dX7_dropMarked_0 (by decide) (fun L st S k => v_istore_n dX7_dropMarked_1 rfl (by decide) (fun L st S k => v_iconst dX7_dropMarked_2 (by decide) (fun L st S k => v_istore_n dX7_dropMarked_3 rfl (by decide) (fun L st S k => k) k) k) k) k
theorem b_X7_dropMarked_4 {h : Nat} {L : LVs} {st : List AV} {S : ST} {Q : Option AV → ST → Prop} (k : o_il L st S (fun L st S => o_al L st S (fun L st S => o_get L st S (fun L st S => t_2 L st S (fun x y => y ≤ x) (fun L st S => V MX7_dropMarked h 36 L st S Q) (fun L st S => V MX7_dropMarked h 12 L st S Q)) 7 9 (0, 0, 0)) 0) 2) : V MX7_dropMarked h 4 L st S Q :=
  v_iload_n dX7_dropMarked_4 rfl (fun L st S k => v_aload_n dX7_dropMarked_5 rfl (fun L st S k => v_get dX7_dropMarked_6 rfl iX7 LY_7 rfl (by decide) rfl fl_X7_41 (fun L st S k => w_icmp_ge dX7_dropMarked_9 (by decide) rfl k) k) k) k
theorem b_X7_dropMarked_12 {h : Nat} {L : LVs} {st : List AV} {S : ST} {Q : Option AV → ST → Prop} (k : o_al L st S (fun L st S => o_get L st S (fun L st S => o_il L st S (fun L st S => o_zald L st S (fun L st S => t_1 L st S (fun x => x = nI 0) (fun L st S => V MX7_dropMarked h 21 L st S Q) (fun L st S => V MX7_dropMarked h 30 L st S Q))) 2) 7 4 (3, 33, 0)) 0) : V MX7_dropMarked h 12 L st S Q :=
  v_aload_n dX7_dropMarked_12 rfl (fun L st S k => v_get dX7_dropMarked_13 rfl iX7 LY_7 rfl (by decide) rfl fl_X7_25 (fun L st S k => v_iload_n dX7_dropMarked_16 rfl (fun L st S k => v_zaload dX7_dropMarked_17 (fun L st S k => w_if_ne dX7_dropMarked_18 (by decide) rfl k) k) k) k) k
theorem b_X7_dropMarked_21 {h : Nat} {L : LVs} {st : List AV} {S : ST} {Q : Option AV → ST → Prop} (k : o_al L st S (fun L st S => o_il L st S (fun L st S => o_il L st S (fun L st S => V MX7_dropMarked h 24 L st S Q) 1) 2) 0) : V MX7_dropMarked h 21 L st S Q :=
  v_aload_n dX7_dropMarked_21 rfl (fun L st S k => v_iload_n dX7_dropMarked_22 rfl (fun L st S k => v_iload_n dX7_dropMarked_23 rfl (fun L st S k => k) k) k) k
theorem k_X7_dropMarked_24 {h : Nat} {L : LVs} {st : List AV} {S : ST} {Q Q' : Option AV → ST → Prop} {j : Nat} {a0 a1 : AV} (hC : Ct MX7_move h [vR 7 j, a0, a1] S Q') (k : ∀ (r : Option AV) (S' : ST), Q' r S' → V MX7_dropMarked (h + 1) 27 L (r.toList ++ st) S' Q) (hj : j < NI 7) (hw : wid st ≤ 8) : V MX7_dropMarked (h + 1) 24 L (a1 :: a0 :: vR 7 j :: st) S Q :=
  v_callV (M' := MX7_move) (c := 7) (As := [a0, a1]) dX7_dropMarked_24 ml_X7_52 im_X7_move se_X7_move in_X7 cd_X7_move rfl LY_7 np_X7_move (by decide) hw hj hC k
theorem b_X7_dropMarked_27 {h : Nat} {L : LVs} {st : List AV} {S : ST} {Q : Option AV → ST → Prop} (k : o_inc L st S (fun L st S => V MX7_dropMarked h 30 L st S Q) 1 (nI 1)) : V MX7_dropMarked h 27 L st S Q :=
  v_iinc dX7_dropMarked_27 (by decide) (by decide) (fun L st S k => k) k
theorem b_X7_dropMarked_30 {h : Nat} {L : LVs} {st : List AV} {S : ST} {Q : Option AV → ST → Prop} (k : o_inc L st S (fun L st S => V MX7_dropMarked h 4 L st S Q) 2 (nI 1)) : V MX7_dropMarked h 30 L st S Q :=
  v_iinc dX7_dropMarked_30 (by decide) (by decide) (fun L st S k => v_goto dX7_dropMarked_33 (by decide) k) k
theorem b_X7_dropMarked_36 {h : Nat} {L : LVs} {st : List AV} {S : ST} {Q : Option AV → ST → Prop} (k : o_al L st S (fun L st S => o_get L st S (fun L st S => o_il L st S (fun L st S => o_isub L st S (fun L st S => o_is L st S (fun L st S => o_al L st S (fun L st S => o_il L st S (fun L st S => o_puti L st S (fun L st S => o_il L st S (fun L st S => t_ir st S Q) 2) 7 9) 1) 0) 2)) 1) 7 9 (0, 0, 0)) 0) : V MX7_dropMarked h 36 L st S Q :=
  v_aload_n dX7_dropMarked_36 rfl (fun L st S k => v_get dX7_dropMarked_37 rfl iX7 LY_7 rfl (by decide) rfl fl_X7_41 (fun L st S k => v_iload_n dX7_dropMarked_40 rfl (fun L st S k => v_isub dX7_dropMarked_41 (fun L st S k => v_istore_n dX7_dropMarked_42 rfl (by decide) (fun L st S k => v_aload_n dX7_dropMarked_43 rfl (fun L st S k => v_iload_n dX7_dropMarked_44 rfl (fun L st S k => v_puti dX7_dropMarked_45 rfl iX7 tyX7_ok nmX7 LY_7 rfl (by decide) rfl fl_X7_41 rfl rfl (fun L st S k => v_iload_n dX7_dropMarked_48 rfl (fun L st S k => w_ir dX7_dropMarked_49 rfl k) k) k) k) k) k) k) k) k) k
-- QueryForge$Table.changeMarked(I)I
theorem dX7_changeMarked_0 : decode cX7_changeMarked 0 = .ok (.iconst 0, 1) := by decide +kernel
theorem dX7_changeMarked_1 : decode cX7_changeMarked 1 = .ok (.istore_n 2, 1) := by decide +kernel
theorem dX7_changeMarked_2 : decode cX7_changeMarked 2 = .ok (.iconst 0, 1) := by decide +kernel
theorem dX7_changeMarked_3 : decode cX7_changeMarked 3 = .ok (.istore_n 3, 1) := by decide +kernel
theorem dX7_changeMarked_4 : decode cX7_changeMarked 4 = .ok (.iload_n 3, 1) := by decide +kernel
theorem dX7_changeMarked_5 : decode cX7_changeMarked 5 = .ok (.aload_n 0, 1) := by decide +kernel
theorem dX7_changeMarked_6 : decode cX7_changeMarked 6 = .ok (.getfield 41, 3) := by decide +kernel
theorem dX7_changeMarked_9 : decode cX7_changeMarked 9 = .ok (.if_icmp .ge 51, 3) := by decide +kernel
theorem dX7_changeMarked_12 : decode cX7_changeMarked 12 = .ok (.iload_n 1, 1) := by decide +kernel
theorem dX7_changeMarked_13 : decode cX7_changeMarked 13 = .ok (.ifCond .lt 47, 3) := by decide +kernel
theorem dX7_changeMarked_16 : decode cX7_changeMarked 16 = .ok (.iload_n 1, 1) := by decide +kernel
theorem dX7_changeMarked_17 : decode cX7_changeMarked 17 = .ok (.aload_n 0, 1) := by decide +kernel
theorem dX7_changeMarked_18 : decode cX7_changeMarked 18 = .ok (.getfield 38, 3) := by decide +kernel
theorem dX7_changeMarked_21 : decode cX7_changeMarked 21 = .ok (.if_icmp .ge 39, 3) := by decide +kernel
theorem dX7_changeMarked_24 : decode cX7_changeMarked 24 = .ok (.aload_n 0, 1) := by decide +kernel
theorem dX7_changeMarked_25 : decode cX7_changeMarked 25 = .ok (.getfield 25, 3) := by decide +kernel
theorem dX7_changeMarked_28 : decode cX7_changeMarked 28 = .ok (.iload_n 3, 1) := by decide +kernel
theorem dX7_changeMarked_29 : decode cX7_changeMarked 29 = .ok (.baload, 1) := by decide +kernel
theorem dX7_changeMarked_30 : decode cX7_changeMarked 30 = .ok (.ifCond .eq 24, 3) := by decide +kernel
theorem dX7_changeMarked_33 : decode cX7_changeMarked 33 = .ok (.aload_n 0, 1) := by decide +kernel
theorem dX7_changeMarked_34 : decode cX7_changeMarked 34 = .ok (.iload_n 3, 1) := by decide +kernel
theorem dX7_changeMarked_35 : decode cX7_changeMarked 35 = .ok (.iload_n 1, 1) := by decide +kernel
theorem dX7_changeMarked_36 : decode cX7_changeMarked 36 = .ok (.aload_n 0, 1) := by decide +kernel
theorem dX7_changeMarked_37 : decode cX7_changeMarked 37 = .ok (.getfield 28, 3) := by decide +kernel
theorem dX7_changeMarked_40 : decode cX7_changeMarked 40 = .ok (.iload_n 3, 1) := by decide +kernel
theorem dX7_changeMarked_41 : decode cX7_changeMarked 41 = .ok (.iaload, 1) := by decide +kernel
theorem dX7_changeMarked_42 : decode cX7_changeMarked 42 = .ok (.aload_n 0, 1) := by decide +kernel
theorem dX7_changeMarked_43 : decode cX7_changeMarked 43 = .ok (.getfield 31, 3) := by decide +kernel
theorem dX7_changeMarked_46 : decode cX7_changeMarked 46 = .ok (.iload_n 3, 1) := by decide +kernel
theorem dX7_changeMarked_47 : decode cX7_changeMarked 47 = .ok (.baload, 1) := by decide +kernel
theorem dX7_changeMarked_48 : decode cX7_changeMarked 48 = .ok (.invokevirtual 48, 3) := by decide +kernel
theorem dX7_changeMarked_51 : decode cX7_changeMarked 51 = .ok (.iinc 2 1, 3) := by decide +kernel
theorem dX7_changeMarked_54 : decode cX7_changeMarked 54 = .ok (.iinc 3 1, 3) := by decide +kernel
theorem dX7_changeMarked_57 : decode cX7_changeMarked 57 = .ok (.goto (-53), 3) := by decide +kernel
theorem dX7_changeMarked_60 : decode cX7_changeMarked 60 = .ok (.iload_n 2, 1) := by decide +kernel
theorem dX7_changeMarked_61 : decode cX7_changeMarked 61 = .ok (.ireturn, 1) := by decide +kernel
theorem b_X7_changeMarked_0 {h : Nat} {L : LVs} {st : List AV} {S : ST} {Q : Option AV → ST → Prop} (k : o_c L st S (fun L st S => o_is L st S (fun L st S => o_c L st S (fun L st S => o_is L st S (fun L st S => V MX7_changeMarked h 4 L st S Q) 3) (nI 0)) 2) (nI 0)) : V MX7_changeMarked h 0 L st S Q :=
  v_iconst dX7_changeMarked_0 (by decide) (fun L st S k => v_istore_n dX7_changeMarked_1 rfl (by decide) (fun L st S k => v_iconst dX7_changeMarked_2 (by decide) (fun L st S k => v_istore_n dX7_changeMarked_3 rfl (by decide) (fun L st S k => k) k) k) k) k
theorem b_X7_changeMarked_4 {h : Nat} {L : LVs} {st : List AV} {S : ST} {Q : Option AV → ST → Prop} (k : o_il L st S (fun L st S => o_al L st S (fun L st S => o_get L st S (fun L st S => t_2 L st S (fun x y => y ≤ x) (fun L st S => V MX7_changeMarked h 60 L st S Q) (fun L st S => V MX7_changeMarked h 12 L st S Q)) 7 9 (0, 0, 0)) 0) 3) : V MX7_changeMarked h 4 L st S Q :=
  v_iload_n dX7_changeMarked_4 rfl (fun L st S k => v_aload_n dX7_changeMarked_5 rfl (fun L st S k => v_get dX7_changeMarked_6 rfl iX7 LY_7 rfl (by decide) rfl fl_X7_41 (fun L st S k => w_icmp_ge dX7_changeMarked_9 (by decide) rfl k) k) k) k
theorem b_X7_changeMarked_12 {h : Nat} {L : LVs} {st : List AV} {S : ST} {Q : Option AV → ST → Prop} (k : o_il L st S (fun L st S => t_1 L st S (fun x => x < nI 0) (fun L st S => V MX7_changeMarked h 60 L st S Q) (fun L st S => V MX7_changeMarked h 16 L st S Q)) 1) : V MX7_changeMarked h 12 L st S Q :=
  v_iload_n dX7_changeMarked_12 rfl (fun L st S k => w_if_lt dX7_changeMarked_13 (by decide) rfl k) k
theorem b_X7_changeMarked_16 {h : Nat} {L : LVs} {st : List AV} {S : ST} {Q : Option AV → ST → Prop} (k : o_il L st S (fun L st S => o_al L st S (fun L st S => o_get L st S (fun L st S => t_2 L st S (fun x y => y ≤ x) (fun L st S => V MX7_changeMarked h 60 L st S Q) (fun L st S => V MX7_changeMarked h 24 L st S Q)) 7 8 (0, 0, 0)) 0) 1) : V MX7_changeMarked h 16 L st S Q :=
  v_iload_n dX7_changeMarked_16 rfl (fun L st S k => v_aload_n dX7_changeMarked_17 rfl (fun L st S k => v_get dX7_changeMarked_18 rfl iX7 LY_7 rfl (by decide) rfl fl_X7_38 (fun L st S k => w_icmp_ge dX7_changeMarked_21 (by decide) rfl k) k) k) k
theorem b_X7_changeMarked_24 {h : Nat} {L : LVs} {st : List AV} {S : ST} {Q : Option AV → ST → Prop} (k : o_al L st S (fun L st S => o_get L st S (fun L st S => o_il L st S (fun L st S => o_zald L st S (fun L st S => t_1 L st S (fun x => x = nI 0) (fun L st S => V MX7_changeMarked h 54 L st S Q) (fun L st S => V MX7_changeMarked h 33 L st S Q))) 3) 7 4 (3, 33, 0)) 0) : V MX7_changeMarked h 24 L st S Q :=
  v_aload_n dX7_changeMarked_24 rfl (fun L st S k => v_get dX7_changeMarked_25 rfl iX7 LY_7 rfl (by decide) rfl fl_X7_25 (fun L st S k => v_iload_n dX7_changeMarked_28 rfl (fun L st S k => v_zaload dX7_changeMarked_29 (fun L st S k => w_if_eq dX7_changeMarked_30 (by decide) rfl k) k) k) k) k
theorem b_X7_changeMarked_33 {h : Nat} {L : LVs} {st : List AV} {S : ST} {Q : Option AV → ST → Prop} (k : o_al L st S (fun L st S => o_il L st S (fun L st S => o_il L st S (fun L st S => o_al L st S (fun L st S => o_get L st S (fun L st S => o_il L st S (fun L st S => o_iald L st S (fun L st S => o_al L st S (fun L st S => o_get L st S (fun L st S => o_il L st S (fun L st S => o_zald L st S (fun L st S => V MX7_changeMarked h 48 L st S Q)) 3) 7 6 (3, 35, 0)) 0)) 3) 7 5 (3, 34, 0)) 0) 1) 3) 0) : V MX7_changeMarked h 33 L st S Q :=
  v_aload_n dX7_changeMarked_33 rfl (fun L st S k => v_iload_n dX7_changeMarked_34 rfl (fun L st S k => v_iload_n dX7_changeMarked_35 rfl (fun L st S k => v_aload_n dX7_changeMarked_36 rfl (fun L st S k => v_get dX7_changeMarked_37 rfl iX7 LY_7 rfl (by decide) rfl fl_X7_28 (fun L st S k => v_iload_n dX7_changeMarked_40 rfl (fun L st S k => v_iaload dX7_changeMarked_41 (fun L st S k => v_aload_n dX7_changeMarked_42 rfl (fun L st S k => v_get dX7_changeMarked_43 rfl iX7 LY_7 rfl (by decide) rfl fl_X7_31 (fun L st S k => v_iload_n dX7_changeMarked_46 rfl (fun L st S k => v_zaload dX7_changeMarked_47 (fun L st S k => k) k) k) k) k) k) k) k) k) k) k) k
theorem k_X7_changeMarked_48 {h : Nat} {L : LVs} {st : List AV} {S : ST} {Q Q' : Option AV → ST → Prop} {j : Nat} {a0 a1 a2 a3 : AV} (hC : Ct MX7_put h [vR 7 j, a0, a1, a2, a3] S Q') (k : ∀ (r : Option AV) (S' : ST), Q' r S' → V MX7_changeMarked (h + 1) 51 L (r.toList ++ st) S' Q) (hj : j < NI 7) (hw : wid st ≤ 8) : V MX7_changeMarked (h + 1) 48 L (a3 :: a2 :: a1 :: a0 :: vR 7 j :: st) S Q :=
  v_callV (M' := MX7_put) (c := 7) (As := [a0, a1, a2, a3]) dX7_changeMarked_48 ml_X7_48 im_X7_put se_X7_put in_X7 cd_X7_put rfl LY_7 np_X7_put (by decide) hw hj hC k
theorem b_X7_changeMarked_51 {h : Nat} {L : LVs} {st : List AV} {S : ST} {Q : Option AV → ST → Prop} (k : o_inc L st S (fun L st S => V MX7_changeMarked h 54 L st S Q) 2 (nI 1)) : V MX7_changeMarked h 51 L st S Q :=
  v_iinc dX7_changeMarked_51 (by decide) (by decide) (fun L st S k => k) k
theorem b_X7_changeMarked_54 {h : Nat} {L : LVs} {st : List AV} {S : ST} {Q : Option AV → ST → Prop} (k : o_inc L st S (fun L st S => V MX7_changeMarked h 4 L st S Q) 3 (nI 1)) : V MX7_changeMarked h 54 L st S Q :=
  v_iinc dX7_changeMarked_54 (by decide) (by decide) (fun L st S k => v_goto dX7_changeMarked_57 (by decide) k) k
theorem b_X7_changeMarked_60 {h : Nat} {L : LVs} {st : List AV} {S : ST} {Q : Option AV → ST → Prop} (k : o_il L st S (fun L st S => t_ir st S Q) 2) : V MX7_changeMarked h 60 L st S Q :=
  v_iload_n dX7_changeMarked_60 rfl (fun L st S k => w_ir dX7_changeMarked_61 rfl k) k
-- QueryForge$Table.move(II)V
theorem dX7_move_0 : decode cX7_move 0 = .ok (.iconst 0, 1) := by decide +kernel
theorem dX7_move_1 : decode cX7_move 1 = .ok (.istore_n 3, 1) := by decide +kernel
theorem dX7_move_2 : decode cX7_move 2 = .ok (.iload_n 3, 1) := by decide +kernel
theorem dX7_move_3 : decode cX7_move 3 = .ok (.aload_n 0, 1) := by decide +kernel
theorem dX7_move_4 : decode cX7_move 4 = .ok (.getfield 38, 3) := by decide +kernel
theorem dX7_move_7 : decode cX7_move 7 = .ok (.if_icmp .ge 27, 3) := by decide +kernel
theorem dX7_move_10 : decode cX7_move 10 = .ok (.aload_n 0, 1) := by decide +kernel
theorem dX7_move_11 : decode cX7_move 11 = .ok (.iload_n 2, 1) := by decide +kernel
theorem dX7_move_12 : decode cX7_move 12 = .ok (.iload_n 3, 1) := by decide +kernel
theorem dX7_move_13 : decode cX7_move 13 = .ok (.aload_n 0, 1) := by decide +kernel
theorem dX7_move_14 : decode cX7_move 14 = .ok (.iload_n 1, 1) := by decide +kernel
theorem dX7_move_15 : decode cX7_move 15 = .ok (.iload_n 3, 1) := by decide +kernel
theorem dX7_move_16 : decode cX7_move 16 = .ok (.invokevirtual 56, 3) := by decide +kernel
theorem dX7_move_19 : decode cX7_move 19 = .ok (.aload_n 0, 1) := by decide +kernel
theorem dX7_move_20 : decode cX7_move 20 = .ok (.iload_n 1, 1) := by decide +kernel
theorem dX7_move_21 : decode cX7_move 21 = .ok (.iload_n 3, 1) := by decide +kernel
theorem dX7_move_22 : decode cX7_move 22 = .ok (.invokevirtual 60, 3) := by decide +kernel
theorem dX7_move_25 : decode cX7_move 25 = .ok (.invokevirtual 48, 3) := by decide +kernel
theorem dX7_move_28 : decode cX7_move 28 = .ok (.iinc 3 1, 3) := by decide +kernel
theorem dX7_move_31 : decode cX7_move 31 = .ok (.goto (-29), 3) := by decide +kernel
theorem dX7_move_34 : decode cX7_move 34 = .ok (.return_, 1) := by decide +kernel
theorem b_X7_move_0 {h : Nat} {L : LVs} {st : List AV} {S : ST} {Q : Option AV → ST → Prop} (k : o_c L st S (fun L st S => o_is L st S (fun L st S => V MX7_move h 2 L st S Q) 3) (nI 0)) : V MX7_move h 0 L st S Q :=
  v_iconst dX7_move_0 (by decide) (fun L st S k => v_istore_n dX7_move_1 rfl (by decide) (fun L st S k => k) k) k
theorem b_X7_move_2 {h : Nat} {L : LVs} {st : List AV} {S : ST} {Q : Option AV → ST → Prop} (k : o_il L st S (fun L st S => o_al L st S (fun L st S => o_get L st S (fun L st S => t_2 L st S (fun x y => y ≤ x) (fun L st S => V MX7_move h 34 L st S Q) (fun L st S => V MX7_move h 10 L st S Q)) 7 8 (0, 0, 0)) 0) 3) : V MX7_move h 2 L st S Q :=
  v_iload_n dX7_move_2 rfl (fun L st S k => v_aload_n dX7_move_3 rfl (fun L st S k => v_get dX7_move_4 rfl iX7 LY_7 rfl (by decide) rfl fl_X7_38 (fun L st S k => w_icmp_ge dX7_move_7 (by decide) rfl k) k) k) k
theorem b_X7_move_10 {h : Nat} {L : LVs} {st : List AV} {S : ST} {Q : Option AV → ST → Prop} (k : o_al L st S (fun L st S => o_il L st S (fun L st S => o_il L st S (fun L st S => o_al L st S (fun L st S => o_il L st S (fun L st S => o_il L st S (fun L st S => V MX7_move h 16 L st S Q) 3) 1) 0) 3) 2) 0) : V MX7_move h 10 L st S Q :=
  v_aload_n dX7_move_10 rfl (fun L st S k => v_iload_n dX7_move_11 rfl (fun L st S k => v_iload_n dX7_move_12 rfl (fun L st S k => v_aload_n dX7_move_13 rfl (fun L st S k => v_iload_n dX7_move_14 rfl (fun L st S k => v_iload_n dX7_move_15 rfl (fun L st S k => k) k) k) k) k) k) k
theorem k_X7_move_16 {h : Nat} {L : LVs} {st : List AV} {S : ST} {Q Q' : Option AV → ST → Prop} {j : Nat} {a0 a1 : AV} (hC : Ct MX7_valueAt h [vR 7 j, a0, a1] S Q') (k : ∀ (r : Option AV) (S' : ST), Q' r S' → V MX7_move (h + 1) 19 L (r.toList ++ st) S' Q) (hj : j < NI 7) (hw : wid st ≤ 8) : V MX7_move (h + 1) 16 L (a1 :: a0 :: vR 7 j :: st) S Q :=
  v_callV (M' := MX7_valueAt) (c := 7) (As := [a0, a1]) dX7_move_16 ml_X7_56 im_X7_valueAt se_X7_valueAt in_X7 cd_X7_valueAt rfl LY_7 np_X7_valueAt (by decide) hw hj hC k
theorem b_X7_move_19 {h : Nat} {L : LVs} {st : List AV} {S : ST} {Q : Option AV → ST → Prop} (k : o_al L st S (fun L st S => o_il L st S (fun L st S => o_il L st S (fun L st S => V MX7_move h 22 L st S Q) 3) 1) 0) : V MX7_move h 19 L st S Q :=
  v_aload_n dX7_move_19 rfl (fun L st S k => v_iload_n dX7_move_20 rfl (fun L st S k => v_iload_n dX7_move_21 rfl (fun L st S k => k) k) k) k
theorem k_X7_move_22 {h : Nat} {L : LVs} {st : List AV} {S : ST} {Q Q' : Option AV → ST → Prop} {j : Nat} {a0 a1 : AV} (hC : Ct MX7_missingAt h [vR 7 j, a0, a1] S Q') (k : ∀ (r : Option AV) (S' : ST), Q' r S' → V MX7_move (h + 1) 25 L (r.toList ++ st) S' Q) (hj : j < NI 7) (hw : wid st ≤ 8) : V MX7_move (h + 1) 22 L (a1 :: a0 :: vR 7 j :: st) S Q :=
  v_callV (M' := MX7_missingAt) (c := 7) (As := [a0, a1]) dX7_move_22 ml_X7_60 im_X7_missingAt se_X7_missingAt in_X7 cd_X7_missingAt rfl LY_7 np_X7_missingAt (by decide) hw hj hC k
theorem k_X7_move_25 {h : Nat} {L : LVs} {st : List AV} {S : ST} {Q Q' : Option AV → ST → Prop} {j : Nat} {a0 a1 a2 a3 : AV} (hC : Ct MX7_put h [vR 7 j, a0, a1, a2, a3] S Q') (k : ∀ (r : Option AV) (S' : ST), Q' r S' → V MX7_move (h + 1) 28 L (r.toList ++ st) S' Q) (hj : j < NI 7) (hw : wid st ≤ 8) : V MX7_move (h + 1) 25 L (a3 :: a2 :: a1 :: a0 :: vR 7 j :: st) S Q :=
  v_callV (M' := MX7_put) (c := 7) (As := [a0, a1, a2, a3]) dX7_move_25 ml_X7_48 im_X7_put se_X7_put in_X7 cd_X7_put rfl LY_7 np_X7_put (by decide) hw hj hC k
theorem b_X7_move_28 {h : Nat} {L : LVs} {st : List AV} {S : ST} {Q : Option AV → ST → Prop} (k : o_inc L st S (fun L st S => V MX7_move h 2 L st S Q) 3 (nI 1)) : V MX7_move h 28 L st S Q :=
  v_iinc dX7_move_28 (by decide) (by decide) (fun L st S k => v_goto dX7_move_31 (by decide) k) k
theorem b_X7_move_34 {h : Nat} {L : LVs} {st : List AV} {S : ST} {Q : Option AV → ST → Prop} (k : t_vr st S Q) : V MX7_move h 34 L st S Q :=
  w_vr dX7_move_34 rfl k
-- QueryForge$Table.put(IIIZ)V
theorem dX7_put_0 : decode cX7_put 0 = .ok (.iload_n 1, 1) := by decide +kernel
theorem dX7_put_1 : decode cX7_put 1 = .ok (.iconst 4, 1) := by decide +kernel
theorem dX7_put_2 : decode cX7_put 2 = .ok (.imul, 1) := by decide +kernel
theorem dX7_put_3 : decode cX7_put 3 = .ok (.iload_n 2, 1) := by decide +kernel
theorem dX7_put_4 : decode cX7_put 4 = .ok (.iadd, 1) := by decide +kernel
theorem dX7_put_5 : decode cX7_put 5 = .ok (.istore 5, 2) := by decide +kernel
theorem dX7_put_7 : decode cX7_put 7 = .ok (.aload_n 0, 1) := by decide +kernel
theorem dX7_put_8 : decode cX7_put 8 = .ok (.getfield 18, 3) := by decide +kernel
theorem dX7_put_11 : decode cX7_put 11 = .ok (.iload 5, 2) := by decide +kernel
theorem dX7_put_13 : decode cX7_put 13 = .ok (.iload 4, 2) := by decide +kernel
theorem dX7_put_15 : decode cX7_put 15 = .ok (.ifCond .eq 7, 3) := by decide +kernel
theorem dX7_put_18 : decode cX7_put 18 = .ok (.iconst 0, 1) := by decide +kernel
theorem dX7_put_19 : decode cX7_put 19 = .ok (.goto 4, 3) := by decide +kernel
theorem dX7_put_22 : decode cX7_put 22 = .ok (.iload_n 3, 1) := by decide +kernel
theorem dX7_put_23 : decode cX7_put 23 = .ok (.iastore, 1) := by decide +kernel
theorem dX7_put_24 : decode cX7_put 24 = .ok (.aload_n 0, 1) := by decide +kernel
theorem dX7_put_25 : decode cX7_put 25 = .ok (.getfield 21, 3) := by decide +kernel
theorem dX7_put_28 : decode cX7_put 28 = .ok (.iload 5, 2) := by decide +kernel
theorem dX7_put_30 : decode cX7_put 30 = .ok (.iload 4, 2) := by decide +kernel
theorem dX7_put_32 : decode cX7_put 32 = .ok (.bastore, 1) := by decide +kernel
theorem dX7_put_33 : decode cX7_put 33 = .ok (.return_, 1) := by decide +kernel
theorem b_X7_put_0 {h : Nat} {L : LVs} {st : List AV} {S : ST} {Q : Option AV → ST → Prop} (k : o_il L st S (fun L st S => o_c L st S (fun L st S => o_imul L st S (fun L st S => o_il L st S (fun L st S => o_iadd L st S (fun L st S => o_is L st S (fun L st S => o_al L st S (fun L st S => o_get L st S (fun L st S => o_il L st S (fun L st S => o_il L st S (fun L st S => t_1 L st S (fun x => x = nI 0) (fun L st S => V MX7_put h 22 L st S Q) (fun L st S => V MX7_put h 18 L st S Q)) 4) 5) 7 2 (3, 31, 0)) 0) 5)) 2)) (nI 4)) 1) : V MX7_put h 0 L st S Q :=
  v_iload_n dX7_put_0 rfl (fun L st S k => v_iconst dX7_put_1 (by decide) (fun L st S k => v_imul dX7_put_2 (fun L st S k => v_iload_n dX7_put_3 rfl (fun L st S k => v_iadd dX7_put_4 (fun L st S k => v_istore dX7_put_5 (by decide) (fun L st S k => v_aload_n dX7_put_7 rfl (fun L st S k => v_get dX7_put_8 rfl iX7 LY_7 rfl (by decide) rfl fl_X7_18 (fun L st S k => v_iload dX7_put_11 (fun L st S k => v_iload dX7_put_13 (fun L st S k => w_if_eq dX7_put_15 (by decide) rfl k) k) k) k) k) k) k) k) k) k) k
theorem b_X7_put_18 {h : Nat} {L : LVs} {st : List AV} {S : ST} {Q : Option AV → ST → Prop} (k : o_c L st S (fun L st S => V MX7_put h 23 L st S Q) (nI 0)) : V MX7_put h 18 L st S Q :=
  v_iconst dX7_put_18 (by decide) (fun L st S k => v_goto dX7_put_19 (by decide) k) k
theorem b_X7_put_22 {h : Nat} {L : LVs} {st : List AV} {S : ST} {Q : Option AV → ST → Prop} (k : o_il L st S (fun L st S => V MX7_put h 23 L st S Q) 3) : V MX7_put h 22 L st S Q :=
  v_iload_n dX7_put_22 rfl (fun L st S k => k) k
theorem b_X7_put_23 {h : Nat} {L : LVs} {st : List AV} {S : ST} {Q : Option AV → ST → Prop} (k : o_iast L st S (fun L st S => o_al L st S (fun L st S => o_get L st S (fun L st S => o_il L st S (fun L st S => o_il L st S (fun L st S => o_zast L st S (fun L st S => t_vr st S Q)) 4) 5) 7 3 (3, 32, 0)) 0)) : V MX7_put h 23 L st S Q :=
  v_iastore dX7_put_23 (fun L st S k => v_aload_n dX7_put_24 rfl (fun L st S k => v_get dX7_put_25 rfl iX7 LY_7 rfl (by decide) rfl fl_X7_21 (fun L st S k => v_iload dX7_put_28 (fun L st S k => v_iload dX7_put_30 (fun L st S k => v_zastore dX7_put_32 (fun L st S k => w_vr dX7_put_33 rfl k) k) k) k) k) k) k
