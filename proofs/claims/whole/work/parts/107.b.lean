-- QueryForge$Table.ownName()I
theorem dX7_ownName_0 : decode cX7_ownName 0 = .ok (.aload_n 0, 1) := by decide +kernel
theorem dX7_ownName_1 : decode cX7_ownName 1 = .ok (.getfield 29, 3) := by decide +kernel
theorem dX7_ownName_4 : decode cX7_ownName 4 = .ok (.ireturn, 1) := by decide +kernel
theorem b_X7_ownName_0 {h : Nat} {L : LVs} {st : List AV} {S : ST} {Q : Option AV → ST → Prop} (k : o_al L st S (fun L st S => o_get L st S (fun L st S => t_ir st S Q) 7 5 (0, 0, 0)) 0) : V MX7_ownName h 0 L st S Q :=
  v_aload_n dX7_ownName_0 rfl (fun L st S k => v_get dX7_ownName_1 rfl iX7 LY_7 rfl (by decide) rfl fl_X7_29 (fun L st S k => w_ir dX7_ownName_4 rfl k) k) k
-- QueryForge$Table.setName(I)V
theorem dX7_setName_0 : decode cX7_setName 0 = .ok (.aload_n 0, 1) := by decide +kernel
theorem dX7_setName_1 : decode cX7_setName 1 = .ok (.iload_n 1, 1) := by decide +kernel
theorem dX7_setName_2 : decode cX7_setName 2 = .ok (.putfield 29, 3) := by decide +kernel
theorem dX7_setName_5 : decode cX7_setName 5 = .ok (.return_, 1) := by decide +kernel
theorem b_X7_setName_0 {h : Nat} {L : LVs} {st : List AV} {S : ST} {Q : Option AV → ST → Prop} (k : o_al L st S (fun L st S => o_il L st S (fun L st S => o_puti L st S (fun L st S => t_vr st S Q) 7 5) 1) 0) : V MX7_setName h 0 L st S Q :=
  v_aload_n dX7_setName_0 rfl (fun L st S k => v_iload_n dX7_setName_1 rfl (fun L st S k => v_puti dX7_setName_2 rfl iX7 tyX7_ok nmX7 LY_7 rfl (by decide) rfl fl_X7_29 rfl rfl (fun L st S k => w_vr dX7_setName_5 rfl k) k) k) k
-- QueryForge$Table.columnCount()I
theorem dX7_columnCount_0 : decode cX7_columnCount 0 = .ok (.aload_n 0, 1) := by decide +kernel
theorem dX7_columnCount_1 : decode cX7_columnCount 1 = .ok (.getfield 33, 3) := by decide +kernel
theorem dX7_columnCount_4 : decode cX7_columnCount 4 = .ok (.ireturn, 1) := by decide +kernel
theorem b_X7_columnCount_0 {h : Nat} {L : LVs} {st : List AV} {S : ST} {Q : Option AV → ST → Prop} (k : o_al L st S (fun L st S => o_get L st S (fun L st S => t_ir st S Q) 7 6 (0, 0, 0)) 0) : V MX7_columnCount h 0 L st S Q :=
  v_aload_n dX7_columnCount_0 rfl (fun L st S k => v_get dX7_columnCount_1 rfl iX7 LY_7 rfl (by decide) rfl fl_X7_33 (fun L st S k => w_ir dX7_columnCount_4 rfl k) k) k
-- QueryForge$Table.rowCount()I
theorem dX7_rowCount_0 : decode cX7_rowCount 0 = .ok (.aload_n 0, 1) := by decide +kernel
theorem dX7_rowCount_1 : decode cX7_rowCount 1 = .ok (.getfield 36, 3) := by decide +kernel
theorem dX7_rowCount_4 : decode cX7_rowCount 4 = .ok (.ireturn, 1) := by decide +kernel
theorem b_X7_rowCount_0 {h : Nat} {L : LVs} {st : List AV} {S : ST} {Q : Option AV → ST → Prop} (k : o_al L st S (fun L st S => o_get L st S (fun L st S => t_ir st S Q) 7 7 (0, 0, 0)) 0) : V MX7_rowCount h 0 L st S Q :=
  v_aload_n dX7_rowCount_0 rfl (fun L st S k => v_get dX7_rowCount_1 rfl iX7 LY_7 rfl (by decide) rfl fl_X7_36 (fun L st S k => w_ir dX7_rowCount_4 rfl k) k) k
-- QueryForge$Table.isFull()Z
theorem dX7_isFull_0 : decode cX7_isFull 0 = .ok (.aload_n 0, 1) := by decide +kernel
theorem dX7_isFull_1 : decode cX7_isFull 1 = .ok (.getfield 36, 3) := by decide +kernel
theorem dX7_isFull_4 : decode cX7_isFull 4 = .ok (.bipush 24, 2) := by decide +kernel
theorem dX7_isFull_6 : decode cX7_isFull 6 = .ok (.if_icmp .lt 7, 3) := by decide +kernel
theorem dX7_isFull_9 : decode cX7_isFull 9 = .ok (.iconst 1, 1) := by decide +kernel
theorem dX7_isFull_10 : decode cX7_isFull 10 = .ok (.goto 4, 3) := by decide +kernel
theorem dX7_isFull_13 : decode cX7_isFull 13 = .ok (.iconst 0, 1) := by decide +kernel
theorem dX7_isFull_14 : decode cX7_isFull 14 = .ok (.ireturn, 1) := by decide +kernel
theorem b_X7_isFull_0 {h : Nat} {L : LVs} {st : List AV} {S : ST} {Q : Option AV → ST → Prop} (k : o_al L st S (fun L st S => o_get L st S (fun L st S => o_c L st S (fun L st S => t_2 L st S (fun x y => x < y) (fun L st S => V MX7_isFull h 13 L st S Q) (fun L st S => V MX7_isFull h 9 L st S Q)) (nI 24)) 7 7 (0, 0, 0)) 0) : V MX7_isFull h 0 L st S Q :=
  v_aload_n dX7_isFull_0 rfl (fun L st S k => v_get dX7_isFull_1 rfl iX7 LY_7 rfl (by decide) rfl fl_X7_36 (fun L st S k => v_bipush dX7_isFull_4 (by decide) (fun L st S k => w_icmp_lt dX7_isFull_6 (by decide) rfl k) k) k) k
theorem b_X7_isFull_9 {h : Nat} {L : LVs} {st : List AV} {S : ST} {Q : Option AV → ST → Prop} (k : o_c L st S (fun L st S => V MX7_isFull h 14 L st S Q) (nI 1)) : V MX7_isFull h 9 L st S Q :=
  v_iconst dX7_isFull_9 (by decide) (fun L st S k => v_goto dX7_isFull_10 (by decide) k) k
theorem b_X7_isFull_13 {h : Nat} {L : LVs} {st : List AV} {S : ST} {Q : Option AV → ST → Prop} (k : o_c L st S (fun L st S => V MX7_isFull h 14 L st S Q) (nI 0)) : V MX7_isFull h 13 L st S Q :=
  v_iconst dX7_isFull_13 (by decide) (fun L st S k => k) k
theorem b_X7_isFull_14 {h : Nat} {L : LVs} {st : List AV} {S : ST} {Q : Option AV → ST → Prop} (k : t_zr st S Q) : V MX7_isFull h 14 L st S Q :=
  w_zr dX7_isFull_14 rfl k
-- QueryForge$Table.has(II)Z
theorem dX7_has_0 : decode cX7_has 0 = .ok (.iload_n 1, 1) := by decide +kernel
theorem dX7_has_1 : decode cX7_has 1 = .ok (.ifCond .lt 27, 3) := by decide +kernel
theorem dX7_has_4 : decode cX7_has 4 = .ok (.iload_n 1, 1) := by decide +kernel
theorem dX7_has_5 : decode cX7_has 5 = .ok (.aload_n 0, 1) := by decide +kernel
theorem dX7_has_6 : decode cX7_has 6 = .ok (.getfield 36, 3) := by decide +kernel
theorem dX7_has_9 : decode cX7_has 9 = .ok (.if_icmp .ge 19, 3) := by decide +kernel
theorem dX7_has_12 : decode cX7_has 12 = .ok (.iload_n 2, 1) := by decide +kernel
theorem dX7_has_13 : decode cX7_has 13 = .ok (.ifCond .lt 15, 3) := by decide +kernel
theorem dX7_has_16 : decode cX7_has 16 = .ok (.iload_n 2, 1) := by decide +kernel
theorem dX7_has_17 : decode cX7_has 17 = .ok (.aload_n 0, 1) := by decide +kernel
theorem dX7_has_18 : decode cX7_has 18 = .ok (.getfield 33, 3) := by decide +kernel
theorem dX7_has_21 : decode cX7_has 21 = .ok (.if_icmp .ge 7, 3) := by decide +kernel
theorem dX7_has_24 : decode cX7_has 24 = .ok (.iconst 1, 1) := by decide +kernel
theorem dX7_has_25 : decode cX7_has 25 = .ok (.goto 4, 3) := by decide +kernel
theorem dX7_has_28 : decode cX7_has 28 = .ok (.iconst 0, 1) := by decide +kernel
theorem dX7_has_29 : decode cX7_has 29 = .ok (.ireturn, 1) := by decide +kernel
theorem b_X7_has_0 {h : Nat} {L : LVs} {st : List AV} {S : ST} {Q : Option AV → ST → Prop} (k : o_il L st S (fun L st S => t_1 L st S (fun x => x < nI 0) (fun L st S => V MX7_has h 28 L st S Q) (fun L st S => V MX7_has h 4 L st S Q)) 1) : V MX7_has h 0 L st S Q :=
  v_iload_n dX7_has_0 rfl (fun L st S k => w_if_lt dX7_has_1 (by decide) rfl k) k
theorem b_X7_has_4 {h : Nat} {L : LVs} {st : List AV} {S : ST} {Q : Option AV → ST → Prop} (k : o_il L st S (fun L st S => o_al L st S (fun L st S => o_get L st S (fun L st S => t_2 L st S (fun x y => y ≤ x) (fun L st S => V MX7_has h 28 L st S Q) (fun L st S => V MX7_has h 12 L st S Q)) 7 7 (0, 0, 0)) 0) 1) : V MX7_has h 4 L st S Q :=
  v_iload_n dX7_has_4 rfl (fun L st S k => v_aload_n dX7_has_5 rfl (fun L st S k => v_get dX7_has_6 rfl iX7 LY_7 rfl (by decide) rfl fl_X7_36 (fun L st S k => w_icmp_ge dX7_has_9 (by decide) rfl k) k) k) k
theorem b_X7_has_12 {h : Nat} {L : LVs} {st : List AV} {S : ST} {Q : Option AV → ST → Prop} (k : o_il L st S (fun L st S => t_1 L st S (fun x => x < nI 0) (fun L st S => V MX7_has h 28 L st S Q) (fun L st S => V MX7_has h 16 L st S Q)) 2) : V MX7_has h 12 L st S Q :=
  v_iload_n dX7_has_12 rfl (fun L st S k => w_if_lt dX7_has_13 (by decide) rfl k) k
theorem b_X7_has_16 {h : Nat} {L : LVs} {st : List AV} {S : ST} {Q : Option AV → ST → Prop} (k : o_il L st S (fun L st S => o_al L st S (fun L st S => o_get L st S (fun L st S => t_2 L st S (fun x y => y ≤ x) (fun L st S => V MX7_has h 28 L st S Q) (fun L st S => V MX7_has h 24 L st S Q)) 7 6 (0, 0, 0)) 0) 2) : V MX7_has h 16 L st S Q :=
  v_iload_n dX7_has_16 rfl (fun L st S k => v_aload_n dX7_has_17 rfl (fun L st S k => v_get dX7_has_18 rfl iX7 LY_7 rfl (by decide) rfl fl_X7_33 (fun L st S k => w_icmp_ge dX7_has_21 (by decide) rfl k) k) k) k
theorem b_X7_has_24 {h : Nat} {L : LVs} {st : List AV} {S : ST} {Q : Option AV → ST → Prop} (k : o_c L st S (fun L st S => V MX7_has h 29 L st S Q) (nI 1)) : V MX7_has h 24 L st S Q :=
  v_iconst dX7_has_24 (by decide) (fun L st S k => v_goto dX7_has_25 (by decide) k) k
theorem b_X7_has_28 {h : Nat} {L : LVs} {st : List AV} {S : ST} {Q : Option AV → ST → Prop} (k : o_c L st S (fun L st S => V MX7_has h 29 L st S Q) (nI 0)) : V MX7_has h 28 L st S Q :=
  v_iconst dX7_has_28 (by decide) (fun L st S k => k) k
theorem b_X7_has_29 {h : Nat} {L : LVs} {st : List AV} {S : ST} {Q : Option AV → ST → Prop} (k : t_zr st S Q) : V MX7_has h 29 L st S Q :=
  w_zr dX7_has_29 rfl k
-- QueryForge$Table.heldAt(II)J
theorem dX7_heldAt_0 : decode cX7_heldAt 0 = .ok (.aload_n 0, 1) := by decide +kernel
theorem dX7_heldAt_1 : decode cX7_heldAt 1 = .ok (.iload_n 1, 1) := by decide +kernel
theorem dX7_heldAt_2 : decode cX7_heldAt 2 = .ok (.iload_n 2, 1) := by decide +kernel
theorem dX7_heldAt_3 : decode cX7_heldAt 3 = .ok (.invokevirtual 39, 3) := by decide +kernel
theorem dX7_heldAt_6 : decode cX7_heldAt 6 = .ok (.ifCond .eq 16, 3) := by decide +kernel
theorem dX7_heldAt_9 : decode cX7_heldAt 9 = .ok (.aload_n 0, 1) := by decide +kernel
theorem dX7_heldAt_10 : decode cX7_heldAt 10 = .ok (.getfield 18, 3) := by decide +kernel
theorem dX7_heldAt_13 : decode cX7_heldAt 13 = .ok (.iload_n 1, 1) := by decide +kernel
theorem dX7_heldAt_14 : decode cX7_heldAt 14 = .ok (.iconst 4, 1) := by decide +kernel
theorem dX7_heldAt_15 : decode cX7_heldAt 15 = .ok (.imul, 1) := by decide +kernel
theorem dX7_heldAt_16 : decode cX7_heldAt 16 = .ok (.iload_n 2, 1) := by decide +kernel
theorem dX7_heldAt_17 : decode cX7_heldAt 17 = .ok (.iadd, 1) := by decide +kernel
theorem dX7_heldAt_18 : decode cX7_heldAt 18 = .ok (.laload, 1) := by decide +kernel
theorem dX7_heldAt_19 : decode cX7_heldAt 19 = .ok (.goto 6, 3) := by decide +kernel
theorem dX7_heldAt_22 : decode cX7_heldAt 22 = .ok (.ldc2_w 43, 3) := by decide +kernel
theorem dX7_heldAt_25 : decode cX7_heldAt 25 = .ok (.lreturn, 1) := by decide +kernel
theorem b_X7_heldAt_0 {h : Nat} {L : LVs} {st : List AV} {S : ST} {Q : Option AV → ST → Prop} (k : o_al L st S (fun L st S => o_il L st S (fun L st S => o_il L st S (fun L st S => V MX7_heldAt h 3 L st S Q) 2) 1) 0) : V MX7_heldAt h 0 L st S Q :=
  v_aload_n dX7_heldAt_0 rfl (fun L st S k => v_iload_n dX7_heldAt_1 rfl (fun L st S k => v_iload_n dX7_heldAt_2 rfl (fun L st S k => k) k) k) k
theorem k_X7_heldAt_3 {h : Nat} {L : LVs} {st : List AV} {S : ST} {Q Q' : Option AV → ST → Prop} {j : Nat} {a0 a1 : AV} (hC : Ct MX7_has h [vR 7 j, a0, a1] S Q') (k : ∀ (r : Option AV) (S' : ST), Q' r S' → V MX7_heldAt (h + 1) 6 L (r.toList ++ st) S' Q) (hj : j < NI 7) (hw : wid st ≤ 8) : V MX7_heldAt (h + 1) 3 L (a1 :: a0 :: vR 7 j :: st) S Q :=
  v_callV (M' := MX7_has) (c := 7) (As := [a0, a1]) dX7_heldAt_3 ml_X7_39 im_X7_has se_X7_has in_X7 cd_X7_has rfl LY_7 np_X7_has (by decide) hw hj hC k
theorem b_X7_heldAt_6 {h : Nat} {L : LVs} {st : List AV} {S : ST} {Q : Option AV → ST → Prop} (k : t_1 L st S (fun x => x = nI 0) (fun L st S => V MX7_heldAt h 22 L st S Q) (fun L st S => V MX7_heldAt h 9 L st S Q)) : V MX7_heldAt h 6 L st S Q :=
  w_if_eq dX7_heldAt_6 (by decide) rfl k
theorem b_X7_heldAt_9 {h : Nat} {L : LVs} {st : List AV} {S : ST} {Q : Option AV → ST → Prop} (k : o_al L st S (fun L st S => o_get L st S (fun L st S => o_il L st S (fun L st S => o_c L st S (fun L st S => o_imul L st S (fun L st S => o_il L st S (fun L st S => o_iadd L st S (fun L st S => o_lald L st S (fun L st S => V MX7_heldAt h 25 L st S Q))) 2)) (nI 4)) 1) 7 2 (3, 31, 0)) 0) : V MX7_heldAt h 9 L st S Q :=
  v_aload_n dX7_heldAt_9 rfl (fun L st S k => v_get dX7_heldAt_10 rfl iX7 LY_7 rfl (by decide) rfl fl_X7_18 (fun L st S k => v_iload_n dX7_heldAt_13 rfl (fun L st S k => v_iconst dX7_heldAt_14 (by decide) (fun L st S k => v_imul dX7_heldAt_15 (fun L st S k => v_iload_n dX7_heldAt_16 rfl (fun L st S k => v_iadd dX7_heldAt_17 (fun L st S k => v_laload dX7_heldAt_18 (fun L st S k => v_goto dX7_heldAt_19 (by decide) k) k) k) k) k) k) k) k) k
theorem b_X7_heldAt_22 {h : Nat} {L : LVs} {st : List AV} {S : ST} {Q : Option AV → ST → Prop} (k : o_lc L st S (fun L st S => V MX7_heldAt h 25 L st S Q) (-4611686018427387904)) : V MX7_heldAt h 22 L st S Q :=
  v_ldc2 dX7_heldAt_22 kl_X7_43 (fun L st S k => k) k
theorem b_X7_heldAt_25 {h : Nat} {L : LVs} {st : List AV} {S : ST} {Q : Option AV → ST → Prop} (k : t_lr st S Q) : V MX7_heldAt h 25 L st S Q :=
  w_lr dX7_heldAt_25 rfl k
-- QueryForge$Table.typeOf(I)I
theorem dX7_typeOf_0 : decode cX7_typeOf 0 = .ok (.iload_n 1, 1) := by decide +kernel
theorem dX7_typeOf_1 : decode cX7_typeOf 1 = .ok (.ifCond .lt 20, 3) := by decide +kernel
theorem dX7_typeOf_4 : decode cX7_typeOf 4 = .ok (.iload_n 1, 1) := by decide +kernel
theorem dX7_typeOf_5 : decode cX7_typeOf 5 = .ok (.aload_n 0, 1) := by decide +kernel
theorem dX7_typeOf_6 : decode cX7_typeOf 6 = .ok (.getfield 33, 3) := by decide +kernel
theorem dX7_typeOf_9 : decode cX7_typeOf 9 = .ok (.if_icmp .ge 12, 3) := by decide +kernel
theorem dX7_typeOf_12 : decode cX7_typeOf 12 = .ok (.aload_n 0, 1) := by decide +kernel
theorem dX7_typeOf_13 : decode cX7_typeOf 13 = .ok (.getfield 15, 3) := by decide +kernel
theorem dX7_typeOf_16 : decode cX7_typeOf 16 = .ok (.iload_n 1, 1) := by decide +kernel
theorem dX7_typeOf_17 : decode cX7_typeOf 17 = .ok (.iaload, 1) := by decide +kernel
theorem dX7_typeOf_18 : decode cX7_typeOf 18 = .ok (.goto 4, 3) := by decide +kernel
theorem dX7_typeOf_21 : decode cX7_typeOf 21 = .ok (.iconst 0, 1) := by decide +kernel
theorem dX7_typeOf_22 : decode cX7_typeOf 22 = .ok (.ireturn, 1) := by decide +kernel
theorem b_X7_typeOf_0 {h : Nat} {L : LVs} {st : List AV} {S : ST} {Q : Option AV → ST → Prop} (k : o_il L st S (fun L st S => t_1 L st S (fun x => x < nI 0) (fun L st S => V MX7_typeOf h 21 L st S Q) (fun L st S => V MX7_typeOf h 4 L st S Q)) 1) : V MX7_typeOf h 0 L st S Q :=
  v_iload_n dX7_typeOf_0 rfl (fun L st S k => w_if_lt dX7_typeOf_1 (by decide) rfl k) k
theorem b_X7_typeOf_4 {h : Nat} {L : LVs} {st : List AV} {S : ST} {Q : Option AV → ST → Prop} (k : o_il L st S (fun L st S => o_al L st S (fun L st S => o_get L st S (fun L st S => t_2 L st S (fun x y => y ≤ x) (fun L st S => V MX7_typeOf h 21 L st S Q) (fun L st S => V MX7_typeOf h 12 L st S Q)) 7 6 (0, 0, 0)) 0) 1) : V MX7_typeOf h 4 L st S Q :=
  v_iload_n dX7_typeOf_4 rfl (fun L st S k => v_aload_n dX7_typeOf_5 rfl (fun L st S k => v_get dX7_typeOf_6 rfl iX7 LY_7 rfl (by decide) rfl fl_X7_33 (fun L st S k => w_icmp_ge dX7_typeOf_9 (by decide) rfl k) k) k) k
theorem b_X7_typeOf_12 {h : Nat} {L : LVs} {st : List AV} {S : ST} {Q : Option AV → ST → Prop} (k : o_al L st S (fun L st S => o_get L st S (fun L st S => o_il L st S (fun L st S => o_iald L st S (fun L st S => V MX7_typeOf h 22 L st S Q)) 1) 7 1 (3, 30, 0)) 0) : V MX7_typeOf h 12 L st S Q :=
  v_aload_n dX7_typeOf_12 rfl (fun L st S k => v_get dX7_typeOf_13 rfl iX7 LY_7 rfl (by decide) rfl fl_X7_15 (fun L st S k => v_iload_n dX7_typeOf_16 rfl (fun L st S k => v_iaload dX7_typeOf_17 (fun L st S k => v_goto dX7_typeOf_18 (by decide) k) k) k) k) k
theorem b_X7_typeOf_21 {h : Nat} {L : LVs} {st : List AV} {S : ST} {Q : Option AV → ST → Prop} (k : o_c L st S (fun L st S => V MX7_typeOf h 22 L st S Q) (nI 0)) : V MX7_typeOf h 21 L st S Q :=
  v_iconst dX7_typeOf_21 (by decide) (fun L st S k => k) k
theorem b_X7_typeOf_22 {h : Nat} {L : LVs} {st : List AV} {S : ST} {Q : Option AV → ST → Prop} (k : t_ir st S Q) : V MX7_typeOf h 22 L st S Q :=
  w_ir dX7_typeOf_22 rfl k
-- QueryForge$Table.findColumn(I)I
theorem dX7_findColumn_0 : decode cX7_findColumn 0 = .ok (.iconst 0, 1) := by decide +kernel
theorem dX7_findColumn_1 : decode cX7_findColumn 1 = .ok (.istore_n 2, 1) := by decide +kernel
theorem dX7_findColumn_2 : decode cX7_findColumn 2 = .ok (.iload_n 2, 1) := by decide +kernel
theorem dX7_findColumn_3 : decode cX7_findColumn 3 = .ok (.aload_n 0, 1) := by decide +kernel
theorem dX7_findColumn_4 : decode cX7_findColumn 4 = .ok (.getfield 33, 3) := by decide +kernel
theorem dX7_findColumn_7 : decode cX7_findColumn 7 = .ok (.if_icmp .ge 21, 3) := by decide +kernel
theorem dX7_findColumn_10 : decode cX7_findColumn 10 = .ok (.aload_n 0, 1) := by decide +kernel
theorem dX7_findColumn_11 : decode cX7_findColumn 11 = .ok (.getfield 9, 3) := by decide +kernel
theorem dX7_findColumn_14 : decode cX7_findColumn 14 = .ok (.iload_n 2, 1) := by decide +kernel
theorem dX7_findColumn_15 : decode cX7_findColumn 15 = .ok (.iaload, 1) := by decide +kernel
theorem dX7_findColumn_16 : decode cX7_findColumn 16 = .ok (.iload_n 1, 1) := by decide +kernel
theorem dX7_findColumn_17 : decode cX7_findColumn 17 = .ok (.if_icmp .ne 5, 3) := by decide +kernel
theorem dX7_findColumn_20 : decode cX7_findColumn 20 = .ok (.iload_n 2, 1) := by decide +kernel
theorem dX7_findColumn_21 : decode cX7_findColumn 21 = .ok (.ireturn, 1) := by decide +kernel
theorem dX7_findColumn_22 : decode cX7_findColumn 22 = .ok (.iinc 2 1, 3) := by decide +kernel
theorem dX7_findColumn_25 : decode cX7_findColumn 25 = .ok (.goto (-23), 3) := by decide +kernel
theorem dX7_findColumn_28 : decode cX7_findColumn 28 = .ok (.iconst (-1), 1) := by decide +kernel
theorem dX7_findColumn_29 : decode cX7_findColumn 29 = .ok (.ireturn, 1) := by decide +kernel
theorem b_X7_findColumn_0 {h : Nat} {L : LVs} {st : List AV} {S : ST} {Q : Option AV → ST → Prop} (k : o_c L st S (fun L st S => o_is L st S (fun L st S => V MX7_findColumn h 2 L st S Q) 2) (nI 0)) : V MX7_findColumn h 0 L st S Q :=
  v_iconst dX7_findColumn_0 (by decide) (fun L st S k => v_istore_n dX7_findColumn_1 rfl (by decide) (fun L st S k => k) k) k
theorem b_X7_findColumn_2 {h : Nat} {L : LVs} {st : List AV} {S : ST} {Q : Option AV → ST → Prop} (k : o_il L st S (fun L st S => o_al L st S (fun L st S => o_get L st S (fun L st S => t_2 L st S (fun x y => y ≤ x) (fun L st S => V MX7_findColumn h 28 L st S Q) (fun L st S => V MX7_findColumn h 10 L st S Q)) 7 6 (0, 0, 0)) 0) 2) : V MX7_findColumn h 2 L st S Q :=
  v_iload_n dX7_findColumn_2 rfl (fun L st S k => v_aload_n dX7_findColumn_3 rfl (fun L st S k => v_get dX7_findColumn_4 rfl iX7 LY_7 rfl (by decide) rfl fl_X7_33 (fun L st S k => w_icmp_ge dX7_findColumn_7 (by decide) rfl k) k) k) k
theorem b_X7_findColumn_10 {h : Nat} {L : LVs} {st : List AV} {S : ST} {Q : Option AV → ST → Prop} (k : o_al L st S (fun L st S => o_get L st S (fun L st S => o_il L st S (fun L st S => o_iald L st S (fun L st S => o_il L st S (fun L st S => t_2 L st S (fun x y => x = y) (fun L st S => V MX7_findColumn h 20 L st S Q) (fun L st S => V MX7_findColumn h 22 L st S Q)) 1)) 2) 7 0 (3, 29, 0)) 0) : V MX7_findColumn h 10 L st S Q :=
  v_aload_n dX7_findColumn_10 rfl (fun L st S k => v_get dX7_findColumn_11 rfl iX7 LY_7 rfl (by decide) rfl fl_X7_9 (fun L st S k => v_iload_n dX7_findColumn_14 rfl (fun L st S k => v_iaload dX7_findColumn_15 (fun L st S k => v_iload_n dX7_findColumn_16 rfl (fun L st S k => w_icmp_ne dX7_findColumn_17 (by decide) rfl k) k) k) k) k) k
theorem b_X7_findColumn_20 {h : Nat} {L : LVs} {st : List AV} {S : ST} {Q : Option AV → ST → Prop} (k : o_il L st S (fun L st S => t_ir st S Q) 2) : V MX7_findColumn h 20 L st S Q :=
  v_iload_n dX7_findColumn_20 rfl (fun L st S k => w_ir dX7_findColumn_21 rfl k) k
theorem b_X7_findColumn_22 {h : Nat} {L : LVs} {st : List AV} {S : ST} {Q : Option AV → ST → Prop} (k : o_inc L st S (fun L st S => V MX7_findColumn h 2 L st S Q) 2 (nI 1)) : V MX7_findColumn h 22 L st S Q :=
  v_iinc dX7_findColumn_22 (by decide) (by decide) (fun L st S k => v_goto dX7_findColumn_25 (by decide) k) k
theorem b_X7_findColumn_28 {h : Nat} {L : LVs} {st : List AV} {S : ST} {Q : Option AV → ST → Prop} (k : o_c L st S (fun L st S => t_ir st S Q) (-1)) : V MX7_findColumn h 28 L st S Q :=
  v_iconst dX7_findColumn_28 (by decide) (fun L st S k => w_ir dX7_findColumn_29 rfl k) k
-- QueryForge$Table.addColumn(II)V
theorem dX7_addColumn_0 : decode cX7_addColumn 0 = .ok (.aload_n 0, 1) := by decide +kernel
theorem dX7_addColumn_1 : decode cX7_addColumn 1 = .ok (.getfield 33, 3) := by decide +kernel
theorem dX7_addColumn_4 : decode cX7_addColumn 4 = .ok (.iconst 4, 1) := by decide +kernel
theorem dX7_addColumn_5 : decode cX7_addColumn 5 = .ok (.if_icmp .ge 33, 3) := by decide +kernel
theorem dX7_addColumn_8 : decode cX7_addColumn 8 = .ok (.aload_n 0, 1) := by decide +kernel
theorem dX7_addColumn_9 : decode cX7_addColumn 9 = .ok (.getfield 9, 3) := by decide +kernel
theorem dX7_addColumn_12 : decode cX7_addColumn 12 = .ok (.aload_n 0, 1) := by decide +kernel
theorem dX7_addColumn_13 : decode cX7_addColumn 13 = .ok (.getfield 33, 3) := by decide +kernel
theorem dX7_addColumn_16 : decode cX7_addColumn 16 = .ok (.iload_n 1, 1) := by decide +kernel
theorem dX7_addColumn_17 : decode cX7_addColumn 17 = .ok (.iastore, 1) := by decide +kernel
theorem dX7_addColumn_18 : decode cX7_addColumn 18 = .ok (.aload_n 0, 1) := by decide +kernel
theorem dX7_addColumn_19 : decode cX7_addColumn 19 = .ok (.getfield 15, 3) := by decide +kernel
theorem dX7_addColumn_22 : decode cX7_addColumn 22 = .ok (.aload_n 0, 1) := by decide +kernel
theorem dX7_addColumn_23 : decode cX7_addColumn 23 = .ok (.getfield 33, 3) := by decide +kernel
theorem dX7_addColumn_26 : decode cX7_addColumn 26 = .ok (.iload_n 2, 1) := by decide +kernel
theorem dX7_addColumn_27 : decode cX7_addColumn 27 = .ok (.iastore, 1) := by decide +kernel
theorem dX7_addColumn_28 : decode cX7_addColumn 28 = .ok (.aload_n 0, 1) := by decide +kernel
theorem dX7_addColumn_29 : decode cX7_addColumn 29 = .ok (.dup, 1) := by decide +kernel
theorem dX7_addColumn_30 : decode cX7_addColumn 30 = .ok (.getfield 33, 3) := by decide +kernel
theorem dX7_addColumn_33 : decode cX7_addColumn 33 = .ok (.iconst 1, 1) := by decide +kernel
theorem dX7_addColumn_34 : decode cX7_addColumn 34 = .ok (.iadd, 1) := by decide +kernel
theorem dX7_addColumn_35 : decode cX7_addColumn 35 = .ok (.putfield 33, 3) := by decide +kernel
theorem dX7_addColumn_38 : decode cX7_addColumn 38 = .ok (.return_, 1) := by decide +kernel
theorem b_X7_addColumn_0 {h : Nat} {L : LVs} {st : List AV} {S : ST} {Q : Option AV → ST → Prop} (k : o_al L st S (fun L st S => o_get L st S (fun L st S => o_c L st S (fun L st S => t_2 L st S (fun x y => y ≤ x) (fun L st S => V MX7_addColumn h 38 L st S Q) (fun L st S => V MX7_addColumn h 8 L st S Q)) (nI 4)) 7 6 (0, 0, 0)) 0) : V MX7_addColumn h 0 L st S Q :=
  v_aload_n dX7_addColumn_0 rfl (fun L st S k => v_get dX7_addColumn_1 rfl iX7 LY_7 rfl (by decide) rfl fl_X7_33 (fun L st S k => v_iconst dX7_addColumn_4 (by decide) (fun L st S k => w_icmp_ge dX7_addColumn_5 (by decide) rfl k) k) k) k
theorem b_X7_addColumn_8 {h : Nat} {L : LVs} {st : List AV} {S : ST} {Q : Option AV → ST → Prop} (k : o_al L st S (fun L st S => o_get L st S (fun L st S => o_al L st S (fun L st S => o_get L st S (fun L st S => o_il L st S (fun L st S => o_iast L st S (fun L st S => o_al L st S (fun L st S => o_get L st S (fun L st S => o_al L st S (fun L st S => o_get L st S (fun L st S => o_il L st S (fun L st S => o_iast L st S (fun L st S => o_al L st S (fun L st S => o_dup L st S (fun L st S => o_get L st S (fun L st S => o_c L st S (fun L st S => o_iadd L st S (fun L st S => o_puti L st S (fun L st S => V MX7_addColumn h 38 L st S Q) 7 6)) (nI 1)) 7 6 (0, 0, 0))) 0)) 2) 7 6 (0, 0, 0)) 0) 7 1 (3, 30, 0)) 0)) 1) 7 6 (0, 0, 0)) 0) 7 0 (3, 29, 0)) 0) : V MX7_addColumn h 8 L st S Q :=
  v_aload_n dX7_addColumn_8 rfl (fun L st S k => v_get dX7_addColumn_9 rfl iX7 LY_7 rfl (by decide) rfl fl_X7_9 (fun L st S k => v_aload_n dX7_addColumn_12 rfl (fun L st S k => v_get dX7_addColumn_13 rfl iX7 LY_7 rfl (by decide) rfl fl_X7_33 (fun L st S k => v_iload_n dX7_addColumn_16 rfl (fun L st S k => v_iastore dX7_addColumn_17 (fun L st S k => v_aload_n dX7_addColumn_18 rfl (fun L st S k => v_get dX7_addColumn_19 rfl iX7 LY_7 rfl (by decide) rfl fl_X7_15 (fun L st S k => v_aload_n dX7_addColumn_22 rfl (fun L st S k => v_get dX7_addColumn_23 rfl iX7 LY_7 rfl (by decide) rfl fl_X7_33 (fun L st S k => v_iload_n dX7_addColumn_26 rfl (fun L st S k => v_iastore dX7_addColumn_27 (fun L st S k => v_aload_n dX7_addColumn_28 rfl (fun L st S k => v_dup dX7_addColumn_29 (fun L st S k => v_get dX7_addColumn_30 rfl iX7 LY_7 rfl (by decide) rfl fl_X7_33 (fun L st S k => v_iconst dX7_addColumn_33 (by decide) (fun L st S k => v_iadd dX7_addColumn_34 (fun L st S k => v_puti dX7_addColumn_35 rfl iX7 tyX7_ok nmX7 LY_7 rfl (by decide) rfl fl_X7_33 rfl rfl (fun L st S k => k) k) k) k) k) k) k) k) k) k) k) k) k) k) k) k) k) k) k
theorem b_X7_addColumn_38 {h : Nat} {L : LVs} {st : List AV} {S : ST} {Q : Option AV → ST → Prop} (k : t_vr st S Q) : V MX7_addColumn h 38 L st S Q :=
  w_vr dX7_addColumn_38 rfl k
-- QueryForge$Table.putNext(IJ)V
theorem dX7_putNext_0 : decode cX7_putNext 0 = .ok (.aload_n 0, 1) := by decide +kernel
theorem dX7_putNext_1 : decode cX7_putNext 1 = .ok (.getfield 36, 3) := by decide +kernel
theorem dX7_putNext_4 : decode cX7_putNext 4 = .ok (.bipush 24, 2) := by decide +kernel
theorem dX7_putNext_6 : decode cX7_putNext 6 = .ok (.if_icmp .ge 29, 3) := by decide +kernel
theorem dX7_putNext_9 : decode cX7_putNext 9 = .ok (.iload_n 1, 1) := by decide +kernel
theorem dX7_putNext_10 : decode cX7_putNext 10 = .ok (.ifCond .lt 25, 3) := by decide +kernel
theorem dX7_putNext_13 : decode cX7_putNext 13 = .ok (.iload_n 1, 1) := by decide +kernel
theorem dX7_putNext_14 : decode cX7_putNext 14 = .ok (.aload_n 0, 1) := by decide +kernel
theorem dX7_putNext_15 : decode cX7_putNext 15 = .ok (.getfield 33, 3) := by decide +kernel
theorem dX7_putNext_18 : decode cX7_putNext 18 = .ok (.if_icmp .ge 17, 3) := by decide +kernel
theorem dX7_putNext_21 : decode cX7_putNext 21 = .ok (.aload_n 0, 1) := by decide +kernel
theorem dX7_putNext_22 : decode cX7_putNext 22 = .ok (.getfield 18, 3) := by decide +kernel
theorem dX7_putNext_25 : decode cX7_putNext 25 = .ok (.aload_n 0, 1) := by decide +kernel
theorem dX7_putNext_26 : decode cX7_putNext 26 = .ok (.getfield 36, 3) := by decide +kernel
theorem dX7_putNext_29 : decode cX7_putNext 29 = .ok (.iconst 4, 1) := by decide +kernel
theorem dX7_putNext_30 : decode cX7_putNext 30 = .ok (.imul, 1) := by decide +kernel
theorem dX7_putNext_31 : decode cX7_putNext 31 = .ok (.iload_n 1, 1) := by decide +kernel
theorem dX7_putNext_32 : decode cX7_putNext 32 = .ok (.iadd, 1) := by decide +kernel
theorem dX7_putNext_33 : decode cX7_putNext 33 = .ok (.lload_n 2, 1) := by decide +kernel
theorem dX7_putNext_34 : decode cX7_putNext 34 = .ok (.lastore, 1) := by decide +kernel
theorem dX7_putNext_35 : decode cX7_putNext 35 = .ok (.return_, 1) := by decide +kernel
theorem b_X7_putNext_0 {h : Nat} {L : LVs} {st : List AV} {S : ST} {Q : Option AV → ST → Prop} (k : o_al L st S (fun L st S => o_get L st S (fun L st S => o_c L st S (fun L st S => t_2 L st S (fun x y => y ≤ x) (fun L st S => V MX7_putNext h 35 L st S Q) (fun L st S => V MX7_putNext h 9 L st S Q)) (nI 24)) 7 7 (0, 0, 0)) 0) : V MX7_putNext h 0 L st S Q :=
  v_aload_n dX7_putNext_0 rfl (fun L st S k => v_get dX7_putNext_1 rfl iX7 LY_7 rfl (by decide) rfl fl_X7_36 (fun L st S k => v_bipush dX7_putNext_4 (by decide) (fun L st S k => w_icmp_ge dX7_putNext_6 (by decide) rfl k) k) k) k
theorem b_X7_putNext_9 {h : Nat} {L : LVs} {st : List AV} {S : ST} {Q : Option AV → ST → Prop} (k : o_il L st S (fun L st S => t_1 L st S (fun x => x < nI 0) (fun L st S => V MX7_putNext h 35 L st S Q) (fun L st S => V MX7_putNext h 13 L st S Q)) 1) : V MX7_putNext h 9 L st S Q :=
  v_iload_n dX7_putNext_9 rfl (fun L st S k => w_if_lt dX7_putNext_10 (by decide) rfl k) k
theorem b_X7_putNext_13 {h : Nat} {L : LVs} {st : List AV} {S : ST} {Q : Option AV → ST → Prop} (k : o_il L st S (fun L st S => o_al L st S (fun L st S => o_get L st S (fun L st S => t_2 L st S (fun x y => y ≤ x) (fun L st S => V MX7_putNext h 35 L st S Q) (fun L st S => V MX7_putNext h 21 L st S Q)) 7 6 (0, 0, 0)) 0) 1) : V MX7_putNext h 13 L st S Q :=
  v_iload_n dX7_putNext_13 rfl (fun L st S k => v_aload_n dX7_putNext_14 rfl (fun L st S k => v_get dX7_putNext_15 rfl iX7 LY_7 rfl (by decide) rfl fl_X7_33 (fun L st S k => w_icmp_ge dX7_putNext_18 (by decide) rfl k) k) k) k
theorem b_X7_putNext_21 {h : Nat} {L : LVs} {st : List AV} {S : ST} {Q : Option AV → ST → Prop} (k : o_al L st S (fun L st S => o_get L st S (fun L st S => o_al L st S (fun L st S => o_get L st S (fun L st S => o_c L st S (fun L st S => o_imul L st S (fun L st S => o_il L st S (fun L st S => o_iadd L st S (fun L st S => o_ll L st S (fun L st S => o_last L st S (fun L st S => V MX7_putNext h 35 L st S Q)) 2)) 1)) (nI 4)) 7 7 (0, 0, 0)) 0) 7 2 (3, 31, 0)) 0) : V MX7_putNext h 21 L st S Q :=
  v_aload_n dX7_putNext_21 rfl (fun L st S k => v_get dX7_putNext_22 rfl iX7 LY_7 rfl (by decide) rfl fl_X7_18 (fun L st S k => v_aload_n dX7_putNext_25 rfl (fun L st S k => v_get dX7_putNext_26 rfl iX7 LY_7 rfl (by decide) rfl fl_X7_36 (fun L st S k => v_iconst dX7_putNext_29 (by decide) (fun L st S k => v_imul dX7_putNext_30 (fun L st S k => v_iload_n dX7_putNext_31 rfl (fun L st S k => v_iadd dX7_putNext_32 (fun L st S k => v_lload_n dX7_putNext_33 rfl (fun L st S k => v_lastore dX7_putNext_34 (fun L st S k => k) k) k) k) k) k) k) k) k) k) k
theorem b_X7_putNext_35 {h : Nat} {L : LVs} {st : List AV} {S : ST} {Q : Option AV → ST → Prop} (k : t_vr st S Q) : V MX7_putNext h 35 L st S Q :=
  w_vr dX7_putNext_35 rfl k
-- QueryForge$Table.append()V
theorem dX7_append_0 : decode cX7_append 0 = .ok (.aload_n 0, 1) := by decide +kernel
theorem dX7_append_1 : decode cX7_append 1 = .ok (.getfield 36, 3) := by decide +kernel
theorem dX7_append_4 : decode cX7_append 4 = .ok (.bipush 24, 2) := by decide +kernel
theorem dX7_append_6 : decode cX7_append 6 = .ok (.if_icmp .ge 13, 3) := by decide +kernel
theorem dX7_append_9 : decode cX7_append 9 = .ok (.aload_n 0, 1) := by decide +kernel
theorem dX7_append_10 : decode cX7_append 10 = .ok (.dup, 1) := by decide +kernel
theorem dX7_append_11 : decode cX7_append 11 = .ok (.getfield 36, 3) := by decide +kernel
theorem dX7_append_14 : decode cX7_append 14 = .ok (.iconst 1, 1) := by decide +kernel
theorem dX7_append_15 : decode cX7_append 15 = .ok (.iadd, 1) := by decide +kernel
theorem dX7_append_16 : decode cX7_append 16 = .ok (.putfield 36, 3) := by decide +kernel
theorem dX7_append_19 : decode cX7_append 19 = .ok (.return_, 1) := by decide +kernel
theorem b_X7_append_0 {h : Nat} {L : LVs} {st : List AV} {S : ST} {Q : Option AV → ST → Prop} (k : o_al L st S (fun L st S => o_get L st S (fun L st S => o_c L st S (fun L st S => t_2 L st S (fun x y => y ≤ x) (fun L st S => V MX7_append h 19 L st S Q) (fun L st S => V MX7_append h 9 L st S Q)) (nI 24)) 7 7 (0, 0, 0)) 0) : V MX7_append h 0 L st S Q :=
  v_aload_n dX7_append_0 rfl (fun L st S k => v_get dX7_append_1 rfl iX7 LY_7 rfl (by decide) rfl fl_X7_36 (fun L st S k => v_bipush dX7_append_4 (by decide) (fun L st S k => w_icmp_ge dX7_append_6 (by decide) rfl k) k) k) k
theorem b_X7_append_9 {h : Nat} {L : LVs} {st : List AV} {S : ST} {Q : Option AV → ST → Prop} (k : o_al L st S (fun L st S => o_dup L st S (fun L st S => o_get L st S (fun L st S => o_c L st S (fun L st S => o_iadd L st S (fun L st S => o_puti L st S (fun L st S => V MX7_append h 19 L st S Q) 7 7)) (nI 1)) 7 7 (0, 0, 0))) 0) : V MX7_append h 9 L st S Q :=
  v_aload_n dX7_append_9 rfl (fun L st S k => v_dup dX7_append_10 (fun L st S k => v_get dX7_append_11 rfl iX7 LY_7 rfl (by decide) rfl fl_X7_36 (fun L st S k => v_iconst dX7_append_14 (by decide) (fun L st S k => v_iadd dX7_append_15 (fun L st S k => v_puti dX7_append_16 rfl iX7 tyX7_ok nmX7 LY_7 rfl (by decide) rfl fl_X7_36 rfl rfl (fun L st S k => k) k) k) k) k) k) k
theorem b_X7_append_19 {h : Nat} {L : LVs} {st : List AV} {S : ST} {Q : Option AV → ST → Prop} (k : t_vr st S Q) : V MX7_append h 19 L st S Q :=
  w_vr dX7_append_19 rfl k
-- QueryForge$Table.unmark()V
theorem dX7_unmark_0 : decode cX7_unmark 0 = .ok (.iconst 0, 1) := by decide +kernel
theorem dX7_unmark_1 : decode cX7_unmark 1 = .ok (.istore_n 1, 1) := by decide +kernel
theorem dX7_unmark_2 : decode cX7_unmark 2 = .ok (.iload_n 1, 1) := by decide +kernel
theorem dX7_unmark_3 : decode cX7_unmark 3 = .ok (.bipush 24, 2) := by decide +kernel
theorem dX7_unmark_5 : decode cX7_unmark 5 = .ok (.if_icmp .ge 16, 3) := by decide +kernel
theorem dX7_unmark_8 : decode cX7_unmark 8 = .ok (.aload_n 0, 1) := by decide +kernel
theorem dX7_unmark_9 : decode cX7_unmark 9 = .ok (.getfield 22, 3) := by decide +kernel
theorem dX7_unmark_12 : decode cX7_unmark 12 = .ok (.iload_n 1, 1) := by decide +kernel
theorem dX7_unmark_13 : decode cX7_unmark 13 = .ok (.iconst 0, 1) := by decide +kernel
theorem dX7_unmark_14 : decode cX7_unmark 14 = .ok (.bastore, 1) := by decide +kernel
theorem dX7_unmark_15 : decode cX7_unmark 15 = .ok (.iinc 1 1, 3) := by decide +kernel
theorem dX7_unmark_18 : decode cX7_unmark 18 = .ok (.goto (-16), 3) := by decide +kernel
theorem dX7_unmark_21 : decode cX7_unmark 21 = .ok (.return_, 1) := by decide +kernel
theorem b_X7_unmark_0 {h : Nat} {L : LVs} {st : List AV} {S : ST} {Q : Option AV → ST → Prop} (k : o_c L st S (fun L st S => o_is L st S (fun L st S => V MX7_unmark h 2 L st S Q) 1) (nI 0)) : V MX7_unmark h 0 L st S Q :=
  v_iconst dX7_unmark_0 (by decide) (fun L st S k => v_istore_n dX7_unmark_1 rfl (by decide) (fun L st S k => k) k) k
theorem b_X7_unmark_2 {h : Nat} {L : LVs} {st : List AV} {S : ST} {Q : Option AV → ST → Prop} (k : o_il L st S (fun L st S => o_c L st S (fun L st S => t_2 L st S (fun x y => y ≤ x) (fun L st S => V MX7_unmark h 21 L st S Q) (fun L st S => V MX7_unmark h 8 L st S Q)) (nI 24)) 1) : V MX7_unmark h 2 L st S Q :=
  v_iload_n dX7_unmark_2 rfl (fun L st S k => v_bipush dX7_unmark_3 (by decide) (fun L st S k => w_icmp_ge dX7_unmark_5 (by decide) rfl k) k) k
theorem b_X7_unmark_8 {h : Nat} {L : LVs} {st : List AV} {S : ST} {Q : Option AV → ST → Prop} (k : o_al L st S (fun L st S => o_get L st S (fun L st S => o_il L st S (fun L st S => o_c L st S (fun L st S => o_zast L st S (fun L st S => o_inc L st S (fun L st S => V MX7_unmark h 2 L st S Q) 1 (nI 1))) (nI 0)) 1) 7 3 (3, 33, 0)) 0) : V MX7_unmark h 8 L st S Q :=
  v_aload_n dX7_unmark_8 rfl (fun L st S k => v_get dX7_unmark_9 rfl iX7 LY_7 rfl (by decide) rfl fl_X7_22 (fun L st S k => v_iload_n dX7_unmark_12 rfl (fun L st S k => v_iconst dX7_unmark_13 (by decide) (fun L st S k => v_zastore dX7_unmark_14 (fun L st S k => v_iinc dX7_unmark_15 (by decide) (by decide) (fun L st S k => v_goto dX7_unmark_18 (by decide) k) k) k) k) k) k) k
theorem b_X7_unmark_21 {h : Nat} {L : LVs} {st : List AV} {S : ST} {Q : Option AV → ST → Prop} (k : t_vr st S Q) : V MX7_unmark h 21 L st S Q :=
  w_vr dX7_unmark_21 rfl k
-- QueryForge$Table.mark(IJ)V
theorem dX7_mark_0 : decode cX7_mark 0 = .ok (.iload_n 1, 1) := by decide +kernel
theorem dX7_mark_1 : decode cX7_mark 1 = .ok (.ifCond .lt 25, 3) := by decide +kernel
theorem dX7_mark_4 : decode cX7_mark 4 = .ok (.iload_n 1, 1) := by decide +kernel
theorem dX7_mark_5 : decode cX7_mark 5 = .ok (.aload_n 0, 1) := by decide +kernel
theorem dX7_mark_6 : decode cX7_mark 6 = .ok (.getfield 36, 3) := by decide +kernel
theorem dX7_mark_9 : decode cX7_mark 9 = .ok (.if_icmp .ge 17, 3) := by decide +kernel
theorem dX7_mark_12 : decode cX7_mark 12 = .ok (.aload_n 0, 1) := by decide +kernel
theorem dX7_mark_13 : decode cX7_mark 13 = .ok (.getfield 22, 3) := by decide +kernel
theorem dX7_mark_16 : decode cX7_mark 16 = .ok (.iload_n 1, 1) := by decide +kernel
theorem dX7_mark_17 : decode cX7_mark 17 = .ok (.iconst 1, 1) := by decide +kernel
theorem dX7_mark_18 : decode cX7_mark 18 = .ok (.bastore, 1) := by decide +kernel
theorem dX7_mark_19 : decode cX7_mark 19 = .ok (.aload_n 0, 1) := by decide +kernel
theorem dX7_mark_20 : decode cX7_mark 20 = .ok (.getfield 26, 3) := by decide +kernel
theorem dX7_mark_23 : decode cX7_mark 23 = .ok (.iload_n 1, 1) := by decide +kernel
theorem dX7_mark_24 : decode cX7_mark 24 = .ok (.lload_n 2, 1) := by decide +kernel
theorem dX7_mark_25 : decode cX7_mark 25 = .ok (.lastore, 1) := by decide +kernel
theorem dX7_mark_26 : decode cX7_mark 26 = .ok (.return_, 1) := by decide +kernel
theorem b_X7_mark_0 {h : Nat} {L : LVs} {st : List AV} {S : ST} {Q : Option AV → ST → Prop} (k : o_il L st S (fun L st S => t_1 L st S (fun x => x < nI 0) (fun L st S => V MX7_mark h 26 L st S Q) (fun L st S => V MX7_mark h 4 L st S Q)) 1) : V MX7_mark h 0 L st S Q :=
  v_iload_n dX7_mark_0 rfl (fun L st S k => w_if_lt dX7_mark_1 (by decide) rfl k) k
theorem b_X7_mark_4 {h : Nat} {L : LVs} {st : List AV} {S : ST} {Q : Option AV → ST → Prop} (k : o_il L st S (fun L st S => o_al L st S (fun L st S => o_get L st S (fun L st S => t_2 L st S (fun x y => y ≤ x) (fun L st S => V MX7_mark h 26 L st S Q) (fun L st S => V MX7_mark h 12 L st S Q)) 7 7 (0, 0, 0)) 0) 1) : V MX7_mark h 4 L st S Q :=
  v_iload_n dX7_mark_4 rfl (fun L st S k => v_aload_n dX7_mark_5 rfl (fun L st S k => v_get dX7_mark_6 rfl iX7 LY_7 rfl (by decide) rfl fl_X7_36 (fun L st S k => w_icmp_ge dX7_mark_9 (by decide) rfl k) k) k) k
theorem b_X7_mark_12 {h : Nat} {L : LVs} {st : List AV} {S : ST} {Q : Option AV → ST → Prop} (k : o_al L st S (fun L st S => o_get L st S (fun L st S => o_il L st S (fun L st S => o_c L st S (fun L st S => o_zast L st S (fun L st S => o_al L st S (fun L st S => o_get L st S (fun L st S => o_il L st S (fun L st S => o_ll L st S (fun L st S => o_last L st S (fun L st S => V MX7_mark h 26 L st S Q)) 2) 1) 7 4 (3, 34, 0)) 0)) (nI 1)) 1) 7 3 (3, 33, 0)) 0) : V MX7_mark h 12 L st S Q :=
  v_aload_n dX7_mark_12 rfl (fun L st S k => v_get dX7_mark_13 rfl iX7 LY_7 rfl (by decide) rfl fl_X7_22 (fun L st S k => v_iload_n dX7_mark_16 rfl (fun L st S k => v_iconst dX7_mark_17 (by decide) (fun L st S k => v_zastore dX7_mark_18 (fun L st S k => v_aload_n dX7_mark_19 rfl (fun L st S k => v_get dX7_mark_20 rfl iX7 LY_7 rfl (by decide) rfl fl_X7_26 (fun L st S k => v_iload_n dX7_mark_23 rfl (fun L st S k => v_lload_n dX7_mark_24 rfl (fun L st S k => v_lastore dX7_mark_25 (fun L st S k => k) k) k) k) k) k) k) k) k) k) k
theorem b_X7_mark_26 {h : Nat} {L : LVs} {st : List AV} {S : ST} {Q : Option AV → ST → Prop} (k : t_vr st S Q) : V MX7_mark h 26 L st S Q :=
  w_vr dX7_mark_26 rfl k
-- QueryForge$Table.dropMarked()I
theorem dX7_dropMarked_0 : decode cX7_dropMarked 0 = .ok (.iconst 0, 1) := by decide +kernel
theorem dX7_dropMarked_1 : decode cX7_dropMarked 1 = .ok (.istore_n 1, 1) := by decide +kernel
theorem dX7_dropMarked_2 : decode cX7_dropMarked 2 = .ok (.iconst 0, 1) := by decide +kernel
theorem dX7_dropMarked_3 : decode cX7_dropMarked 3 = .ok (.istore_n 2, 1) := by decide +kernel
theorem dX7_dropMarked_4 : decode cX7_dropMarked 4 = .ok (.iload_n 2, 1) := by decide +kernel
theorem dX7_dropMarked_5 : decode cX7_dropMarked 5 = .ok (.aload_n 0, 1) := by decide +kernel
theorem dX7_dropMarked_6 : decode cX7_dropMarked 6 = .ok (.getfield 36, 3) := by decide +kernel
theorem dX7_dropMarked_9 : decode cX7_dropMarked 9 = .ok (.if_icmp .ge 42, 3) := by decide +kernel
theorem dX7_dropMarked_12 : decode cX7_dropMarked 12 = .ok (.aload_n 0, 1) := by decide +kernel
theorem dX7_dropMarked_13 : decode cX7_dropMarked 13 = .ok (.getfield 22, 3) := by decide +kernel
theorem dX7_dropMarked_16 : decode cX7_dropMarked 16 = .ok (.iload_n 2, 1) := by decide +kernel
theorem dX7_dropMarked_17 : decode cX7_dropMarked 17 = .ok (.baload, 1) := by decide +kernel
theorem dX7_dropMarked_18 : decode cX7_dropMarked 18 = .ok (.ifCond .ne 27, 3) := by decide +kernel
theorem dX7_dropMarked_21 : decode cX7_dropMarked 21 = .ok (.aload_n 0, 1) := by decide +kernel
theorem dX7_dropMarked_22 : decode cX7_dropMarked 22 = .ok (.getfield 18, 3) := by decide +kernel
theorem dX7_dropMarked_25 : decode cX7_dropMarked 25 = .ok (.iload_n 2, 1) := by decide +kernel
theorem dX7_dropMarked_26 : decode cX7_dropMarked 26 = .ok (.iconst 4, 1) := by decide +kernel
theorem dX7_dropMarked_27 : decode cX7_dropMarked 27 = .ok (.imul, 1) := by decide +kernel
theorem dX7_dropMarked_28 : decode cX7_dropMarked 28 = .ok (.aload_n 0, 1) := by decide +kernel
theorem dX7_dropMarked_29 : decode cX7_dropMarked 29 = .ok (.getfield 18, 3) := by decide +kernel
theorem dX7_dropMarked_32 : decode cX7_dropMarked 32 = .ok (.iload_n 1, 1) := by decide +kernel
theorem dX7_dropMarked_33 : decode cX7_dropMarked 33 = .ok (.iconst 4, 1) := by decide +kernel
theorem dX7_dropMarked_34 : decode cX7_dropMarked 34 = .ok (.imul, 1) := by decide +kernel
theorem dX7_dropMarked_35 : decode cX7_dropMarked 35 = .ok (.aload_n 0, 1) := by decide +kernel
theorem dX7_dropMarked_36 : decode cX7_dropMarked 36 = .ok (.getfield 33, 3) := by decide +kernel
theorem dX7_dropMarked_39 : decode cX7_dropMarked 39 = .ok (.invokestatic 45, 3) := by decide +kernel
theorem dX7_dropMarked_42 : decode cX7_dropMarked 42 = .ok (.iinc 1 1, 3) := by decide +kernel
theorem dX7_dropMarked_45 : decode cX7_dropMarked 45 = .ok (.iinc 2 1, 3) := by decide +kernel
theorem dX7_dropMarked_48 : decode cX7_dropMarked 48 = .ok (.goto (-44), 3) := by decide +kernel
theorem dX7_dropMarked_51 : decode cX7_dropMarked 51 = .ok (.aload_n 0, 1) := by decide +kernel
theorem dX7_dropMarked_52 : decode cX7_dropMarked 52 = .ok (.getfield 36, 3) := by decide +kernel
theorem dX7_dropMarked_55 : decode cX7_dropMarked 55 = .ok (.iload_n 1, 1) := by decide +kernel
theorem dX7_dropMarked_56 : decode cX7_dropMarked 56 = .ok (.isub, 1) := by decide +kernel
theorem dX7_dropMarked_57 : decode cX7_dropMarked 57 = .ok (.istore_n 2, 1) := by decide +kernel
theorem dX7_dropMarked_58 : decode cX7_dropMarked 58 = .ok (.aload_n 0, 1) := by decide +kernel
theorem dX7_dropMarked_59 : decode cX7_dropMarked 59 = .ok (.iload_n 1, 1) := by decide +kernel
theorem dX7_dropMarked_60 : decode cX7_dropMarked 60 = .ok (.putfield 36, 3) := by decide +kernel
theorem dX7_dropMarked_63 : decode cX7_dropMarked 63 = .ok (.iload_n 2, 1) := by decide +kernel
theorem dX7_dropMarked_64 : decode cX7_dropMarked 64 = .ok (.ireturn, 1) := by decide +kernel
theorem b_X7_dropMarked_0 {h : Nat} {L : LVs} {st : List AV} {S : ST} {Q : Option AV → ST → Prop} (k : o_c L st S (fun L st S => o_is L st S (fun L st S => o_c L st S (fun L st S => o_is L st S (fun L st S => V MX7_dropMarked h 4 L st S Q) 2) (nI 0)) 1) (nI 0)) : V MX7_dropMarked h 0 L st S Q :=
  v_iconst dX7_dropMarked_0 (by decide) (fun L st S k => v_istore_n dX7_dropMarked_1 rfl (by decide) (fun L st S k => v_iconst dX7_dropMarked_2 (by decide) (fun L st S k => v_istore_n dX7_dropMarked_3 rfl (by decide) (fun L st S k => k) k) k) k) k
theorem b_X7_dropMarked_4 {h : Nat} {L : LVs} {st : List AV} {S : ST} {Q : Option AV → ST → Prop} (k : o_il L st S (fun L st S => o_al L st S (fun L st S => o_get L st S (fun L st S => t_2 L st S (fun x y => y ≤ x) (fun L st S => V MX7_dropMarked h 51 L st S Q) (fun L st S => V MX7_dropMarked h 12 L st S Q)) 7 7 (0, 0, 0)) 0) 2) : V MX7_dropMarked h 4 L st S Q :=
  v_iload_n dX7_dropMarked_4 rfl (fun L st S k => v_aload_n dX7_dropMarked_5 rfl (fun L st S k => v_get dX7_dropMarked_6 rfl iX7 LY_7 rfl (by decide) rfl fl_X7_36 (fun L st S k => w_icmp_ge dX7_dropMarked_9 (by decide) rfl k) k) k) k
theorem b_X7_dropMarked_12 {h : Nat} {L : LVs} {st : List AV} {S : ST} {Q : Option AV → ST → Prop} (k : o_al L st S (fun L st S => o_get L st S (fun L st S => o_il L st S (fun L st S => o_zald L st S (fun L st S => t_1 L st S (fun x => x = nI 0) (fun L st S => V MX7_dropMarked h 21 L st S Q) (fun L st S => V MX7_dropMarked h 45 L st S Q))) 2) 7 3 (3, 33, 0)) 0) : V MX7_dropMarked h 12 L st S Q :=
  v_aload_n dX7_dropMarked_12 rfl (fun L st S k => v_get dX7_dropMarked_13 rfl iX7 LY_7 rfl (by decide) rfl fl_X7_22 (fun L st S k => v_iload_n dX7_dropMarked_16 rfl (fun L st S k => v_zaload dX7_dropMarked_17 (fun L st S k => w_if_ne dX7_dropMarked_18 (by decide) rfl k) k) k) k) k
theorem b_X7_dropMarked_21 {h : Nat} {L : LVs} {st : List AV} {S : ST} {Q : Option AV → ST → Prop} (k : o_al L st S (fun L st S => o_get L st S (fun L st S => o_il L st S (fun L st S => o_c L st S (fun L st S => o_imul L st S (fun L st S => o_al L st S (fun L st S => o_get L st S (fun L st S => o_il L st S (fun L st S => o_c L st S (fun L st S => o_imul L st S (fun L st S => o_al L st S (fun L st S => o_get L st S (fun L st S => V MX7_dropMarked h 39 L st S Q) 7 6 (0, 0, 0)) 0)) (nI 4)) 1) 7 2 (3, 31, 0)) 0)) (nI 4)) 2) 7 2 (3, 31, 0)) 0) : V MX7_dropMarked h 21 L st S Q :=
  v_aload_n dX7_dropMarked_21 rfl (fun L st S k => v_get dX7_dropMarked_22 rfl iX7 LY_7 rfl (by decide) rfl fl_X7_18 (fun L st S k => v_iload_n dX7_dropMarked_25 rfl (fun L st S k => v_iconst dX7_dropMarked_26 (by decide) (fun L st S k => v_imul dX7_dropMarked_27 (fun L st S k => v_aload_n dX7_dropMarked_28 rfl (fun L st S k => v_get dX7_dropMarked_29 rfl iX7 LY_7 rfl (by decide) rfl fl_X7_18 (fun L st S k => v_iload_n dX7_dropMarked_32 rfl (fun L st S k => v_iconst dX7_dropMarked_33 (by decide) (fun L st S k => v_imul dX7_dropMarked_34 (fun L st S k => v_aload_n dX7_dropMarked_35 rfl (fun L st S k => v_get dX7_dropMarked_36 rfl iX7 LY_7 rfl (by decide) rfl fl_X7_33 (fun L st S k => k) k) k) k) k) k) k) k) k) k) k) k) k
-- by hand: X7_dropMarked at 39: invokestatic ('java/lang/System', 'arraycopy', '(Ljava/lang/Object;ILjava/lang/Object;II)V')
theorem b_X7_dropMarked_42 {h : Nat} {L : LVs} {st : List AV} {S : ST} {Q : Option AV → ST → Prop} (k : o_inc L st S (fun L st S => V MX7_dropMarked h 45 L st S Q) 1 (nI 1)) : V MX7_dropMarked h 42 L st S Q :=
  v_iinc dX7_dropMarked_42 (by decide) (by decide) (fun L st S k => k) k
theorem b_X7_dropMarked_45 {h : Nat} {L : LVs} {st : List AV} {S : ST} {Q : Option AV → ST → Prop} (k : o_inc L st S (fun L st S => V MX7_dropMarked h 4 L st S Q) 2 (nI 1)) : V MX7_dropMarked h 45 L st S Q :=
  v_iinc dX7_dropMarked_45 (by decide) (by decide) (fun L st S k => v_goto dX7_dropMarked_48 (by decide) k) k
theorem b_X7_dropMarked_51 {h : Nat} {L : LVs} {st : List AV} {S : ST} {Q : Option AV → ST → Prop} (k : o_al L st S (fun L st S => o_get L st S (fun L st S => o_il L st S (fun L st S => o_isub L st S (fun L st S => o_is L st S (fun L st S => o_al L st S (fun L st S => o_il L st S (fun L st S => o_puti L st S (fun L st S => o_il L st S (fun L st S => t_ir st S Q) 2) 7 7) 1) 0) 2)) 1) 7 7 (0, 0, 0)) 0) : V MX7_dropMarked h 51 L st S Q :=
  v_aload_n dX7_dropMarked_51 rfl (fun L st S k => v_get dX7_dropMarked_52 rfl iX7 LY_7 rfl (by decide) rfl fl_X7_36 (fun L st S k => v_iload_n dX7_dropMarked_55 rfl (fun L st S k => v_isub dX7_dropMarked_56 (fun L st S k => v_istore_n dX7_dropMarked_57 rfl (by decide) (fun L st S k => v_aload_n dX7_dropMarked_58 rfl (fun L st S k => v_iload_n dX7_dropMarked_59 rfl (fun L st S k => v_puti dX7_dropMarked_60 rfl iX7 tyX7_ok nmX7 LY_7 rfl (by decide) rfl fl_X7_36 rfl rfl (fun L st S k => v_iload_n dX7_dropMarked_63 rfl (fun L st S k => w_ir dX7_dropMarked_64 rfl k) k) k) k) k) k) k) k) k) k
-- QueryForge$Table.changeMarked(I)I
theorem dX7_changeMarked_0 : decode cX7_changeMarked 0 = .ok (.iconst 0, 1) := by decide +kernel
theorem dX7_changeMarked_1 : decode cX7_changeMarked 1 = .ok (.istore_n 2, 1) := by decide +kernel
theorem dX7_changeMarked_2 : decode cX7_changeMarked 2 = .ok (.iconst 0, 1) := by decide +kernel
theorem dX7_changeMarked_3 : decode cX7_changeMarked 3 = .ok (.istore_n 3, 1) := by decide +kernel
theorem dX7_changeMarked_4 : decode cX7_changeMarked 4 = .ok (.iload_n 3, 1) := by decide +kernel
theorem dX7_changeMarked_5 : decode cX7_changeMarked 5 = .ok (.aload_n 0, 1) := by decide +kernel
theorem dX7_changeMarked_6 : decode cX7_changeMarked 6 = .ok (.getfield 36, 3) := by decide +kernel
theorem dX7_changeMarked_9 : decode cX7_changeMarked 9 = .ok (.if_icmp .ge 49, 3) := by decide +kernel
theorem dX7_changeMarked_12 : decode cX7_changeMarked 12 = .ok (.iload_n 1, 1) := by decide +kernel
theorem dX7_changeMarked_13 : decode cX7_changeMarked 13 = .ok (.ifCond .lt 45, 3) := by decide +kernel
theorem dX7_changeMarked_16 : decode cX7_changeMarked 16 = .ok (.iload_n 1, 1) := by decide +kernel
theorem dX7_changeMarked_17 : decode cX7_changeMarked 17 = .ok (.aload_n 0, 1) := by decide +kernel
theorem dX7_changeMarked_18 : decode cX7_changeMarked 18 = .ok (.getfield 33, 3) := by decide +kernel
theorem dX7_changeMarked_21 : decode cX7_changeMarked 21 = .ok (.if_icmp .ge 37, 3) := by decide +kernel
theorem dX7_changeMarked_24 : decode cX7_changeMarked 24 = .ok (.aload_n 0, 1) := by decide +kernel
theorem dX7_changeMarked_25 : decode cX7_changeMarked 25 = .ok (.getfield 22, 3) := by decide +kernel
theorem dX7_changeMarked_28 : decode cX7_changeMarked 28 = .ok (.iload_n 3, 1) := by decide +kernel
theorem dX7_changeMarked_29 : decode cX7_changeMarked 29 = .ok (.baload, 1) := by decide +kernel
theorem dX7_changeMarked_30 : decode cX7_changeMarked 30 = .ok (.ifCond .eq 22, 3) := by decide +kernel
theorem dX7_changeMarked_33 : decode cX7_changeMarked 33 = .ok (.aload_n 0, 1) := by decide +kernel
theorem dX7_changeMarked_34 : decode cX7_changeMarked 34 = .ok (.getfield 18, 3) := by decide +kernel
theorem dX7_changeMarked_37 : decode cX7_changeMarked 37 = .ok (.iload_n 3, 1) := by decide +kernel
theorem dX7_changeMarked_38 : decode cX7_changeMarked 38 = .ok (.iconst 4, 1) := by decide +kernel
theorem dX7_changeMarked_39 : decode cX7_changeMarked 39 = .ok (.imul, 1) := by decide +kernel
theorem dX7_changeMarked_40 : decode cX7_changeMarked 40 = .ok (.iload_n 1, 1) := by decide +kernel
theorem dX7_changeMarked_41 : decode cX7_changeMarked 41 = .ok (.iadd, 1) := by decide +kernel
theorem dX7_changeMarked_42 : decode cX7_changeMarked 42 = .ok (.aload_n 0, 1) := by decide +kernel
theorem dX7_changeMarked_43 : decode cX7_changeMarked 43 = .ok (.getfield 26, 3) := by decide +kernel
theorem dX7_changeMarked_46 : decode cX7_changeMarked 46 = .ok (.iload_n 3, 1) := by decide +kernel
theorem dX7_changeMarked_47 : decode cX7_changeMarked 47 = .ok (.laload, 1) := by decide +kernel
theorem dX7_changeMarked_48 : decode cX7_changeMarked 48 = .ok (.lastore, 1) := by decide +kernel
theorem dX7_changeMarked_49 : decode cX7_changeMarked 49 = .ok (.iinc 2 1, 3) := by decide +kernel
theorem dX7_changeMarked_52 : decode cX7_changeMarked 52 = .ok (.iinc 3 1, 3) := by decide +kernel
theorem dX7_changeMarked_55 : decode cX7_changeMarked 55 = .ok (.goto (-51), 3) := by decide +kernel
theorem dX7_changeMarked_58 : decode cX7_changeMarked 58 = .ok (.iload_n 2, 1) := by decide +kernel
theorem dX7_changeMarked_59 : decode cX7_changeMarked 59 = .ok (.ireturn, 1) := by decide +kernel
theorem b_X7_changeMarked_0 {h : Nat} {L : LVs} {st : List AV} {S : ST} {Q : Option AV → ST → Prop} (k : o_c L st S (fun L st S => o_is L st S (fun L st S => o_c L st S (fun L st S => o_is L st S (fun L st S => V MX7_changeMarked h 4 L st S Q) 3) (nI 0)) 2) (nI 0)) : V MX7_changeMarked h 0 L st S Q :=
  v_iconst dX7_changeMarked_0 (by decide) (fun L st S k => v_istore_n dX7_changeMarked_1 rfl (by decide) (fun L st S k => v_iconst dX7_changeMarked_2 (by decide) (fun L st S k => v_istore_n dX7_changeMarked_3 rfl (by decide) (fun L st S k => k) k) k) k) k
theorem b_X7_changeMarked_4 {h : Nat} {L : LVs} {st : List AV} {S : ST} {Q : Option AV → ST → Prop} (k : o_il L st S (fun L st S => o_al L st S (fun L st S => o_get L st S (fun L st S => t_2 L st S (fun x y => y ≤ x) (fun L st S => V MX7_changeMarked h 58 L st S Q) (fun L st S => V MX7_changeMarked h 12 L st S Q)) 7 7 (0, 0, 0)) 0) 3) : V MX7_changeMarked h 4 L st S Q :=
  v_iload_n dX7_changeMarked_4 rfl (fun L st S k => v_aload_n dX7_changeMarked_5 rfl (fun L st S k => v_get dX7_changeMarked_6 rfl iX7 LY_7 rfl (by decide) rfl fl_X7_36 (fun L st S k => w_icmp_ge dX7_changeMarked_9 (by decide) rfl k) k) k) k
theorem b_X7_changeMarked_12 {h : Nat} {L : LVs} {st : List AV} {S : ST} {Q : Option AV → ST → Prop} (k : o_il L st S (fun L st S => t_1 L st S (fun x => x < nI 0) (fun L st S => V MX7_changeMarked h 58 L st S Q) (fun L st S => V MX7_changeMarked h 16 L st S Q)) 1) : V MX7_changeMarked h 12 L st S Q :=
  v_iload_n dX7_changeMarked_12 rfl (fun L st S k => w_if_lt dX7_changeMarked_13 (by decide) rfl k) k
theorem b_X7_changeMarked_16 {h : Nat} {L : LVs} {st : List AV} {S : ST} {Q : Option AV → ST → Prop} (k : o_il L st S (fun L st S => o_al L st S (fun L st S => o_get L st S (fun L st S => t_2 L st S (fun x y => y ≤ x) (fun L st S => V MX7_changeMarked h 58 L st S Q) (fun L st S => V MX7_changeMarked h 24 L st S Q)) 7 6 (0, 0, 0)) 0) 1) : V MX7_changeMarked h 16 L st S Q :=
  v_iload_n dX7_changeMarked_16 rfl (fun L st S k => v_aload_n dX7_changeMarked_17 rfl (fun L st S k => v_get dX7_changeMarked_18 rfl iX7 LY_7 rfl (by decide) rfl fl_X7_33 (fun L st S k => w_icmp_ge dX7_changeMarked_21 (by decide) rfl k) k) k) k
theorem b_X7_changeMarked_24 {h : Nat} {L : LVs} {st : List AV} {S : ST} {Q : Option AV → ST → Prop} (k : o_al L st S (fun L st S => o_get L st S (fun L st S => o_il L st S (fun L st S => o_zald L st S (fun L st S => t_1 L st S (fun x => x = nI 0) (fun L st S => V MX7_changeMarked h 52 L st S Q) (fun L st S => V MX7_changeMarked h 33 L st S Q))) 3) 7 3 (3, 33, 0)) 0) : V MX7_changeMarked h 24 L st S Q :=
  v_aload_n dX7_changeMarked_24 rfl (fun L st S k => v_get dX7_changeMarked_25 rfl iX7 LY_7 rfl (by decide) rfl fl_X7_22 (fun L st S k => v_iload_n dX7_changeMarked_28 rfl (fun L st S k => v_zaload dX7_changeMarked_29 (fun L st S k => w_if_eq dX7_changeMarked_30 (by decide) rfl k) k) k) k) k
theorem b_X7_changeMarked_33 {h : Nat} {L : LVs} {st : List AV} {S : ST} {Q : Option AV → ST → Prop} (k : o_al L st S (fun L st S => o_get L st S (fun L st S => o_il L st S (fun L st S => o_c L st S (fun L st S => o_imul L st S (fun L st S => o_il L st S (fun L st S => o_iadd L st S (fun L st S => o_al L st S (fun L st S => o_get L st S (fun L st S => o_il L st S (fun L st S => o_lald L st S (fun L st S => o_last L st S (fun L st S => o_inc L st S (fun L st S => V MX7_changeMarked h 52 L st S Q) 2 (nI 1)))) 3) 7 4 (3, 34, 0)) 0)) 1)) (nI 4)) 3) 7 2 (3, 31, 0)) 0) : V MX7_changeMarked h 33 L st S Q :=
  v_aload_n dX7_changeMarked_33 rfl (fun L st S k => v_get dX7_changeMarked_34 rfl iX7 LY_7 rfl (by decide) rfl fl_X7_18 (fun L st S k => v_iload_n dX7_changeMarked_37 rfl (fun L st S k => v_iconst dX7_changeMarked_38 (by decide) (fun L st S k => v_imul dX7_changeMarked_39 (fun L st S k => v_iload_n dX7_changeMarked_40 rfl (fun L st S k => v_iadd dX7_changeMarked_41 (fun L st S k => v_aload_n dX7_changeMarked_42 rfl (fun L st S k => v_get dX7_changeMarked_43 rfl iX7 LY_7 rfl (by decide) rfl fl_X7_26 (fun L st S k => v_iload_n dX7_changeMarked_46 rfl (fun L st S k => v_laload dX7_changeMarked_47 (fun L st S k => v_lastore dX7_changeMarked_48 (fun L st S k => v_iinc dX7_changeMarked_49 (by decide) (by decide) (fun L st S k => k) k) k) k) k) k) k) k) k) k) k) k) k) k
theorem b_X7_changeMarked_52 {h : Nat} {L : LVs} {st : List AV} {S : ST} {Q : Option AV → ST → Prop} (k : o_inc L st S (fun L st S => V MX7_changeMarked h 4 L st S Q) 3 (nI 1)) : V MX7_changeMarked h 52 L st S Q :=
  v_iinc dX7_changeMarked_52 (by decide) (by decide) (fun L st S k => v_goto dX7_changeMarked_55 (by decide) k) k
theorem b_X7_changeMarked_58 {h : Nat} {L : LVs} {st : List AV} {S : ST} {Q : Option AV → ST → Prop} (k : o_il L st S (fun L st S => t_ir st S Q) 2) : V MX7_changeMarked h 58 L st S Q :=
  v_iload_n dX7_changeMarked_58 rfl (fun L st S k => w_ir dX7_changeMarked_59 rfl k) k
