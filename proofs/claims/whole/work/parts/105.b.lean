-- QueryForge$Result.clear()V
theorem dX5_clear_0 : decode cX5_clear 0 = .ok (.aload_n 0, 1) := by decide +kernel
theorem dX5_clear_1 : decode cX5_clear 1 = .ok (.iconst 0, 1) := by decide +kernel
theorem dX5_clear_2 : decode cX5_clear 2 = .ok (.putfield 22, 3) := by decide +kernel
theorem dX5_clear_5 : decode cX5_clear 5 = .ok (.aload_n 0, 1) := by decide +kernel
theorem dX5_clear_6 : decode cX5_clear 6 = .ok (.iconst 0, 1) := by decide +kernel
theorem dX5_clear_7 : decode cX5_clear 7 = .ok (.putfield 26, 3) := by decide +kernel
theorem dX5_clear_10 : decode cX5_clear 10 = .ok (.return_, 1) := by decide +kernel
theorem b_X5_clear_0 {h : Nat} {L : LVs} {st : List AV} {S : ST} {Q : Option AV → ST → Prop} (k : o_al L st S (fun L st S => o_c L st S (fun L st S => o_puti L st S (fun L st S => o_al L st S (fun L st S => o_c L st S (fun L st S => o_puti L st S (fun L st S => t_vr st S Q) 5 4) (nI 0)) 0) 5 3) (nI 0)) 0) : V MX5_clear h 0 L st S Q :=
  v_aload_n dX5_clear_0 rfl (fun L st S k => v_iconst dX5_clear_1 (by decide) (fun L st S k => v_puti dX5_clear_2 rfl iX5 tyX5_ok nmX5 LY_5 rfl (by decide) rfl fl_X5_22 rfl rfl (fun L st S k => v_aload_n dX5_clear_5 rfl (fun L st S k => v_iconst dX5_clear_6 (by decide) (fun L st S k => v_puti dX5_clear_7 rfl iX5 tyX5_ok nmX5 LY_5 rfl (by decide) rfl fl_X5_26 rfl rfl (fun L st S k => w_vr dX5_clear_10 rfl k) k) k) k) k) k) k
-- QueryForge$Result.rowCount()I
theorem dX5_rowCount_0 : decode cX5_rowCount 0 = .ok (.aload_n 0, 1) := by decide +kernel
theorem dX5_rowCount_1 : decode cX5_rowCount 1 = .ok (.getfield 22, 3) := by decide +kernel
theorem dX5_rowCount_4 : decode cX5_rowCount 4 = .ok (.ireturn, 1) := by decide +kernel
theorem b_X5_rowCount_0 {h : Nat} {L : LVs} {st : List AV} {S : ST} {Q : Option AV → ST → Prop} (k : o_al L st S (fun L st S => o_get L st S (fun L st S => t_ir st S Q) 5 3 (0, 0, 0)) 0) : V MX5_rowCount h 0 L st S Q :=
  v_aload_n dX5_rowCount_0 rfl (fun L st S k => v_get dX5_rowCount_1 rfl iX5 LY_5 rfl (by decide) rfl fl_X5_22 (fun L st S k => w_ir dX5_rowCount_4 rfl k) k) k
-- QueryForge$Result.itemCount()I
theorem dX5_itemCount_0 : decode cX5_itemCount 0 = .ok (.aload_n 0, 1) := by decide +kernel
theorem dX5_itemCount_1 : decode cX5_itemCount 1 = .ok (.getfield 26, 3) := by decide +kernel
theorem dX5_itemCount_4 : decode cX5_itemCount 4 = .ok (.ireturn, 1) := by decide +kernel
theorem b_X5_itemCount_0 {h : Nat} {L : LVs} {st : List AV} {S : ST} {Q : Option AV → ST → Prop} (k : o_al L st S (fun L st S => o_get L st S (fun L st S => t_ir st S Q) 5 4 (0, 0, 0)) 0) : V MX5_itemCount h 0 L st S Q :=
  v_aload_n dX5_itemCount_0 rfl (fun L st S k => v_get dX5_itemCount_1 rfl iX5 LY_5 rfl (by decide) rfl fl_X5_26 (fun L st S k => w_ir dX5_itemCount_4 rfl k) k) k
-- QueryForge$Result.setItemCount(I)V
theorem dX5_setItemCount_0 : decode cX5_setItemCount 0 = .ok (.aload_n 0, 1) := by decide +kernel
theorem dX5_setItemCount_1 : decode cX5_setItemCount 1 = .ok (.iload_n 1, 1) := by decide +kernel
theorem dX5_setItemCount_2 : decode cX5_setItemCount 2 = .ok (.putfield 26, 3) := by decide +kernel
theorem dX5_setItemCount_5 : decode cX5_setItemCount 5 = .ok (.return_, 1) := by decide +kernel
theorem b_X5_setItemCount_0 {h : Nat} {L : LVs} {st : List AV} {S : ST} {Q : Option AV → ST → Prop} (k : o_al L st S (fun L st S => o_il L st S (fun L st S => o_puti L st S (fun L st S => t_vr st S Q) 5 4) 1) 0) : V MX5_setItemCount h 0 L st S Q :=
  v_aload_n dX5_setItemCount_0 rfl (fun L st S k => v_iload_n dX5_setItemCount_1 rfl (fun L st S k => v_puti dX5_setItemCount_2 rfl iX5 tyX5_ok nmX5 LY_5 rfl (by decide) rfl fl_X5_26 rfl rfl (fun L st S k => w_vr dX5_setItemCount_5 rfl k) k) k) k
-- QueryForge$Result.has(II)Z
theorem dX5_has_0 : decode cX5_has 0 = .ok (.iload_n 1, 1) := by decide +kernel
theorem dX5_has_1 : decode cX5_has 1 = .ok (.ifCond .lt 27, 3) := by decide +kernel
theorem dX5_has_4 : decode cX5_has 4 = .ok (.iload_n 1, 1) := by decide +kernel
theorem dX5_has_5 : decode cX5_has 5 = .ok (.aload_n 0, 1) := by decide +kernel
theorem dX5_has_6 : decode cX5_has 6 = .ok (.getfield 22, 3) := by decide +kernel
theorem dX5_has_9 : decode cX5_has 9 = .ok (.if_icmp .ge 19, 3) := by decide +kernel
theorem dX5_has_12 : decode cX5_has 12 = .ok (.iload_n 2, 1) := by decide +kernel
theorem dX5_has_13 : decode cX5_has 13 = .ok (.ifCond .lt 15, 3) := by decide +kernel
theorem dX5_has_16 : decode cX5_has 16 = .ok (.iload_n 2, 1) := by decide +kernel
theorem dX5_has_17 : decode cX5_has 17 = .ok (.aload_n 0, 1) := by decide +kernel
theorem dX5_has_18 : decode cX5_has 18 = .ok (.getfield 26, 3) := by decide +kernel
theorem dX5_has_21 : decode cX5_has 21 = .ok (.if_icmp .ge 7, 3) := by decide +kernel
theorem dX5_has_24 : decode cX5_has 24 = .ok (.iconst 1, 1) := by decide +kernel
theorem dX5_has_25 : decode cX5_has 25 = .ok (.goto 4, 3) := by decide +kernel
theorem dX5_has_28 : decode cX5_has 28 = .ok (.iconst 0, 1) := by decide +kernel
theorem dX5_has_29 : decode cX5_has 29 = .ok (.ireturn, 1) := by decide +kernel
theorem b_X5_has_0 {h : Nat} {L : LVs} {st : List AV} {S : ST} {Q : Option AV → ST → Prop} (k : o_il L st S (fun L st S => t_1 L st S (fun x => x < nI 0) (fun L st S => V MX5_has h 28 L st S Q) (fun L st S => V MX5_has h 4 L st S Q)) 1) : V MX5_has h 0 L st S Q :=
  v_iload_n dX5_has_0 rfl (fun L st S k => w_if_lt dX5_has_1 (by decide) rfl k) k
theorem b_X5_has_4 {h : Nat} {L : LVs} {st : List AV} {S : ST} {Q : Option AV → ST → Prop} (k : o_il L st S (fun L st S => o_al L st S (fun L st S => o_get L st S (fun L st S => t_2 L st S (fun x y => y ≤ x) (fun L st S => V MX5_has h 28 L st S Q) (fun L st S => V MX5_has h 12 L st S Q)) 5 3 (0, 0, 0)) 0) 1) : V MX5_has h 4 L st S Q :=
  v_iload_n dX5_has_4 rfl (fun L st S k => v_aload_n dX5_has_5 rfl (fun L st S k => v_get dX5_has_6 rfl iX5 LY_5 rfl (by decide) rfl fl_X5_22 (fun L st S k => w_icmp_ge dX5_has_9 (by decide) rfl k) k) k) k
theorem b_X5_has_12 {h : Nat} {L : LVs} {st : List AV} {S : ST} {Q : Option AV → ST → Prop} (k : o_il L st S (fun L st S => t_1 L st S (fun x => x < nI 0) (fun L st S => V MX5_has h 28 L st S Q) (fun L st S => V MX5_has h 16 L st S Q)) 2) : V MX5_has h 12 L st S Q :=
  v_iload_n dX5_has_12 rfl (fun L st S k => w_if_lt dX5_has_13 (by decide) rfl k) k
theorem b_X5_has_16 {h : Nat} {L : LVs} {st : List AV} {S : ST} {Q : Option AV → ST → Prop} (k : o_il L st S (fun L st S => o_al L st S (fun L st S => o_get L st S (fun L st S => t_2 L st S (fun x y => y ≤ x) (fun L st S => V MX5_has h 28 L st S Q) (fun L st S => V MX5_has h 24 L st S Q)) 5 4 (0, 0, 0)) 0) 2) : V MX5_has h 16 L st S Q :=
  v_iload_n dX5_has_16 rfl (fun L st S k => v_aload_n dX5_has_17 rfl (fun L st S k => v_get dX5_has_18 rfl iX5 LY_5 rfl (by decide) rfl fl_X5_26 (fun L st S k => w_icmp_ge dX5_has_21 (by decide) rfl k) k) k) k
theorem b_X5_has_24 {h : Nat} {L : LVs} {st : List AV} {S : ST} {Q : Option AV → ST → Prop} (k : o_c L st S (fun L st S => V MX5_has h 29 L st S Q) (nI 1)) : V MX5_has h 24 L st S Q :=
  v_iconst dX5_has_24 (by decide) (fun L st S k => v_goto dX5_has_25 (by decide) k) k
theorem b_X5_has_28 {h : Nat} {L : LVs} {st : List AV} {S : ST} {Q : Option AV → ST → Prop} (k : o_c L st S (fun L st S => V MX5_has h 29 L st S Q) (nI 0)) : V MX5_has h 28 L st S Q :=
  v_iconst dX5_has_28 (by decide) (fun L st S k => k) k
theorem b_X5_has_29 {h : Nat} {L : LVs} {st : List AV} {S : ST} {Q : Option AV → ST → Prop} (k : t_zr st S Q) : V MX5_has h 29 L st S Q :=
  w_zr dX5_has_29 rfl k
-- QueryForge$Result.heldAt(II)J
theorem dX5_heldAt_0 : decode cX5_heldAt 0 = .ok (.aload_n 0, 1) := by decide +kernel
theorem dX5_heldAt_1 : decode cX5_heldAt 1 = .ok (.iload_n 1, 1) := by decide +kernel
theorem dX5_heldAt_2 : decode cX5_heldAt 2 = .ok (.iload_n 2, 1) := by decide +kernel
theorem dX5_heldAt_3 : decode cX5_heldAt 3 = .ok (.invokevirtual 29, 3) := by decide +kernel
theorem dX5_heldAt_6 : decode cX5_heldAt 6 = .ok (.ifCond .eq 21, 3) := by decide +kernel
theorem dX5_heldAt_9 : decode cX5_heldAt 9 = .ok (.aload_n 0, 1) := by decide +kernel
theorem dX5_heldAt_10 : decode cX5_heldAt 10 = .ok (.getfield 9, 3) := by decide +kernel
theorem dX5_heldAt_13 : decode cX5_heldAt 13 = .ok (.aload_n 0, 1) := by decide +kernel
theorem dX5_heldAt_14 : decode cX5_heldAt 14 = .ok (.getfield 15, 3) := by decide +kernel
theorem dX5_heldAt_17 : decode cX5_heldAt 17 = .ok (.iload_n 1, 1) := by decide +kernel
theorem dX5_heldAt_18 : decode cX5_heldAt 18 = .ok (.iaload, 1) := by decide +kernel
theorem dX5_heldAt_19 : decode cX5_heldAt 19 = .ok (.iconst 4, 1) := by decide +kernel
theorem dX5_heldAt_20 : decode cX5_heldAt 20 = .ok (.imul, 1) := by decide +kernel
theorem dX5_heldAt_21 : decode cX5_heldAt 21 = .ok (.iload_n 2, 1) := by decide +kernel
theorem dX5_heldAt_22 : decode cX5_heldAt 22 = .ok (.iadd, 1) := by decide +kernel
theorem dX5_heldAt_23 : decode cX5_heldAt 23 = .ok (.laload, 1) := by decide +kernel
theorem dX5_heldAt_24 : decode cX5_heldAt 24 = .ok (.goto 6, 3) := by decide +kernel
theorem dX5_heldAt_27 : decode cX5_heldAt 27 = .ok (.ldc2_w 33, 3) := by decide +kernel
theorem dX5_heldAt_30 : decode cX5_heldAt 30 = .ok (.lreturn, 1) := by decide +kernel
theorem b_X5_heldAt_0 {h : Nat} {L : LVs} {st : List AV} {S : ST} {Q : Option AV → ST → Prop} (k : o_al L st S (fun L st S => o_il L st S (fun L st S => o_il L st S (fun L st S => V MX5_heldAt h 3 L st S Q) 2) 1) 0) : V MX5_heldAt h 0 L st S Q :=
  v_aload_n dX5_heldAt_0 rfl (fun L st S k => v_iload_n dX5_heldAt_1 rfl (fun L st S k => v_iload_n dX5_heldAt_2 rfl (fun L st S k => k) k) k) k
theorem k_X5_heldAt_3 {h : Nat} {L : LVs} {st : List AV} {S : ST} {Q Q' : Option AV → ST → Prop} {j : Nat} {a0 a1 : AV} (hC : Ct MX5_isInside h [vR 5 j, a0, a1] S Q') (k : ∀ (r : Option AV) (S' : ST), Q' r S' → V MX5_heldAt (h + 1) 6 L (r.toList ++ st) S' Q) (hj : j < NI 5) (hw : wid st ≤ 8) : V MX5_heldAt (h + 1) 3 L (a1 :: a0 :: vR 5 j :: st) S Q :=
  v_callV (M' := MX5_isInside) (c := 5) (As := [a0, a1]) dX5_heldAt_3 ml_X5_29 im_X5_isInside se_X5_isInside in_X5 cd_X5_isInside rfl LY_5 np_X5_isInside (by decide) hw hj hC k
theorem b_X5_heldAt_6 {h : Nat} {L : LVs} {st : List AV} {S : ST} {Q : Option AV → ST → Prop} (k : t_1 L st S (fun x => x = nI 0) (fun L st S => V MX5_heldAt h 27 L st S Q) (fun L st S => V MX5_heldAt h 9 L st S Q)) : V MX5_heldAt h 6 L st S Q :=
  w_if_eq dX5_heldAt_6 (by decide) rfl k
theorem b_X5_heldAt_9 {h : Nat} {L : LVs} {st : List AV} {S : ST} {Q : Option AV → ST → Prop} (k : o_al L st S (fun L st S => o_get L st S (fun L st S => o_al L st S (fun L st S => o_get L st S (fun L st S => o_il L st S (fun L st S => o_iald L st S (fun L st S => o_c L st S (fun L st S => o_imul L st S (fun L st S => o_il L st S (fun L st S => o_iadd L st S (fun L st S => o_lald L st S (fun L st S => V MX5_heldAt h 30 L st S Q))) 2)) (nI 4))) 1) 5 1 (3, 20, 0)) 0) 5 0 (3, 18, 0)) 0) : V MX5_heldAt h 9 L st S Q :=
  v_aload_n dX5_heldAt_9 rfl (fun L st S k => v_get dX5_heldAt_10 rfl iX5 LY_5 rfl (by decide) rfl fl_X5_9 (fun L st S k => v_aload_n dX5_heldAt_13 rfl (fun L st S k => v_get dX5_heldAt_14 rfl iX5 LY_5 rfl (by decide) rfl fl_X5_15 (fun L st S k => v_iload_n dX5_heldAt_17 rfl (fun L st S k => v_iaload dX5_heldAt_18 (fun L st S k => v_iconst dX5_heldAt_19 (by decide) (fun L st S k => v_imul dX5_heldAt_20 (fun L st S k => v_iload_n dX5_heldAt_21 rfl (fun L st S k => v_iadd dX5_heldAt_22 (fun L st S k => v_laload dX5_heldAt_23 (fun L st S k => v_goto dX5_heldAt_24 (by decide) k) k) k) k) k) k) k) k) k) k) k) k
theorem b_X5_heldAt_27 {h : Nat} {L : LVs} {st : List AV} {S : ST} {Q : Option AV → ST → Prop} (k : o_lc L st S (fun L st S => V MX5_heldAt h 30 L st S Q) (-4611686018427387904)) : V MX5_heldAt h 27 L st S Q :=
  v_ldc2 dX5_heldAt_27 kl_X5_33 (fun L st S k => k) k
theorem b_X5_heldAt_30 {h : Nat} {L : LVs} {st : List AV} {S : ST} {Q : Option AV → ST → Prop} (k : t_lr st S Q) : V MX5_heldAt h 30 L st S Q :=
  w_lr dX5_heldAt_30 rfl k
-- QueryForge$Result.putNext(IJ)V
theorem dX5_putNext_0 : decode cX5_putNext 0 = .ok (.aload_n 0, 1) := by decide +kernel
theorem dX5_putNext_1 : decode cX5_putNext 1 = .ok (.getfield 22, 3) := by decide +kernel
theorem dX5_putNext_4 : decode cX5_putNext 4 = .ok (.sipush 576, 3) := by decide +kernel
theorem dX5_putNext_7 : decode cX5_putNext 7 = .ok (.if_icmp .ge 26, 3) := by decide +kernel
theorem dX5_putNext_10 : decode cX5_putNext 10 = .ok (.iload_n 1, 1) := by decide +kernel
theorem dX5_putNext_11 : decode cX5_putNext 11 = .ok (.ifCond .lt 22, 3) := by decide +kernel
theorem dX5_putNext_14 : decode cX5_putNext 14 = .ok (.iload_n 1, 1) := by decide +kernel
theorem dX5_putNext_15 : decode cX5_putNext 15 = .ok (.iconst 4, 1) := by decide +kernel
theorem dX5_putNext_16 : decode cX5_putNext 16 = .ok (.if_icmp .ge 17, 3) := by decide +kernel
theorem dX5_putNext_19 : decode cX5_putNext 19 = .ok (.aload_n 0, 1) := by decide +kernel
theorem dX5_putNext_20 : decode cX5_putNext 20 = .ok (.getfield 9, 3) := by decide +kernel
theorem dX5_putNext_23 : decode cX5_putNext 23 = .ok (.aload_n 0, 1) := by decide +kernel
theorem dX5_putNext_24 : decode cX5_putNext 24 = .ok (.getfield 22, 3) := by decide +kernel
theorem dX5_putNext_27 : decode cX5_putNext 27 = .ok (.iconst 4, 1) := by decide +kernel
theorem dX5_putNext_28 : decode cX5_putNext 28 = .ok (.imul, 1) := by decide +kernel
theorem dX5_putNext_29 : decode cX5_putNext 29 = .ok (.iload_n 1, 1) := by decide +kernel
theorem dX5_putNext_30 : decode cX5_putNext 30 = .ok (.iadd, 1) := by decide +kernel
theorem dX5_putNext_31 : decode cX5_putNext 31 = .ok (.lload_n 2, 1) := by decide +kernel
theorem dX5_putNext_32 : decode cX5_putNext 32 = .ok (.lastore, 1) := by decide +kernel
theorem dX5_putNext_33 : decode cX5_putNext 33 = .ok (.return_, 1) := by decide +kernel
theorem b_X5_putNext_0 {h : Nat} {L : LVs} {st : List AV} {S : ST} {Q : Option AV → ST → Prop} (k : o_al L st S (fun L st S => o_get L st S (fun L st S => o_c L st S (fun L st S => t_2 L st S (fun x y => y ≤ x) (fun L st S => V MX5_putNext h 33 L st S Q) (fun L st S => V MX5_putNext h 10 L st S Q)) (nI 576)) 5 3 (0, 0, 0)) 0) : V MX5_putNext h 0 L st S Q :=
  v_aload_n dX5_putNext_0 rfl (fun L st S k => v_get dX5_putNext_1 rfl iX5 LY_5 rfl (by decide) rfl fl_X5_22 (fun L st S k => v_sipush dX5_putNext_4 (by decide) (fun L st S k => w_icmp_ge dX5_putNext_7 (by decide) rfl k) k) k) k
theorem b_X5_putNext_10 {h : Nat} {L : LVs} {st : List AV} {S : ST} {Q : Option AV → ST → Prop} (k : o_il L st S (fun L st S => t_1 L st S (fun x => x < nI 0) (fun L st S => V MX5_putNext h 33 L st S Q) (fun L st S => V MX5_putNext h 14 L st S Q)) 1) : V MX5_putNext h 10 L st S Q :=
  v_iload_n dX5_putNext_10 rfl (fun L st S k => w_if_lt dX5_putNext_11 (by decide) rfl k) k
theorem b_X5_putNext_14 {h : Nat} {L : LVs} {st : List AV} {S : ST} {Q : Option AV → ST → Prop} (k : o_il L st S (fun L st S => o_c L st S (fun L st S => t_2 L st S (fun x y => y ≤ x) (fun L st S => V MX5_putNext h 33 L st S Q) (fun L st S => V MX5_putNext h 19 L st S Q)) (nI 4)) 1) : V MX5_putNext h 14 L st S Q :=
  v_iload_n dX5_putNext_14 rfl (fun L st S k => v_iconst dX5_putNext_15 (by decide) (fun L st S k => w_icmp_ge dX5_putNext_16 (by decide) rfl k) k) k
theorem b_X5_putNext_19 {h : Nat} {L : LVs} {st : List AV} {S : ST} {Q : Option AV → ST → Prop} (k : o_al L st S (fun L st S => o_get L st S (fun L st S => o_al L st S (fun L st S => o_get L st S (fun L st S => o_c L st S (fun L st S => o_imul L st S (fun L st S => o_il L st S (fun L st S => o_iadd L st S (fun L st S => o_ll L st S (fun L st S => o_last L st S (fun L st S => V MX5_putNext h 33 L st S Q)) 2)) 1)) (nI 4)) 5 3 (0, 0, 0)) 0) 5 0 (3, 18, 0)) 0) : V MX5_putNext h 19 L st S Q :=
  v_aload_n dX5_putNext_19 rfl (fun L st S k => v_get dX5_putNext_20 rfl iX5 LY_5 rfl (by decide) rfl fl_X5_9 (fun L st S k => v_aload_n dX5_putNext_23 rfl (fun L st S k => v_get dX5_putNext_24 rfl iX5 LY_5 rfl (by decide) rfl fl_X5_22 (fun L st S k => v_iconst dX5_putNext_27 (by decide) (fun L st S k => v_imul dX5_putNext_28 (fun L st S k => v_iload_n dX5_putNext_29 rfl (fun L st S k => v_iadd dX5_putNext_30 (fun L st S k => v_lload_n dX5_putNext_31 rfl (fun L st S k => v_lastore dX5_putNext_32 (fun L st S k => k) k) k) k) k) k) k) k) k) k) k
theorem b_X5_putNext_33 {h : Nat} {L : LVs} {st : List AV} {S : ST} {Q : Option AV → ST → Prop} (k : t_vr st S Q) : V MX5_putNext h 33 L st S Q :=
  w_vr dX5_putNext_33 rfl k
-- QueryForge$Result.append()V
theorem dX5_append_0 : decode cX5_append 0 = .ok (.aload_n 0, 1) := by decide +kernel
theorem dX5_append_1 : decode cX5_append 1 = .ok (.getfield 22, 3) := by decide +kernel
theorem dX5_append_4 : decode cX5_append 4 = .ok (.sipush 576, 3) := by decide +kernel
theorem dX5_append_7 : decode cX5_append 7 = .ok (.if_icmp .ge 26, 3) := by decide +kernel
theorem dX5_append_10 : decode cX5_append 10 = .ok (.aload_n 0, 1) := by decide +kernel
theorem dX5_append_11 : decode cX5_append 11 = .ok (.getfield 15, 3) := by decide +kernel
theorem dX5_append_14 : decode cX5_append 14 = .ok (.aload_n 0, 1) := by decide +kernel
theorem dX5_append_15 : decode cX5_append 15 = .ok (.getfield 22, 3) := by decide +kernel
theorem dX5_append_18 : decode cX5_append 18 = .ok (.aload_n 0, 1) := by decide +kernel
theorem dX5_append_19 : decode cX5_append 19 = .ok (.getfield 22, 3) := by decide +kernel
theorem dX5_append_22 : decode cX5_append 22 = .ok (.iastore, 1) := by decide +kernel
theorem dX5_append_23 : decode cX5_append 23 = .ok (.aload_n 0, 1) := by decide +kernel
theorem dX5_append_24 : decode cX5_append 24 = .ok (.dup, 1) := by decide +kernel
theorem dX5_append_25 : decode cX5_append 25 = .ok (.getfield 22, 3) := by decide +kernel
theorem dX5_append_28 : decode cX5_append 28 = .ok (.iconst 1, 1) := by decide +kernel
theorem dX5_append_29 : decode cX5_append 29 = .ok (.iadd, 1) := by decide +kernel
theorem dX5_append_30 : decode cX5_append 30 = .ok (.putfield 22, 3) := by decide +kernel
theorem dX5_append_33 : decode cX5_append 33 = .ok (.return_, 1) := by decide +kernel
theorem b_X5_append_0 {h : Nat} {L : LVs} {st : List AV} {S : ST} {Q : Option AV → ST → Prop} (k : o_al L st S (fun L st S => o_get L st S (fun L st S => o_c L st S (fun L st S => t_2 L st S (fun x y => y ≤ x) (fun L st S => V MX5_append h 33 L st S Q) (fun L st S => V MX5_append h 10 L st S Q)) (nI 576)) 5 3 (0, 0, 0)) 0) : V MX5_append h 0 L st S Q :=
  v_aload_n dX5_append_0 rfl (fun L st S k => v_get dX5_append_1 rfl iX5 LY_5 rfl (by decide) rfl fl_X5_22 (fun L st S k => v_sipush dX5_append_4 (by decide) (fun L st S k => w_icmp_ge dX5_append_7 (by decide) rfl k) k) k) k
theorem b_X5_append_10 {h : Nat} {L : LVs} {st : List AV} {S : ST} {Q : Option AV → ST → Prop} (k : o_al L st S (fun L st S => o_get L st S (fun L st S => o_al L st S (fun L st S => o_get L st S (fun L st S => o_al L st S (fun L st S => o_get L st S (fun L st S => o_iast L st S (fun L st S => o_al L st S (fun L st S => o_dup L st S (fun L st S => o_get L st S (fun L st S => o_c L st S (fun L st S => o_iadd L st S (fun L st S => o_puti L st S (fun L st S => V MX5_append h 33 L st S Q) 5 3)) (nI 1)) 5 3 (0, 0, 0))) 0)) 5 3 (0, 0, 0)) 0) 5 3 (0, 0, 0)) 0) 5 1 (3, 20, 0)) 0) : V MX5_append h 10 L st S Q :=
  v_aload_n dX5_append_10 rfl (fun L st S k => v_get dX5_append_11 rfl iX5 LY_5 rfl (by decide) rfl fl_X5_15 (fun L st S k => v_aload_n dX5_append_14 rfl (fun L st S k => v_get dX5_append_15 rfl iX5 LY_5 rfl (by decide) rfl fl_X5_22 (fun L st S k => v_aload_n dX5_append_18 rfl (fun L st S k => v_get dX5_append_19 rfl iX5 LY_5 rfl (by decide) rfl fl_X5_22 (fun L st S k => v_iastore dX5_append_22 (fun L st S k => v_aload_n dX5_append_23 rfl (fun L st S k => v_dup dX5_append_24 (fun L st S k => v_get dX5_append_25 rfl iX5 LY_5 rfl (by decide) rfl fl_X5_22 (fun L st S k => v_iconst dX5_append_28 (by decide) (fun L st S k => v_iadd dX5_append_29 (fun L st S k => v_puti dX5_append_30 rfl iX5 tyX5_ok nmX5 LY_5 rfl (by decide) rfl fl_X5_22 rfl rfl (fun L st S k => k) k) k) k) k) k) k) k) k) k) k) k) k) k
theorem b_X5_append_33 {h : Nat} {L : LVs} {st : List AV} {S : ST} {Q : Option AV → ST → Prop} (k : t_vr st S Q) : V MX5_append h 33 L st S Q :=
  w_vr dX5_append_33 rfl k
-- QueryForge$Result.appendMissing()V
theorem dX5_appendMissing_0 : decode cX5_appendMissing 0 = .ok (.iconst 0, 1) := by decide +kernel
theorem dX5_appendMissing_1 : decode cX5_appendMissing 1 = .ok (.istore_n 1, 1) := by decide +kernel
theorem dX5_appendMissing_2 : decode cX5_appendMissing 2 = .ok (.iload_n 1, 1) := by decide +kernel
theorem dX5_appendMissing_3 : decode cX5_appendMissing 3 = .ok (.iconst 4, 1) := by decide +kernel
theorem dX5_appendMissing_4 : decode cX5_appendMissing 4 = .ok (.if_icmp .ge 17, 3) := by decide +kernel
theorem dX5_appendMissing_7 : decode cX5_appendMissing 7 = .ok (.aload_n 0, 1) := by decide +kernel
theorem dX5_appendMissing_8 : decode cX5_appendMissing 8 = .ok (.iload_n 1, 1) := by decide +kernel
theorem dX5_appendMissing_9 : decode cX5_appendMissing 9 = .ok (.ldc2_w 33, 3) := by decide +kernel
theorem dX5_appendMissing_12 : decode cX5_appendMissing 12 = .ok (.invokevirtual 35, 3) := by decide +kernel
theorem dX5_appendMissing_15 : decode cX5_appendMissing 15 = .ok (.iinc 1 1, 3) := by decide +kernel
theorem dX5_appendMissing_18 : decode cX5_appendMissing 18 = .ok (.goto (-16), 3) := by decide +kernel
theorem dX5_appendMissing_21 : decode cX5_appendMissing 21 = .ok (.aload_n 0, 1) := by decide +kernel
theorem dX5_appendMissing_22 : decode cX5_appendMissing 22 = .ok (.invokevirtual 39, 3) := by decide +kernel
theorem dX5_appendMissing_25 : decode cX5_appendMissing 25 = .ok (.return_, 1) := by decide +kernel
theorem b_X5_appendMissing_0 {h : Nat} {L : LVs} {st : List AV} {S : ST} {Q : Option AV → ST → Prop} (k : o_c L st S (fun L st S => o_is L st S (fun L st S => V MX5_appendMissing h 2 L st S Q) 1) (nI 0)) : V MX5_appendMissing h 0 L st S Q :=
  v_iconst dX5_appendMissing_0 (by decide) (fun L st S k => v_istore_n dX5_appendMissing_1 rfl (by decide) (fun L st S k => k) k) k
theorem b_X5_appendMissing_2 {h : Nat} {L : LVs} {st : List AV} {S : ST} {Q : Option AV → ST → Prop} (k : o_il L st S (fun L st S => o_c L st S (fun L st S => t_2 L st S (fun x y => y ≤ x) (fun L st S => V MX5_appendMissing h 21 L st S Q) (fun L st S => V MX5_appendMissing h 7 L st S Q)) (nI 4)) 1) : V MX5_appendMissing h 2 L st S Q :=
  v_iload_n dX5_appendMissing_2 rfl (fun L st S k => v_iconst dX5_appendMissing_3 (by decide) (fun L st S k => w_icmp_ge dX5_appendMissing_4 (by decide) rfl k) k) k
theorem b_X5_appendMissing_7 {h : Nat} {L : LVs} {st : List AV} {S : ST} {Q : Option AV → ST → Prop} (k : o_al L st S (fun L st S => o_il L st S (fun L st S => o_lc L st S (fun L st S => V MX5_appendMissing h 12 L st S Q) (-4611686018427387904)) 1) 0) : V MX5_appendMissing h 7 L st S Q :=
  v_aload_n dX5_appendMissing_7 rfl (fun L st S k => v_iload_n dX5_appendMissing_8 rfl (fun L st S k => v_ldc2 dX5_appendMissing_9 kl_X5_33 (fun L st S k => k) k) k) k
theorem k_X5_appendMissing_12 {h : Nat} {L : LVs} {st : List AV} {S : ST} {Q Q' : Option AV → ST → Prop} {j : Nat} {a0 a1 : AV} (hC : Ct MX5_putNext h [vR 5 j, a0, a1] S Q') (k : ∀ (r : Option AV) (S' : ST), Q' r S' → V MX5_appendMissing (h + 1) 15 L (r.toList ++ st) S' Q) (hj : j < NI 5) (hw : wid st ≤ 8) : V MX5_appendMissing (h + 1) 12 L (a1 :: a0 :: vR 5 j :: st) S Q :=
  v_callV (M' := MX5_putNext) (c := 5) (As := [a0, a1]) dX5_appendMissing_12 ml_X5_35 im_X5_putNext se_X5_putNext in_X5 cd_X5_putNext rfl LY_5 np_X5_putNext (by decide) hw hj hC k
theorem b_X5_appendMissing_15 {h : Nat} {L : LVs} {st : List AV} {S : ST} {Q : Option AV → ST → Prop} (k : o_inc L st S (fun L st S => V MX5_appendMissing h 2 L st S Q) 1 (nI 1)) : V MX5_appendMissing h 15 L st S Q :=
  v_iinc dX5_appendMissing_15 (by decide) (by decide) (fun L st S k => v_goto dX5_appendMissing_18 (by decide) k) k
theorem b_X5_appendMissing_21 {h : Nat} {L : LVs} {st : List AV} {S : ST} {Q : Option AV → ST → Prop} (k : o_al L st S (fun L st S => V MX5_appendMissing h 22 L st S Q) 0) : V MX5_appendMissing h 21 L st S Q :=
  v_aload_n dX5_appendMissing_21 rfl (fun L st S k => k) k
theorem k_X5_appendMissing_22 {h : Nat} {L : LVs} {st : List AV} {S : ST} {Q Q' : Option AV → ST → Prop} {j : Nat} (hC : Ct MX5_append h [vR 5 j] S Q') (k : ∀ (r : Option AV) (S' : ST), Q' r S' → V MX5_appendMissing (h + 1) 25 L (r.toList ++ st) S' Q) (hj : j < NI 5) (hw : wid st ≤ 8) : V MX5_appendMissing (h + 1) 22 L (vR 5 j :: st) S Q :=
  v_callV (M' := MX5_append) (c := 5) (As := []) dX5_appendMissing_22 ml_X5_39 im_X5_append se_X5_append in_X5 cd_X5_append rfl LY_5 np_X5_append (by decide) hw hj hC k
theorem b_X5_appendMissing_25 {h : Nat} {L : LVs} {st : List AV} {S : ST} {Q : Option AV → ST → Prop} (k : t_vr st S Q) : V MX5_appendMissing h 25 L st S Q :=
  w_vr dX5_appendMissing_25 rfl k
-- QueryForge$Result.set(IIJ)V
theorem dX5_set_0 : decode cX5_set 0 = .ok (.aload_n 0, 1) := by decide +kernel
theorem dX5_set_1 : decode cX5_set 1 = .ok (.iload_n 1, 1) := by decide +kernel
theorem dX5_set_2 : decode cX5_set 2 = .ok (.iload_n 2, 1) := by decide +kernel
theorem dX5_set_3 : decode cX5_set 3 = .ok (.invokevirtual 29, 3) := by decide +kernel
theorem dX5_set_6 : decode cX5_set 6 = .ok (.ifCond .eq 19, 3) := by decide +kernel
theorem dX5_set_9 : decode cX5_set 9 = .ok (.aload_n 0, 1) := by decide +kernel
theorem dX5_set_10 : decode cX5_set 10 = .ok (.getfield 9, 3) := by decide +kernel
theorem dX5_set_13 : decode cX5_set 13 = .ok (.aload_n 0, 1) := by decide +kernel
theorem dX5_set_14 : decode cX5_set 14 = .ok (.getfield 15, 3) := by decide +kernel
theorem dX5_set_17 : decode cX5_set 17 = .ok (.iload_n 1, 1) := by decide +kernel
theorem dX5_set_18 : decode cX5_set 18 = .ok (.iaload, 1) := by decide +kernel
theorem dX5_set_19 : decode cX5_set 19 = .ok (.iconst 4, 1) := by decide +kernel
theorem dX5_set_20 : decode cX5_set 20 = .ok (.imul, 1) := by decide +kernel
theorem dX5_set_21 : decode cX5_set 21 = .ok (.iload_n 2, 1) := by decide +kernel
theorem dX5_set_22 : decode cX5_set 22 = .ok (.iadd, 1) := by decide +kernel
theorem dX5_set_23 : decode cX5_set 23 = .ok (.lload_n 3, 1) := by decide +kernel
theorem dX5_set_24 : decode cX5_set 24 = .ok (.lastore, 1) := by decide +kernel
theorem dX5_set_25 : decode cX5_set 25 = .ok (.return_, 1) := by decide +kernel
theorem b_X5_set_0 {h : Nat} {L : LVs} {st : List AV} {S : ST} {Q : Option AV → ST → Prop} (k : o_al L st S (fun L st S => o_il L st S (fun L st S => o_il L st S (fun L st S => V MX5_set h 3 L st S Q) 2) 1) 0) : V MX5_set h 0 L st S Q :=
  v_aload_n dX5_set_0 rfl (fun L st S k => v_iload_n dX5_set_1 rfl (fun L st S k => v_iload_n dX5_set_2 rfl (fun L st S k => k) k) k) k
theorem k_X5_set_3 {h : Nat} {L : LVs} {st : List AV} {S : ST} {Q Q' : Option AV → ST → Prop} {j : Nat} {a0 a1 : AV} (hC : Ct MX5_isInside h [vR 5 j, a0, a1] S Q') (k : ∀ (r : Option AV) (S' : ST), Q' r S' → V MX5_set (h + 1) 6 L (r.toList ++ st) S' Q) (hj : j < NI 5) (hw : wid st ≤ 8) : V MX5_set (h + 1) 3 L (a1 :: a0 :: vR 5 j :: st) S Q :=
  v_callV (M' := MX5_isInside) (c := 5) (As := [a0, a1]) dX5_set_3 ml_X5_29 im_X5_isInside se_X5_isInside in_X5 cd_X5_isInside rfl LY_5 np_X5_isInside (by decide) hw hj hC k
theorem b_X5_set_6 {h : Nat} {L : LVs} {st : List AV} {S : ST} {Q : Option AV → ST → Prop} (k : t_1 L st S (fun x => x = nI 0) (fun L st S => V MX5_set h 25 L st S Q) (fun L st S => V MX5_set h 9 L st S Q)) : V MX5_set h 6 L st S Q :=
  w_if_eq dX5_set_6 (by decide) rfl k
theorem b_X5_set_9 {h : Nat} {L : LVs} {st : List AV} {S : ST} {Q : Option AV → ST → Prop} (k : o_al L st S (fun L st S => o_get L st S (fun L st S => o_al L st S (fun L st S => o_get L st S (fun L st S => o_il L st S (fun L st S => o_iald L st S (fun L st S => o_c L st S (fun L st S => o_imul L st S (fun L st S => o_il L st S (fun L st S => o_iadd L st S (fun L st S => o_ll L st S (fun L st S => o_last L st S (fun L st S => V MX5_set h 25 L st S Q)) 3)) 2)) (nI 4))) 1) 5 1 (3, 20, 0)) 0) 5 0 (3, 18, 0)) 0) : V MX5_set h 9 L st S Q :=
  v_aload_n dX5_set_9 rfl (fun L st S k => v_get dX5_set_10 rfl iX5 LY_5 rfl (by decide) rfl fl_X5_9 (fun L st S k => v_aload_n dX5_set_13 rfl (fun L st S k => v_get dX5_set_14 rfl iX5 LY_5 rfl (by decide) rfl fl_X5_15 (fun L st S k => v_iload_n dX5_set_17 rfl (fun L st S k => v_iaload dX5_set_18 (fun L st S k => v_iconst dX5_set_19 (by decide) (fun L st S k => v_imul dX5_set_20 (fun L st S k => v_iload_n dX5_set_21 rfl (fun L st S k => v_iadd dX5_set_22 (fun L st S k => v_lload_n dX5_set_23 rfl (fun L st S k => v_lastore dX5_set_24 (fun L st S k => k) k) k) k) k) k) k) k) k) k) k) k) k
theorem b_X5_set_25 {h : Nat} {L : LVs} {st : List AV} {S : ST} {Q : Option AV → ST → Prop} (k : t_vr st S Q) : V MX5_set h 25 L st S Q :=
  w_vr dX5_set_25 rfl k
-- QueryForge$Result.findFirstItem(J)I
theorem dX5_findFirstItem_0 : decode cX5_findFirstItem 0 = .ok (.iconst 0, 1) := by decide +kernel
theorem dX5_findFirstItem_1 : decode cX5_findFirstItem 1 = .ok (.istore_n 3, 1) := by decide +kernel
theorem dX5_findFirstItem_2 : decode cX5_findFirstItem 2 = .ok (.iload_n 3, 1) := by decide +kernel
theorem dX5_findFirstItem_3 : decode cX5_findFirstItem 3 = .ok (.aload_n 0, 1) := by decide +kernel
theorem dX5_findFirstItem_4 : decode cX5_findFirstItem 4 = .ok (.getfield 22, 3) := by decide +kernel
theorem dX5_findFirstItem_7 : decode cX5_findFirstItem 7 = .ok (.if_icmp .ge 22, 3) := by decide +kernel
theorem dX5_findFirstItem_10 : decode cX5_findFirstItem 10 = .ok (.aload_n 0, 1) := by decide +kernel
theorem dX5_findFirstItem_11 : decode cX5_findFirstItem 11 = .ok (.iload_n 3, 1) := by decide +kernel
theorem dX5_findFirstItem_12 : decode cX5_findFirstItem 12 = .ok (.iconst 0, 1) := by decide +kernel
theorem dX5_findFirstItem_13 : decode cX5_findFirstItem 13 = .ok (.invokevirtual 42, 3) := by decide +kernel
theorem dX5_findFirstItem_16 : decode cX5_findFirstItem 16 = .ok (.lload_n 1, 1) := by decide +kernel
theorem dX5_findFirstItem_17 : decode cX5_findFirstItem 17 = .ok (.lcmp, 1) := by decide +kernel
theorem dX5_findFirstItem_18 : decode cX5_findFirstItem 18 = .ok (.ifCond .ne 5, 3) := by decide +kernel
theorem dX5_findFirstItem_21 : decode cX5_findFirstItem 21 = .ok (.iload_n 3, 1) := by decide +kernel
theorem dX5_findFirstItem_22 : decode cX5_findFirstItem 22 = .ok (.ireturn, 1) := by decide +kernel
theorem dX5_findFirstItem_23 : decode cX5_findFirstItem 23 = .ok (.iinc 3 1, 3) := by decide +kernel
theorem dX5_findFirstItem_26 : decode cX5_findFirstItem 26 = .ok (.goto (-24), 3) := by decide +kernel
theorem dX5_findFirstItem_29 : decode cX5_findFirstItem 29 = .ok (.iconst (-1), 1) := by decide +kernel
theorem dX5_findFirstItem_30 : decode cX5_findFirstItem 30 = .ok (.ireturn, 1) := by decide +kernel
theorem b_X5_findFirstItem_0 {h : Nat} {L : LVs} {st : List AV} {S : ST} {Q : Option AV → ST → Prop} (k : o_c L st S (fun L st S => o_is L st S (fun L st S => V MX5_findFirstItem h 2 L st S Q) 3) (nI 0)) : V MX5_findFirstItem h 0 L st S Q :=
  v_iconst dX5_findFirstItem_0 (by decide) (fun L st S k => v_istore_n dX5_findFirstItem_1 rfl (by decide) (fun L st S k => k) k) k
theorem b_X5_findFirstItem_2 {h : Nat} {L : LVs} {st : List AV} {S : ST} {Q : Option AV → ST → Prop} (k : o_il L st S (fun L st S => o_al L st S (fun L st S => o_get L st S (fun L st S => t_2 L st S (fun x y => y ≤ x) (fun L st S => V MX5_findFirstItem h 29 L st S Q) (fun L st S => V MX5_findFirstItem h 10 L st S Q)) 5 3 (0, 0, 0)) 0) 3) : V MX5_findFirstItem h 2 L st S Q :=
  v_iload_n dX5_findFirstItem_2 rfl (fun L st S k => v_aload_n dX5_findFirstItem_3 rfl (fun L st S k => v_get dX5_findFirstItem_4 rfl iX5 LY_5 rfl (by decide) rfl fl_X5_22 (fun L st S k => w_icmp_ge dX5_findFirstItem_7 (by decide) rfl k) k) k) k
theorem b_X5_findFirstItem_10 {h : Nat} {L : LVs} {st : List AV} {S : ST} {Q : Option AV → ST → Prop} (k : o_al L st S (fun L st S => o_il L st S (fun L st S => o_c L st S (fun L st S => V MX5_findFirstItem h 13 L st S Q) (nI 0)) 3) 0) : V MX5_findFirstItem h 10 L st S Q :=
  v_aload_n dX5_findFirstItem_10 rfl (fun L st S k => v_iload_n dX5_findFirstItem_11 rfl (fun L st S k => v_iconst dX5_findFirstItem_12 (by decide) (fun L st S k => k) k) k) k
theorem k_X5_findFirstItem_13 {h : Nat} {L : LVs} {st : List AV} {S : ST} {Q Q' : Option AV → ST → Prop} {j : Nat} {a0 a1 : AV} (hC : Ct MX5_heldAt h [vR 5 j, a0, a1] S Q') (k : ∀ (r : Option AV) (S' : ST), Q' r S' → V MX5_findFirstItem (h + 1) 16 L (r.toList ++ st) S' Q) (hj : j < NI 5) (hw : wid st ≤ 8) : V MX5_findFirstItem (h + 1) 13 L (a1 :: a0 :: vR 5 j :: st) S Q :=
  v_callV (M' := MX5_heldAt) (c := 5) (As := [a0, a1]) dX5_findFirstItem_13 ml_X5_42 im_X5_heldAt se_X5_heldAt in_X5 cd_X5_heldAt rfl LY_5 np_X5_heldAt (by decide) hw hj hC k
theorem b_X5_findFirstItem_16 {h : Nat} {L : LVs} {st : List AV} {S : ST} {Q : Option AV → ST → Prop} (k : o_ll L st S (fun L st S => o_lcmp L st S (fun L st S => t_1 L st S (fun x => x = nI 0) (fun L st S => V MX5_findFirstItem h 21 L st S Q) (fun L st S => V MX5_findFirstItem h 23 L st S Q))) 1) : V MX5_findFirstItem h 16 L st S Q :=
  v_lload_n dX5_findFirstItem_16 rfl (fun L st S k => v_lcmp dX5_findFirstItem_17 (fun L st S k => w_if_ne dX5_findFirstItem_18 (by decide) rfl k) k) k
theorem b_X5_findFirstItem_21 {h : Nat} {L : LVs} {st : List AV} {S : ST} {Q : Option AV → ST → Prop} (k : o_il L st S (fun L st S => t_ir st S Q) 3) : V MX5_findFirstItem h 21 L st S Q :=
  v_iload_n dX5_findFirstItem_21 rfl (fun L st S k => w_ir dX5_findFirstItem_22 rfl k) k
theorem b_X5_findFirstItem_23 {h : Nat} {L : LVs} {st : List AV} {S : ST} {Q : Option AV → ST → Prop} (k : o_inc L st S (fun L st S => V MX5_findFirstItem h 2 L st S Q) 3 (nI 1)) : V MX5_findFirstItem h 23 L st S Q :=
  v_iinc dX5_findFirstItem_23 (by decide) (by decide) (fun L st S k => v_goto dX5_findFirstItem_26 (by decide) k) k
theorem b_X5_findFirstItem_29 {h : Nat} {L : LVs} {st : List AV} {S : ST} {Q : Option AV → ST → Prop} (k : o_c L st S (fun L st S => t_ir st S Q) (-1)) : V MX5_findFirstItem h 29 L st S Q :=
  v_iconst dX5_findFirstItem_29 (by decide) (fun L st S k => w_ir dX5_findFirstItem_30 rfl k) k
-- QueryForge$Result.sort(IZ)V
theorem dX5_sort_0 : decode cX5_sort 0 = .ok (.iload_n 1, 1) := by decide +kernel
theorem dX5_sort_1 : decode cX5_sort 1 = .ok (.ifCond .lt 8, 3) := by decide +kernel
theorem dX5_sort_4 : decode cX5_sort 4 = .ok (.iload_n 1, 1) := by decide +kernel
theorem dX5_sort_5 : decode cX5_sort 5 = .ok (.iconst 4, 1) := by decide +kernel
theorem dX5_sort_6 : decode cX5_sort 6 = .ok (.if_icmp .lt 4, 3) := by decide +kernel
theorem dX5_sort_9 : decode cX5_sort 9 = .ok (.return_, 1) := by decide +kernel
theorem dX5_sort_10 : decode cX5_sort 10 = .ok (.iconst 1, 1) := by decide +kernel
theorem dX5_sort_11 : decode cX5_sort 11 = .ok (.istore_n 3, 1) := by decide +kernel
theorem dX5_sort_12 : decode cX5_sort 12 = .ok (.iload_n 3, 1) := by decide +kernel
theorem dX5_sort_13 : decode cX5_sort 13 = .ok (.aload_n 0, 1) := by decide +kernel
theorem dX5_sort_14 : decode cX5_sort 14 = .ok (.getfield 22, 3) := by decide +kernel
theorem dX5_sort_17 : decode cX5_sort 17 = .ok (.if_icmp .ge 88, 3) := by decide +kernel
theorem dX5_sort_20 : decode cX5_sort 20 = .ok (.iconst 0, 1) := by decide +kernel
theorem dX5_sort_21 : decode cX5_sort 21 = .ok (.istore 4, 2) := by decide +kernel
theorem dX5_sort_23 : decode cX5_sort 23 = .ok (.iload 4, 2) := by decide +kernel
theorem dX5_sort_25 : decode cX5_sort 25 = .ok (.aload_n 0, 1) := by decide +kernel
theorem dX5_sort_26 : decode cX5_sort 26 = .ok (.getfield 22, 3) := by decide +kernel
theorem dX5_sort_29 : decode cX5_sort 29 = .ok (.if_icmp .ge 52, 3) := by decide +kernel
theorem dX5_sort_32 : decode cX5_sort 32 = .ok (.iload 4, 2) := by decide +kernel
theorem dX5_sort_34 : decode cX5_sort 34 = .ok (.iload_n 3, 1) := by decide +kernel
theorem dX5_sort_35 : decode cX5_sort 35 = .ok (.iadd, 1) := by decide +kernel
theorem dX5_sort_36 : decode cX5_sort 36 = .ok (.aload_n 0, 1) := by decide +kernel
theorem dX5_sort_37 : decode cX5_sort 37 = .ok (.getfield 22, 3) := by decide +kernel
theorem dX5_sort_40 : decode cX5_sort 40 = .ok (.invokestatic 46, 3) := by decide +kernel
theorem dX5_sort_43 : decode cX5_sort 43 = .ok (.istore 5, 2) := by decide +kernel
theorem dX5_sort_45 : decode cX5_sort 45 = .ok (.iload 5, 2) := by decide +kernel
theorem dX5_sort_47 : decode cX5_sort 47 = .ok (.iload_n 3, 1) := by decide +kernel
theorem dX5_sort_48 : decode cX5_sort 48 = .ok (.iadd, 1) := by decide +kernel
theorem dX5_sort_49 : decode cX5_sort 49 = .ok (.aload_n 0, 1) := by decide +kernel
theorem dX5_sort_50 : decode cX5_sort 50 = .ok (.getfield 22, 3) := by decide +kernel
theorem dX5_sort_53 : decode cX5_sort 53 = .ok (.invokestatic 46, 3) := by decide +kernel
theorem dX5_sort_56 : decode cX5_sort 56 = .ok (.istore 6, 2) := by decide +kernel
theorem dX5_sort_58 : decode cX5_sort 58 = .ok (.aload_n 0, 1) := by decide +kernel
theorem dX5_sort_59 : decode cX5_sort 59 = .ok (.iload 4, 2) := by decide +kernel
theorem dX5_sort_61 : decode cX5_sort 61 = .ok (.iload 5, 2) := by decide +kernel
theorem dX5_sort_63 : decode cX5_sort 63 = .ok (.iload 6, 2) := by decide +kernel
theorem dX5_sort_65 : decode cX5_sort 65 = .ok (.iload_n 1, 1) := by decide +kernel
theorem dX5_sort_66 : decode cX5_sort 66 = .ok (.iload_n 2, 1) := by decide +kernel
theorem dX5_sort_67 : decode cX5_sort 67 = .ok (.invokevirtual 52, 3) := by decide +kernel
theorem dX5_sort_70 : decode cX5_sort 70 = .ok (.iload 4, 2) := by decide +kernel
theorem dX5_sort_72 : decode cX5_sort 72 = .ok (.iconst 2, 1) := by decide +kernel
theorem dX5_sort_73 : decode cX5_sort 73 = .ok (.iload_n 3, 1) := by decide +kernel
theorem dX5_sort_74 : decode cX5_sort 74 = .ok (.imul, 1) := by decide +kernel
theorem dX5_sort_75 : decode cX5_sort 75 = .ok (.iadd, 1) := by decide +kernel
theorem dX5_sort_76 : decode cX5_sort 76 = .ok (.istore 4, 2) := by decide +kernel
theorem dX5_sort_78 : decode cX5_sort 78 = .ok (.goto (-55), 3) := by decide +kernel
theorem dX5_sort_81 : decode cX5_sort 81 = .ok (.aload_n 0, 1) := by decide +kernel
theorem dX5_sort_82 : decode cX5_sort 82 = .ok (.getfield 19, 3) := by decide +kernel
theorem dX5_sort_85 : decode cX5_sort 85 = .ok (.iconst 0, 1) := by decide +kernel
theorem dX5_sort_86 : decode cX5_sort 86 = .ok (.aload_n 0, 1) := by decide +kernel
theorem dX5_sort_87 : decode cX5_sort 87 = .ok (.getfield 15, 3) := by decide +kernel
theorem dX5_sort_90 : decode cX5_sort 90 = .ok (.iconst 0, 1) := by decide +kernel
theorem dX5_sort_91 : decode cX5_sort 91 = .ok (.aload_n 0, 1) := by decide +kernel
theorem dX5_sort_92 : decode cX5_sort 92 = .ok (.getfield 22, 3) := by decide +kernel
theorem dX5_sort_95 : decode cX5_sort 95 = .ok (.invokestatic 56, 3) := by decide +kernel
theorem dX5_sort_98 : decode cX5_sort 98 = .ok (.iload_n 3, 1) := by decide +kernel
theorem dX5_sort_99 : decode cX5_sort 99 = .ok (.iconst 2, 1) := by decide +kernel
theorem dX5_sort_100 : decode cX5_sort 100 = .ok (.imul, 1) := by decide +kernel
theorem dX5_sort_101 : decode cX5_sort 101 = .ok (.istore_n 3, 1) := by decide +kernel
theorem dX5_sort_102 : decode cX5_sort 102 = .ok (.goto (-90), 3) := by decide +kernel
theorem dX5_sort_105 : decode cX5_sort 105 = .ok (.return_, 1) := by decide +kernel
theorem b_X5_sort_0 {h : Nat} {L : LVs} {st : List AV} {S : ST} {Q : Option AV → ST → Prop} (k : o_il L st S (fun L st S => t_1 L st S (fun x => x < nI 0) (fun L st S => V MX5_sort h 9 L st S Q) (fun L st S => V MX5_sort h 4 L st S Q)) 1) : V MX5_sort h 0 L st S Q :=
  v_iload_n dX5_sort_0 rfl (fun L st S k => w_if_lt dX5_sort_1 (by decide) rfl k) k
theorem b_X5_sort_4 {h : Nat} {L : LVs} {st : List AV} {S : ST} {Q : Option AV → ST → Prop} (k : o_il L st S (fun L st S => o_c L st S (fun L st S => t_2 L st S (fun x y => x < y) (fun L st S => V MX5_sort h 10 L st S Q) (fun L st S => V MX5_sort h 9 L st S Q)) (nI 4)) 1) : V MX5_sort h 4 L st S Q :=
  v_iload_n dX5_sort_4 rfl (fun L st S k => v_iconst dX5_sort_5 (by decide) (fun L st S k => w_icmp_lt dX5_sort_6 (by decide) rfl k) k) k
theorem b_X5_sort_9 {h : Nat} {L : LVs} {st : List AV} {S : ST} {Q : Option AV → ST → Prop} (k : t_vr st S Q) : V MX5_sort h 9 L st S Q :=
  w_vr dX5_sort_9 rfl k
theorem b_X5_sort_10 {h : Nat} {L : LVs} {st : List AV} {S : ST} {Q : Option AV → ST → Prop} (k : o_c L st S (fun L st S => o_is L st S (fun L st S => V MX5_sort h 12 L st S Q) 3) (nI 1)) : V MX5_sort h 10 L st S Q :=
  v_iconst dX5_sort_10 (by decide) (fun L st S k => v_istore_n dX5_sort_11 rfl (by decide) (fun L st S k => k) k) k
theorem b_X5_sort_12 {h : Nat} {L : LVs} {st : List AV} {S : ST} {Q : Option AV → ST → Prop} (k : o_il L st S (fun L st S => o_al L st S (fun L st S => o_get L st S (fun L st S => t_2 L st S (fun x y => y ≤ x) (fun L st S => V MX5_sort h 105 L st S Q) (fun L st S => V MX5_sort h 20 L st S Q)) 5 3 (0, 0, 0)) 0) 3) : V MX5_sort h 12 L st S Q :=
  v_iload_n dX5_sort_12 rfl (fun L st S k => v_aload_n dX5_sort_13 rfl (fun L st S k => v_get dX5_sort_14 rfl iX5 LY_5 rfl (by decide) rfl fl_X5_22 (fun L st S k => w_icmp_ge dX5_sort_17 (by decide) rfl k) k) k) k
theorem b_X5_sort_20 {h : Nat} {L : LVs} {st : List AV} {S : ST} {Q : Option AV → ST → Prop} (k : o_c L st S (fun L st S => o_is L st S (fun L st S => V MX5_sort h 23 L st S Q) 4) (nI 0)) : V MX5_sort h 20 L st S Q :=
  v_iconst dX5_sort_20 (by decide) (fun L st S k => v_istore dX5_sort_21 (by decide) (fun L st S k => k) k) k
theorem b_X5_sort_23 {h : Nat} {L : LVs} {st : List AV} {S : ST} {Q : Option AV → ST → Prop} (k : o_il L st S (fun L st S => o_al L st S (fun L st S => o_get L st S (fun L st S => t_2 L st S (fun x y => y ≤ x) (fun L st S => V MX5_sort h 81 L st S Q) (fun L st S => V MX5_sort h 32 L st S Q)) 5 3 (0, 0, 0)) 0) 4) : V MX5_sort h 23 L st S Q :=
  v_iload dX5_sort_23 (fun L st S k => v_aload_n dX5_sort_25 rfl (fun L st S k => v_get dX5_sort_26 rfl iX5 LY_5 rfl (by decide) rfl fl_X5_22 (fun L st S k => w_icmp_ge dX5_sort_29 (by decide) rfl k) k) k) k
theorem b_X5_sort_32 {h : Nat} {L : LVs} {st : List AV} {S : ST} {Q : Option AV → ST → Prop} (k : o_il L st S (fun L st S => o_il L st S (fun L st S => o_iadd L st S (fun L st S => o_al L st S (fun L st S => o_get L st S (fun L st S => o_min L st S (fun L st S => o_is L st S (fun L st S => o_il L st S (fun L st S => o_il L st S (fun L st S => o_iadd L st S (fun L st S => o_al L st S (fun L st S => o_get L st S (fun L st S => o_min L st S (fun L st S => o_is L st S (fun L st S => o_al L st S (fun L st S => o_il L st S (fun L st S => o_il L st S (fun L st S => o_il L st S (fun L st S => o_il L st S (fun L st S => o_il L st S (fun L st S => V MX5_sort (h + 1) 67 L st S Q) 2) 1) 6) 5) 4) 0) 6)) 5 3 (0, 0, 0)) 0)) 3) 5) 5)) 5 3 (0, 0, 0)) 0)) 3) 4) : V MX5_sort (h + 1) 32 L st S Q :=
  v_iload dX5_sort_32 (fun L st S k => v_iload_n dX5_sort_34 rfl (fun L st S k => v_iadd dX5_sort_35 (fun L st S k => v_aload_n dX5_sort_36 rfl (fun L st S k => v_get dX5_sort_37 rfl iX5 LY_5 rfl (by decide) rfl fl_X5_22 (fun L st S k => v_min dX5_sort_40 mm_X5_46 (fun L st S k => v_istore dX5_sort_43 (by decide) (fun L st S k => v_iload dX5_sort_45 (fun L st S k => v_iload_n dX5_sort_47 rfl (fun L st S k => v_iadd dX5_sort_48 (fun L st S k => v_aload_n dX5_sort_49 rfl (fun L st S k => v_get dX5_sort_50 rfl iX5 LY_5 rfl (by decide) rfl fl_X5_22 (fun L st S k => v_min dX5_sort_53 mm_X5_46 (fun L st S k => v_istore dX5_sort_56 (by decide) (fun L st S k => v_aload_n dX5_sort_58 rfl (fun L st S k => v_iload dX5_sort_59 (fun L st S k => v_iload dX5_sort_61 (fun L st S k => v_iload dX5_sort_63 (fun L st S k => v_iload_n dX5_sort_65 rfl (fun L st S k => v_iload_n dX5_sort_66 rfl (fun L st S k => k) k) k) k) k) k) k) k) k) k) k) k) k) k) k) k) k) k) k) k) k
theorem k_X5_sort_67 {h : Nat} {L : LVs} {st : List AV} {S : ST} {Q Q' : Option AV → ST → Prop} {j : Nat} {a0 a1 a2 a3 a4 : AV} (hC : Ct MX5_merge h [vR 5 j, a0, a1, a2, a3, a4] S Q') (k : ∀ (r : Option AV) (S' : ST), Q' r S' → V MX5_sort (h + 1) 70 L (r.toList ++ st) S' Q) (hj : j < NI 5) (hw : wid st ≤ 8) : V MX5_sort (h + 1) 67 L (a4 :: a3 :: a2 :: a1 :: a0 :: vR 5 j :: st) S Q :=
  v_callV (M' := MX5_merge) (c := 5) (As := [a0, a1, a2, a3, a4]) dX5_sort_67 ml_X5_52 im_X5_merge se_X5_merge in_X5 cd_X5_merge rfl LY_5 np_X5_merge (by decide) hw hj hC k
theorem b_X5_sort_70 {h : Nat} {L : LVs} {st : List AV} {S : ST} {Q : Option AV → ST → Prop} (k : o_il L st S (fun L st S => o_c L st S (fun L st S => o_il L st S (fun L st S => o_imul L st S (fun L st S => o_iadd L st S (fun L st S => o_is L st S (fun L st S => V MX5_sort h 23 L st S Q) 4))) 3) (nI 2)) 4) : V MX5_sort h 70 L st S Q :=
  v_iload dX5_sort_70 (fun L st S k => v_iconst dX5_sort_72 (by decide) (fun L st S k => v_iload_n dX5_sort_73 rfl (fun L st S k => v_imul dX5_sort_74 (fun L st S k => v_iadd dX5_sort_75 (fun L st S k => v_istore dX5_sort_76 (by decide) (fun L st S k => v_goto dX5_sort_78 (by decide) k) k) k) k) k) k) k
theorem b_X5_sort_81 {h : Nat} {L : LVs} {st : List AV} {S : ST} {Q : Option AV → ST → Prop} (k : o_al L st S (fun L st S => o_get L st S (fun L st S => o_c L st S (fun L st S => o_al L st S (fun L st S => o_get L st S (fun L st S => o_c L st S (fun L st S => o_al L st S (fun L st S => o_get L st S (fun L st S => V MX5_sort h 95 L st S Q) 5 3 (0, 0, 0)) 0) (nI 0)) 5 1 (3, 20, 0)) 0) (nI 0)) 5 2 (3, 21, 0)) 0) : V MX5_sort h 81 L st S Q :=
  v_aload_n dX5_sort_81 rfl (fun L st S k => v_get dX5_sort_82 rfl iX5 LY_5 rfl (by decide) rfl fl_X5_19 (fun L st S k => v_iconst dX5_sort_85 (by decide) (fun L st S k => v_aload_n dX5_sort_86 rfl (fun L st S k => v_get dX5_sort_87 rfl iX5 LY_5 rfl (by decide) rfl fl_X5_15 (fun L st S k => v_iconst dX5_sort_90 (by decide) (fun L st S k => v_aload_n dX5_sort_91 rfl (fun L st S k => v_get dX5_sort_92 rfl iX5 LY_5 rfl (by decide) rfl fl_X5_22 (fun L st S k => k) k) k) k) k) k) k) k) k
-- by hand: X5_sort at 95: invokestatic ('java/lang/System', 'arraycopy', '(Ljava/lang/Object;ILjava/lang/Object;II)V')
theorem b_X5_sort_98 {h : Nat} {L : LVs} {st : List AV} {S : ST} {Q : Option AV → ST → Prop} (k : o_il L st S (fun L st S => o_c L st S (fun L st S => o_imul L st S (fun L st S => o_is L st S (fun L st S => V MX5_sort h 12 L st S Q) 3)) (nI 2)) 3) : V MX5_sort h 98 L st S Q :=
  v_iload_n dX5_sort_98 rfl (fun L st S k => v_iconst dX5_sort_99 (by decide) (fun L st S k => v_imul dX5_sort_100 (fun L st S k => v_istore_n dX5_sort_101 rfl (by decide) (fun L st S k => v_goto dX5_sort_102 (by decide) k) k) k) k) k
theorem b_X5_sort_105 {h : Nat} {L : LVs} {st : List AV} {S : ST} {Q : Option AV → ST → Prop} (k : t_vr st S Q) : V MX5_sort h 105 L st S Q :=
  w_vr dX5_sort_105 rfl k
-- QueryForge$Result.merge(IIIIZ)V
theorem dX5_merge_0 : decode cX5_merge 0 = .ok (.iload_n 1, 1) := by decide +kernel
theorem dX5_merge_1 : decode cX5_merge 1 = .ok (.istore 6, 2) := by decide +kernel
theorem dX5_merge_3 : decode cX5_merge 3 = .ok (.iload_n 2, 1) := by decide +kernel
theorem dX5_merge_4 : decode cX5_merge 4 = .ok (.istore 7, 2) := by decide +kernel
theorem dX5_merge_6 : decode cX5_merge 6 = .ok (.iload_n 1, 1) := by decide +kernel
theorem dX5_merge_7 : decode cX5_merge 7 = .ok (.istore 8, 2) := by decide +kernel
theorem dX5_merge_9 : decode cX5_merge 9 = .ok (.iload 8, 2) := by decide +kernel
theorem dX5_merge_11 : decode cX5_merge 11 = .ok (.iload_n 3, 1) := by decide +kernel
theorem dX5_merge_12 : decode cX5_merge 12 = .ok (.if_icmp .ge 125, 3) := by decide +kernel
theorem dX5_merge_15 : decode cX5_merge 15 = .ok (.iload 7, 2) := by decide +kernel
theorem dX5_merge_17 : decode cX5_merge 17 = .ok (.iload_n 3, 1) := by decide +kernel
theorem dX5_merge_18 : decode cX5_merge 18 = .ok (.if_icmp .ge 67, 3) := by decide +kernel
theorem dX5_merge_21 : decode cX5_merge 21 = .ok (.iload 6, 2) := by decide +kernel
theorem dX5_merge_23 : decode cX5_merge 23 = .ok (.iload_n 2, 1) := by decide +kernel
theorem dX5_merge_24 : decode cX5_merge 24 = .ok (.if_icmp .ge 57, 3) := by decide +kernel
theorem dX5_merge_27 : decode cX5_merge 27 = .ok (.iload 5, 2) := by decide +kernel
theorem dX5_merge_29 : decode cX5_merge 29 = .ok (.ifCond .eq 29, 3) := by decide +kernel
theorem dX5_merge_32 : decode cX5_merge 32 = .ok (.aload_n 0, 1) := by decide +kernel
theorem dX5_merge_33 : decode cX5_merge 33 = .ok (.aload_n 0, 1) := by decide +kernel
theorem dX5_merge_34 : decode cX5_merge 34 = .ok (.getfield 15, 3) := by decide +kernel
theorem dX5_merge_37 : decode cX5_merge 37 = .ok (.iload 6, 2) := by decide +kernel
theorem dX5_merge_39 : decode cX5_merge 39 = .ok (.iaload, 1) := by decide +kernel
theorem dX5_merge_40 : decode cX5_merge 40 = .ok (.aload_n 0, 1) := by decide +kernel
theorem dX5_merge_41 : decode cX5_merge 41 = .ok (.getfield 15, 3) := by decide +kernel
theorem dX5_merge_44 : decode cX5_merge 44 = .ok (.iload 7, 2) := by decide +kernel
theorem dX5_merge_46 : decode cX5_merge 46 = .ok (.iaload, 1) := by decide +kernel
theorem dX5_merge_47 : decode cX5_merge 47 = .ok (.iload 4, 2) := by decide +kernel
theorem dX5_merge_49 : decode cX5_merge 49 = .ok (.invokevirtual 62, 3) := by decide +kernel
theorem dX5_merge_52 : decode cX5_merge 52 = .ok (.ifCond .eq 33, 3) := by decide +kernel
theorem dX5_merge_55 : decode cX5_merge 55 = .ok (.goto 26, 3) := by decide +kernel
theorem dX5_merge_58 : decode cX5_merge 58 = .ok (.aload_n 0, 1) := by decide +kernel
theorem dX5_merge_59 : decode cX5_merge 59 = .ok (.aload_n 0, 1) := by decide +kernel
theorem dX5_merge_60 : decode cX5_merge 60 = .ok (.getfield 15, 3) := by decide +kernel
theorem dX5_merge_63 : decode cX5_merge 63 = .ok (.iload 7, 2) := by decide +kernel
theorem dX5_merge_65 : decode cX5_merge 65 = .ok (.iaload, 1) := by decide +kernel
theorem dX5_merge_66 : decode cX5_merge 66 = .ok (.aload_n 0, 1) := by decide +kernel
theorem dX5_merge_67 : decode cX5_merge 67 = .ok (.getfield 15, 3) := by decide +kernel
theorem dX5_merge_70 : decode cX5_merge 70 = .ok (.iload 6, 2) := by decide +kernel
theorem dX5_merge_72 : decode cX5_merge 72 = .ok (.iaload, 1) := by decide +kernel
theorem dX5_merge_73 : decode cX5_merge 73 = .ok (.iload 4, 2) := by decide +kernel
theorem dX5_merge_75 : decode cX5_merge 75 = .ok (.invokevirtual 62, 3) := by decide +kernel
theorem dX5_merge_78 : decode cX5_merge 78 = .ok (.ifCond .eq 7, 3) := by decide +kernel
theorem dX5_merge_81 : decode cX5_merge 81 = .ok (.iconst 1, 1) := by decide +kernel
theorem dX5_merge_82 : decode cX5_merge 82 = .ok (.goto 4, 3) := by decide +kernel
theorem dX5_merge_85 : decode cX5_merge 85 = .ok (.iconst 0, 1) := by decide +kernel
theorem dX5_merge_86 : decode cX5_merge 86 = .ok (.istore 9, 2) := by decide +kernel
theorem dX5_merge_88 : decode cX5_merge 88 = .ok (.aload_n 0, 1) := by decide +kernel
theorem dX5_merge_89 : decode cX5_merge 89 = .ok (.getfield 19, 3) := by decide +kernel
theorem dX5_merge_92 : decode cX5_merge 92 = .ok (.iload 8, 2) := by decide +kernel
theorem dX5_merge_94 : decode cX5_merge 94 = .ok (.iload 9, 2) := by decide +kernel
theorem dX5_merge_96 : decode cX5_merge 96 = .ok (.ifCond .eq 13, 3) := by decide +kernel
theorem dX5_merge_99 : decode cX5_merge 99 = .ok (.aload_n 0, 1) := by decide +kernel
theorem dX5_merge_100 : decode cX5_merge 100 = .ok (.getfield 15, 3) := by decide +kernel
theorem dX5_merge_103 : decode cX5_merge 103 = .ok (.iload 7, 2) := by decide +kernel
theorem dX5_merge_105 : decode cX5_merge 105 = .ok (.iaload, 1) := by decide +kernel
theorem dX5_merge_106 : decode cX5_merge 106 = .ok (.goto 10, 3) := by decide +kernel
theorem dX5_merge_109 : decode cX5_merge 109 = .ok (.aload_n 0, 1) := by decide +kernel
theorem dX5_merge_110 : decode cX5_merge 110 = .ok (.getfield 15, 3) := by decide +kernel
theorem dX5_merge_113 : decode cX5_merge 113 = .ok (.iload 6, 2) := by decide +kernel
theorem dX5_merge_115 : decode cX5_merge 115 = .ok (.iaload, 1) := by decide +kernel
theorem dX5_merge_116 : decode cX5_merge 116 = .ok (.iastore, 1) := by decide +kernel
theorem dX5_merge_117 : decode cX5_merge 117 = .ok (.iload 9, 2) := by decide +kernel
theorem dX5_merge_119 : decode cX5_merge 119 = .ok (.ifCond .eq 9, 3) := by decide +kernel
theorem dX5_merge_122 : decode cX5_merge 122 = .ok (.iinc 7 1, 3) := by decide +kernel
theorem dX5_merge_125 : decode cX5_merge 125 = .ok (.goto 6, 3) := by decide +kernel
theorem dX5_merge_128 : decode cX5_merge 128 = .ok (.iinc 6 1, 3) := by decide +kernel
theorem dX5_merge_131 : decode cX5_merge 131 = .ok (.iinc 8 1, 3) := by decide +kernel
theorem dX5_merge_134 : decode cX5_merge 134 = .ok (.goto (-125), 3) := by decide +kernel
theorem dX5_merge_137 : decode cX5_merge 137 = .ok (.return_, 1) := by decide +kernel
theorem b_X5_merge_0 {h : Nat} {L : LVs} {st : List AV} {S : ST} {Q : Option AV → ST → Prop} (k : o_il L st S (fun L st S => o_is L st S (fun L st S => o_il L st S (fun L st S => o_is L st S (fun L st S => o_il L st S (fun L st S => o_is L st S (fun L st S => V MX5_merge h 9 L st S Q) 8) 1) 7) 2) 6) 1) : V MX5_merge h 0 L st S Q :=
  v_iload_n dX5_merge_0 rfl (fun L st S k => v_istore dX5_merge_1 (by decide) (fun L st S k => v_iload_n dX5_merge_3 rfl (fun L st S k => v_istore dX5_merge_4 (by decide) (fun L st S k => v_iload_n dX5_merge_6 rfl (fun L st S k => v_istore dX5_merge_7 (by decide) (fun L st S k => k) k) k) k) k) k) k
theorem b_X5_merge_9 {h : Nat} {L : LVs} {st : List AV} {S : ST} {Q : Option AV → ST → Prop} (k : o_il L st S (fun L st S => o_il L st S (fun L st S => t_2 L st S (fun x y => y ≤ x) (fun L st S => V MX5_merge h 137 L st S Q) (fun L st S => V MX5_merge h 15 L st S Q)) 3) 8) : V MX5_merge h 9 L st S Q :=
  v_iload dX5_merge_9 (fun L st S k => v_iload_n dX5_merge_11 rfl (fun L st S k => w_icmp_ge dX5_merge_12 (by decide) rfl k) k) k
theorem b_X5_merge_15 {h : Nat} {L : LVs} {st : List AV} {S : ST} {Q : Option AV → ST → Prop} (k : o_il L st S (fun L st S => o_il L st S (fun L st S => t_2 L st S (fun x y => y ≤ x) (fun L st S => V MX5_merge h 85 L st S Q) (fun L st S => V MX5_merge h 21 L st S Q)) 3) 7) : V MX5_merge h 15 L st S Q :=
  v_iload dX5_merge_15 (fun L st S k => v_iload_n dX5_merge_17 rfl (fun L st S k => w_icmp_ge dX5_merge_18 (by decide) rfl k) k) k
theorem b_X5_merge_21 {h : Nat} {L : LVs} {st : List AV} {S : ST} {Q : Option AV → ST → Prop} (k : o_il L st S (fun L st S => o_il L st S (fun L st S => t_2 L st S (fun x y => y ≤ x) (fun L st S => V MX5_merge h 81 L st S Q) (fun L st S => V MX5_merge h 27 L st S Q)) 2) 6) : V MX5_merge h 21 L st S Q :=
  v_iload dX5_merge_21 (fun L st S k => v_iload_n dX5_merge_23 rfl (fun L st S k => w_icmp_ge dX5_merge_24 (by decide) rfl k) k) k
theorem b_X5_merge_27 {h : Nat} {L : LVs} {st : List AV} {S : ST} {Q : Option AV → ST → Prop} (k : o_il L st S (fun L st S => t_1 L st S (fun x => x = nI 0) (fun L st S => V MX5_merge h 58 L st S Q) (fun L st S => V MX5_merge h 32 L st S Q)) 5) : V MX5_merge h 27 L st S Q :=
  v_iload dX5_merge_27 (fun L st S k => w_if_eq dX5_merge_29 (by decide) rfl k) k
theorem b_X5_merge_32 {h : Nat} {L : LVs} {st : List AV} {S : ST} {Q : Option AV → ST → Prop} (k : o_al L st S (fun L st S => o_al L st S (fun L st S => o_get L st S (fun L st S => o_il L st S (fun L st S => o_iald L st S (fun L st S => o_al L st S (fun L st S => o_get L st S (fun L st S => o_il L st S (fun L st S => o_iald L st S (fun L st S => o_il L st S (fun L st S => V MX5_merge h 49 L st S Q) 4)) 7) 5 1 (3, 20, 0)) 0)) 6) 5 1 (3, 20, 0)) 0) 0) : V MX5_merge h 32 L st S Q :=
  v_aload_n dX5_merge_32 rfl (fun L st S k => v_aload_n dX5_merge_33 rfl (fun L st S k => v_get dX5_merge_34 rfl iX5 LY_5 rfl (by decide) rfl fl_X5_15 (fun L st S k => v_iload dX5_merge_37 (fun L st S k => v_iaload dX5_merge_39 (fun L st S k => v_aload_n dX5_merge_40 rfl (fun L st S k => v_get dX5_merge_41 rfl iX5 LY_5 rfl (by decide) rfl fl_X5_15 (fun L st S k => v_iload dX5_merge_44 (fun L st S k => v_iaload dX5_merge_46 (fun L st S k => v_iload dX5_merge_47 (fun L st S k => k) k) k) k) k) k) k) k) k) k) k
theorem k_X5_merge_49 {h : Nat} {L : LVs} {st : List AV} {S : ST} {Q Q' : Option AV → ST → Prop} {j : Nat} {a0 a1 a2 : AV} (hC : Ct MX5_isBefore h [vR 5 j, a0, a1, a2] S Q') (k : ∀ (r : Option AV) (S' : ST), Q' r S' → V MX5_merge (h + 1) 52 L (r.toList ++ st) S' Q) (hj : j < NI 5) (hw : wid st ≤ 8) : V MX5_merge (h + 1) 49 L (a2 :: a1 :: a0 :: vR 5 j :: st) S Q :=
  v_callV (M' := MX5_isBefore) (c := 5) (As := [a0, a1, a2]) dX5_merge_49 ml_X5_62 im_X5_isBefore se_X5_isBefore in_X5 cd_X5_isBefore rfl LY_5 np_X5_isBefore (by decide) hw hj hC k
theorem b_X5_merge_52 {h : Nat} {L : LVs} {st : List AV} {S : ST} {Q : Option AV → ST → Prop} (k : t_1 L st S (fun x => x = nI 0) (fun L st S => V MX5_merge h 85 L st S Q) (fun L st S => V MX5_merge h 55 L st S Q)) : V MX5_merge h 52 L st S Q :=
  w_if_eq dX5_merge_52 (by decide) rfl k
theorem b_X5_merge_55 {h : Nat} {L : LVs} {st : List AV} {S : ST} {Q : Option AV → ST → Prop} (k : V MX5_merge h 81 L st S Q) : V MX5_merge h 55 L st S Q :=
  v_goto dX5_merge_55 (by decide) k
theorem b_X5_merge_58 {h : Nat} {L : LVs} {st : List AV} {S : ST} {Q : Option AV → ST → Prop} (k : o_al L st S (fun L st S => o_al L st S (fun L st S => o_get L st S (fun L st S => o_il L st S (fun L st S => o_iald L st S (fun L st S => o_al L st S (fun L st S => o_get L st S (fun L st S => o_il L st S (fun L st S => o_iald L st S (fun L st S => o_il L st S (fun L st S => V MX5_merge h 75 L st S Q) 4)) 6) 5 1 (3, 20, 0)) 0)) 7) 5 1 (3, 20, 0)) 0) 0) : V MX5_merge h 58 L st S Q :=
  v_aload_n dX5_merge_58 rfl (fun L st S k => v_aload_n dX5_merge_59 rfl (fun L st S k => v_get dX5_merge_60 rfl iX5 LY_5 rfl (by decide) rfl fl_X5_15 (fun L st S k => v_iload dX5_merge_63 (fun L st S k => v_iaload dX5_merge_65 (fun L st S k => v_aload_n dX5_merge_66 rfl (fun L st S k => v_get dX5_merge_67 rfl iX5 LY_5 rfl (by decide) rfl fl_X5_15 (fun L st S k => v_iload dX5_merge_70 (fun L st S k => v_iaload dX5_merge_72 (fun L st S k => v_iload dX5_merge_73 (fun L st S k => k) k) k) k) k) k) k) k) k) k) k
theorem k_X5_merge_75 {h : Nat} {L : LVs} {st : List AV} {S : ST} {Q Q' : Option AV → ST → Prop} {j : Nat} {a0 a1 a2 : AV} (hC : Ct MX5_isBefore h [vR 5 j, a0, a1, a2] S Q') (k : ∀ (r : Option AV) (S' : ST), Q' r S' → V MX5_merge (h + 1) 78 L (r.toList ++ st) S' Q) (hj : j < NI 5) (hw : wid st ≤ 8) : V MX5_merge (h + 1) 75 L (a2 :: a1 :: a0 :: vR 5 j :: st) S Q :=
  v_callV (M' := MX5_isBefore) (c := 5) (As := [a0, a1, a2]) dX5_merge_75 ml_X5_62 im_X5_isBefore se_X5_isBefore in_X5 cd_X5_isBefore rfl LY_5 np_X5_isBefore (by decide) hw hj hC k
theorem b_X5_merge_78 {h : Nat} {L : LVs} {st : List AV} {S : ST} {Q : Option AV → ST → Prop} (k : t_1 L st S (fun x => x = nI 0) (fun L st S => V MX5_merge h 85 L st S Q) (fun L st S => V MX5_merge h 81 L st S Q)) : V MX5_merge h 78 L st S Q :=
  w_if_eq dX5_merge_78 (by decide) rfl k
theorem b_X5_merge_81 {h : Nat} {L : LVs} {st : List AV} {S : ST} {Q : Option AV → ST → Prop} (k : o_c L st S (fun L st S => V MX5_merge h 86 L st S Q) (nI 1)) : V MX5_merge h 81 L st S Q :=
  v_iconst dX5_merge_81 (by decide) (fun L st S k => v_goto dX5_merge_82 (by decide) k) k
theorem b_X5_merge_85 {h : Nat} {L : LVs} {st : List AV} {S : ST} {Q : Option AV → ST → Prop} (k : o_c L st S (fun L st S => V MX5_merge h 86 L st S Q) (nI 0)) : V MX5_merge h 85 L st S Q :=
  v_iconst dX5_merge_85 (by decide) (fun L st S k => k) k
theorem b_X5_merge_86 {h : Nat} {L : LVs} {st : List AV} {S : ST} {Q : Option AV → ST → Prop} (k : o_is L st S (fun L st S => o_al L st S (fun L st S => o_get L st S (fun L st S => o_il L st S (fun L st S => o_il L st S (fun L st S => t_1 L st S (fun x => x = nI 0) (fun L st S => V MX5_merge h 109 L st S Q) (fun L st S => V MX5_merge h 99 L st S Q)) 9) 8) 5 2 (3, 21, 0)) 0) 9) : V MX5_merge h 86 L st S Q :=
  v_istore dX5_merge_86 (by decide) (fun L st S k => v_aload_n dX5_merge_88 rfl (fun L st S k => v_get dX5_merge_89 rfl iX5 LY_5 rfl (by decide) rfl fl_X5_19 (fun L st S k => v_iload dX5_merge_92 (fun L st S k => v_iload dX5_merge_94 (fun L st S k => w_if_eq dX5_merge_96 (by decide) rfl k) k) k) k) k) k
theorem b_X5_merge_99 {h : Nat} {L : LVs} {st : List AV} {S : ST} {Q : Option AV → ST → Prop} (k : o_al L st S (fun L st S => o_get L st S (fun L st S => o_il L st S (fun L st S => o_iald L st S (fun L st S => V MX5_merge h 116 L st S Q)) 7) 5 1 (3, 20, 0)) 0) : V MX5_merge h 99 L st S Q :=
  v_aload_n dX5_merge_99 rfl (fun L st S k => v_get dX5_merge_100 rfl iX5 LY_5 rfl (by decide) rfl fl_X5_15 (fun L st S k => v_iload dX5_merge_103 (fun L st S k => v_iaload dX5_merge_105 (fun L st S k => v_goto dX5_merge_106 (by decide) k) k) k) k) k
theorem b_X5_merge_109 {h : Nat} {L : LVs} {st : List AV} {S : ST} {Q : Option AV → ST → Prop} (k : o_al L st S (fun L st S => o_get L st S (fun L st S => o_il L st S (fun L st S => o_iald L st S (fun L st S => V MX5_merge h 116 L st S Q)) 6) 5 1 (3, 20, 0)) 0) : V MX5_merge h 109 L st S Q :=
  v_aload_n dX5_merge_109 rfl (fun L st S k => v_get dX5_merge_110 rfl iX5 LY_5 rfl (by decide) rfl fl_X5_15 (fun L st S k => v_iload dX5_merge_113 (fun L st S k => v_iaload dX5_merge_115 (fun L st S k => k) k) k) k) k
theorem b_X5_merge_116 {h : Nat} {L : LVs} {st : List AV} {S : ST} {Q : Option AV → ST → Prop} (k : o_iast L st S (fun L st S => o_il L st S (fun L st S => t_1 L st S (fun x => x = nI 0) (fun L st S => V MX5_merge h 128 L st S Q) (fun L st S => V MX5_merge h 122 L st S Q)) 9)) : V MX5_merge h 116 L st S Q :=
  v_iastore dX5_merge_116 (fun L st S k => v_iload dX5_merge_117 (fun L st S k => w_if_eq dX5_merge_119 (by decide) rfl k) k) k
theorem b_X5_merge_122 {h : Nat} {L : LVs} {st : List AV} {S : ST} {Q : Option AV → ST → Prop} (k : o_inc L st S (fun L st S => V MX5_merge h 131 L st S Q) 7 (nI 1)) : V MX5_merge h 122 L st S Q :=
  v_iinc dX5_merge_122 (by decide) (by decide) (fun L st S k => v_goto dX5_merge_125 (by decide) k) k
theorem b_X5_merge_128 {h : Nat} {L : LVs} {st : List AV} {S : ST} {Q : Option AV → ST → Prop} (k : o_inc L st S (fun L st S => V MX5_merge h 131 L st S Q) 6 (nI 1)) : V MX5_merge h 128 L st S Q :=
  v_iinc dX5_merge_128 (by decide) (by decide) (fun L st S k => k) k
theorem b_X5_merge_131 {h : Nat} {L : LVs} {st : List AV} {S : ST} {Q : Option AV → ST → Prop} (k : o_inc L st S (fun L st S => V MX5_merge h 9 L st S Q) 8 (nI 1)) : V MX5_merge h 131 L st S Q :=
  v_iinc dX5_merge_131 (by decide) (by decide) (fun L st S k => v_goto dX5_merge_134 (by decide) k) k
theorem b_X5_merge_137 {h : Nat} {L : LVs} {st : List AV} {S : ST} {Q : Option AV → ST → Prop} (k : t_vr st S Q) : V MX5_merge h 137 L st S Q :=
  w_vr dX5_merge_137 rfl k
-- QueryForge$Result.isBefore(III)Z
theorem dX5_isBefore_0 : decode cX5_isBefore 0 = .ok (.aload_n 0, 1) := by decide +kernel
theorem dX5_isBefore_1 : decode cX5_isBefore 1 = .ok (.getfield 9, 3) := by decide +kernel
theorem dX5_isBefore_4 : decode cX5_isBefore 4 = .ok (.iload_n 1, 1) := by decide +kernel
theorem dX5_isBefore_5 : decode cX5_isBefore 5 = .ok (.iconst 4, 1) := by decide +kernel
theorem dX5_isBefore_6 : decode cX5_isBefore 6 = .ok (.imul, 1) := by decide +kernel
theorem dX5_isBefore_7 : decode cX5_isBefore 7 = .ok (.iload_n 3, 1) := by decide +kernel
theorem dX5_isBefore_8 : decode cX5_isBefore 8 = .ok (.iadd, 1) := by decide +kernel
theorem dX5_isBefore_9 : decode cX5_isBefore 9 = .ok (.laload, 1) := by decide +kernel
theorem dX5_isBefore_10 : decode cX5_isBefore 10 = .ok (.aload_n 0, 1) := by decide +kernel
theorem dX5_isBefore_11 : decode cX5_isBefore 11 = .ok (.getfield 9, 3) := by decide +kernel
theorem dX5_isBefore_14 : decode cX5_isBefore 14 = .ok (.iload_n 2, 1) := by decide +kernel
theorem dX5_isBefore_15 : decode cX5_isBefore 15 = .ok (.iconst 4, 1) := by decide +kernel
theorem dX5_isBefore_16 : decode cX5_isBefore 16 = .ok (.imul, 1) := by decide +kernel
theorem dX5_isBefore_17 : decode cX5_isBefore 17 = .ok (.iload_n 3, 1) := by decide +kernel
theorem dX5_isBefore_18 : decode cX5_isBefore 18 = .ok (.iadd, 1) := by decide +kernel
theorem dX5_isBefore_19 : decode cX5_isBefore 19 = .ok (.laload, 1) := by decide +kernel
theorem dX5_isBefore_20 : decode cX5_isBefore 20 = .ok (.lcmp, 1) := by decide +kernel
theorem dX5_isBefore_21 : decode cX5_isBefore 21 = .ok (.ifCond .ge 7, 3) := by decide +kernel
theorem dX5_isBefore_24 : decode cX5_isBefore 24 = .ok (.iconst 1, 1) := by decide +kernel
theorem dX5_isBefore_25 : decode cX5_isBefore 25 = .ok (.goto 4, 3) := by decide +kernel
theorem dX5_isBefore_28 : decode cX5_isBefore 28 = .ok (.iconst 0, 1) := by decide +kernel
theorem dX5_isBefore_29 : decode cX5_isBefore 29 = .ok (.ireturn, 1) := by decide +kernel
theorem b_X5_isBefore_0 {h : Nat} {L : LVs} {st : List AV} {S : ST} {Q : Option AV → ST → Prop} (k : o_al L st S (fun L st S => o_get L st S (fun L st S => o_il L st S (fun L st S => o_c L st S (fun L st S => o_imul L st S (fun L st S => o_il L st S (fun L st S => o_iadd L st S (fun L st S => o_lald L st S (fun L st S => o_al L st S (fun L st S => o_get L st S (fun L st S => o_il L st S (fun L st S => o_c L st S (fun L st S => o_imul L st S (fun L st S => o_il L st S (fun L st S => o_iadd L st S (fun L st S => o_lald L st S (fun L st S => o_lcmp L st S (fun L st S => t_1 L st S (fun x => nI 0 ≤ x) (fun L st S => V MX5_isBefore h 28 L st S Q) (fun L st S => V MX5_isBefore h 24 L st S Q))))) 3)) (nI 4)) 2) 5 0 (3, 18, 0)) 0))) 3)) (nI 4)) 1) 5 0 (3, 18, 0)) 0) : V MX5_isBefore h 0 L st S Q :=
  v_aload_n dX5_isBefore_0 rfl (fun L st S k => v_get dX5_isBefore_1 rfl iX5 LY_5 rfl (by decide) rfl fl_X5_9 (fun L st S k => v_iload_n dX5_isBefore_4 rfl (fun L st S k => v_iconst dX5_isBefore_5 (by decide) (fun L st S k => v_imul dX5_isBefore_6 (fun L st S k => v_iload_n dX5_isBefore_7 rfl (fun L st S k => v_iadd dX5_isBefore_8 (fun L st S k => v_laload dX5_isBefore_9 (fun L st S k => v_aload_n dX5_isBefore_10 rfl (fun L st S k => v_get dX5_isBefore_11 rfl iX5 LY_5 rfl (by decide) rfl fl_X5_9 (fun L st S k => v_iload_n dX5_isBefore_14 rfl (fun L st S k => v_iconst dX5_isBefore_15 (by decide) (fun L st S k => v_imul dX5_isBefore_16 (fun L st S k => v_iload_n dX5_isBefore_17 rfl (fun L st S k => v_iadd dX5_isBefore_18 (fun L st S k => v_laload dX5_isBefore_19 (fun L st S k => v_lcmp dX5_isBefore_20 (fun L st S k => w_if_ge dX5_isBefore_21 (by decide) rfl k) k) k) k) k) k) k) k) k) k) k) k) k) k) k) k) k) k
theorem b_X5_isBefore_24 {h : Nat} {L : LVs} {st : List AV} {S : ST} {Q : Option AV → ST → Prop} (k : o_c L st S (fun L st S => V MX5_isBefore h 29 L st S Q) (nI 1)) : V MX5_isBefore h 24 L st S Q :=
  v_iconst dX5_isBefore_24 (by decide) (fun L st S k => v_goto dX5_isBefore_25 (by decide) k) k
theorem b_X5_isBefore_28 {h : Nat} {L : LVs} {st : List AV} {S : ST} {Q : Option AV → ST → Prop} (k : o_c L st S (fun L st S => V MX5_isBefore h 29 L st S Q) (nI 0)) : V MX5_isBefore h 28 L st S Q :=
  v_iconst dX5_isBefore_28 (by decide) (fun L st S k => k) k
theorem b_X5_isBefore_29 {h : Nat} {L : LVs} {st : List AV} {S : ST} {Q : Option AV → ST → Prop} (k : t_zr st S Q) : V MX5_isBefore h 29 L st S Q :=
  w_zr dX5_isBefore_29 rfl k
-- QueryForge$Result.isInside(II)Z
theorem dX5_isInside_0 : decode cX5_isInside 0 = .ok (.iload_n 1, 1) := by decide +kernel
theorem dX5_isInside_1 : decode cX5_isInside 1 = .ok (.ifCond .lt 24, 3) := by decide +kernel
theorem dX5_isInside_4 : decode cX5_isInside 4 = .ok (.iload_n 1, 1) := by decide +kernel
theorem dX5_isInside_5 : decode cX5_isInside 5 = .ok (.aload_n 0, 1) := by decide +kernel
theorem dX5_isInside_6 : decode cX5_isInside 6 = .ok (.getfield 22, 3) := by decide +kernel
theorem dX5_isInside_9 : decode cX5_isInside 9 = .ok (.if_icmp .ge 16, 3) := by decide +kernel
theorem dX5_isInside_12 : decode cX5_isInside 12 = .ok (.iload_n 2, 1) := by decide +kernel
theorem dX5_isInside_13 : decode cX5_isInside 13 = .ok (.ifCond .lt 12, 3) := by decide +kernel
theorem dX5_isInside_16 : decode cX5_isInside 16 = .ok (.iload_n 2, 1) := by decide +kernel
theorem dX5_isInside_17 : decode cX5_isInside 17 = .ok (.iconst 4, 1) := by decide +kernel
theorem dX5_isInside_18 : decode cX5_isInside 18 = .ok (.if_icmp .ge 7, 3) := by decide +kernel
theorem dX5_isInside_21 : decode cX5_isInside 21 = .ok (.iconst 1, 1) := by decide +kernel
theorem dX5_isInside_22 : decode cX5_isInside 22 = .ok (.goto 4, 3) := by decide +kernel
theorem dX5_isInside_25 : decode cX5_isInside 25 = .ok (.iconst 0, 1) := by decide +kernel
theorem dX5_isInside_26 : decode cX5_isInside 26 = .ok (.ireturn, 1) := by decide +kernel
theorem b_X5_isInside_0 {h : Nat} {L : LVs} {st : List AV} {S : ST} {Q : Option AV → ST → Prop} (k : o_il L st S (fun L st S => t_1 L st S (fun x => x < nI 0) (fun L st S => V MX5_isInside h 25 L st S Q) (fun L st S => V MX5_isInside h 4 L st S Q)) 1) : V MX5_isInside h 0 L st S Q :=
  v_iload_n dX5_isInside_0 rfl (fun L st S k => w_if_lt dX5_isInside_1 (by decide) rfl k) k
theorem b_X5_isInside_4 {h : Nat} {L : LVs} {st : List AV} {S : ST} {Q : Option AV → ST → Prop} (k : o_il L st S (fun L st S => o_al L st S (fun L st S => o_get L st S (fun L st S => t_2 L st S (fun x y => y ≤ x) (fun L st S => V MX5_isInside h 25 L st S Q) (fun L st S => V MX5_isInside h 12 L st S Q)) 5 3 (0, 0, 0)) 0) 1) : V MX5_isInside h 4 L st S Q :=
  v_iload_n dX5_isInside_4 rfl (fun L st S k => v_aload_n dX5_isInside_5 rfl (fun L st S k => v_get dX5_isInside_6 rfl iX5 LY_5 rfl (by decide) rfl fl_X5_22 (fun L st S k => w_icmp_ge dX5_isInside_9 (by decide) rfl k) k) k) k
theorem b_X5_isInside_12 {h : Nat} {L : LVs} {st : List AV} {S : ST} {Q : Option AV → ST → Prop} (k : o_il L st S (fun L st S => t_1 L st S (fun x => x < nI 0) (fun L st S => V MX5_isInside h 25 L st S Q) (fun L st S => V MX5_isInside h 16 L st S Q)) 2) : V MX5_isInside h 12 L st S Q :=
  v_iload_n dX5_isInside_12 rfl (fun L st S k => w_if_lt dX5_isInside_13 (by decide) rfl k) k
theorem b_X5_isInside_16 {h : Nat} {L : LVs} {st : List AV} {S : ST} {Q : Option AV → ST → Prop} (k : o_il L st S (fun L st S => o_c L st S (fun L st S => t_2 L st S (fun x y => y ≤ x) (fun L st S => V MX5_isInside h 25 L st S Q) (fun L st S => V MX5_isInside h 21 L st S Q)) (nI 4)) 2) : V MX5_isInside h 16 L st S Q :=
  v_iload_n dX5_isInside_16 rfl (fun L st S k => v_iconst dX5_isInside_17 (by decide) (fun L st S k => w_icmp_ge dX5_isInside_18 (by decide) rfl k) k) k
theorem b_X5_isInside_21 {h : Nat} {L : LVs} {st : List AV} {S : ST} {Q : Option AV → ST → Prop} (k : o_c L st S (fun L st S => V MX5_isInside h 26 L st S Q) (nI 1)) : V MX5_isInside h 21 L st S Q :=
  v_iconst dX5_isInside_21 (by decide) (fun L st S k => v_goto dX5_isInside_22 (by decide) k) k
theorem b_X5_isInside_25 {h : Nat} {L : LVs} {st : List AV} {S : ST} {Q : Option AV → ST → Prop} (k : o_c L st S (fun L st S => V MX5_isInside h 26 L st S Q) (nI 0)) : V MX5_isInside h 25 L st S Q :=
  v_iconst dX5_isInside_25 (by decide) (fun L st S k => k) k
theorem b_X5_isInside_26 {h : Nat} {L : LVs} {st : List AV} {S : ST} {Q : Option AV → ST → Prop} (k : t_zr st S Q) : V MX5_isInside h 26 L st S Q :=
  w_zr dX5_isInside_26 rfl k
