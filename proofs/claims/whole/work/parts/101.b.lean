-- QueryForge$Code.clear()V
theorem dX1_clear_0 : decode cX1_clear 0 = .ok (.aload_n 0, 1) := by decide +kernel
theorem dX1_clear_1 : decode cX1_clear 1 = .ok (.iconst 0, 1) := by decide +kernel
theorem dX1_clear_2 : decode cX1_clear 2 = .ok (.putfield 18, 3) := by decide +kernel
theorem dX1_clear_5 : decode cX1_clear 5 = .ok (.return_, 1) := by decide +kernel
theorem b_X1_clear_0 {h : Nat} {L : LVs} {st : List AV} {S : ST} {Q : Option AV → ST → Prop} (k : o_al L st S (fun L st S => o_c L st S (fun L st S => o_puti L st S (fun L st S => t_vr st S Q) 1 2) (nI 0)) 0) : V MX1_clear h 0 L st S Q :=
  v_aload_n dX1_clear_0 rfl (fun L st S k => v_iconst dX1_clear_1 (by decide) (fun L st S k => v_puti dX1_clear_2 rfl iX1 tyX1_ok nmX1 LY_1 rfl (by decide) rfl fl_X1_18 rfl rfl (fun L st S k => w_vr dX1_clear_5 rfl k) k) k) k
-- QueryForge$Code.add(II)V
theorem dX1_add_0 : decode cX1_add 0 = .ok (.aload_n 0, 1) := by decide +kernel
theorem dX1_add_1 : decode cX1_add 1 = .ok (.getfield 18, 3) := by decide +kernel
theorem dX1_add_4 : decode cX1_add 4 = .ok (.sipush 256, 3) := by decide +kernel
theorem dX1_add_7 : decode cX1_add 7 = .ok (.if_icmp .ge 33, 3) := by decide +kernel
theorem dX1_add_10 : decode cX1_add 10 = .ok (.aload_n 0, 1) := by decide +kernel
theorem dX1_add_11 : decode cX1_add 11 = .ok (.getfield 11, 3) := by decide +kernel
theorem dX1_add_14 : decode cX1_add 14 = .ok (.aload_n 0, 1) := by decide +kernel
theorem dX1_add_15 : decode cX1_add 15 = .ok (.getfield 18, 3) := by decide +kernel
theorem dX1_add_18 : decode cX1_add 18 = .ok (.iload_n 1, 1) := by decide +kernel
theorem dX1_add_19 : decode cX1_add 19 = .ok (.iastore, 1) := by decide +kernel
theorem dX1_add_20 : decode cX1_add 20 = .ok (.aload_n 0, 1) := by decide +kernel
theorem dX1_add_21 : decode cX1_add 21 = .ok (.getfield 15, 3) := by decide +kernel
theorem dX1_add_24 : decode cX1_add 24 = .ok (.aload_n 0, 1) := by decide +kernel
theorem dX1_add_25 : decode cX1_add 25 = .ok (.getfield 18, 3) := by decide +kernel
theorem dX1_add_28 : decode cX1_add 28 = .ok (.iload_n 2, 1) := by decide +kernel
theorem dX1_add_29 : decode cX1_add 29 = .ok (.iastore, 1) := by decide +kernel
theorem dX1_add_30 : decode cX1_add 30 = .ok (.aload_n 0, 1) := by decide +kernel
theorem dX1_add_31 : decode cX1_add 31 = .ok (.dup, 1) := by decide +kernel
theorem dX1_add_32 : decode cX1_add 32 = .ok (.getfield 18, 3) := by decide +kernel
theorem dX1_add_35 : decode cX1_add 35 = .ok (.iconst 1, 1) := by decide +kernel
theorem dX1_add_36 : decode cX1_add 36 = .ok (.iadd, 1) := by decide +kernel
theorem dX1_add_37 : decode cX1_add 37 = .ok (.putfield 18, 3) := by decide +kernel
theorem dX1_add_40 : decode cX1_add 40 = .ok (.return_, 1) := by decide +kernel
theorem b_X1_add_0 {h : Nat} {L : LVs} {st : List AV} {S : ST} {Q : Option AV → ST → Prop} (k : o_al L st S (fun L st S => o_get L st S (fun L st S => o_c L st S (fun L st S => t_2 L st S (fun x y => y ≤ x) (fun L st S => V MX1_add h 40 L st S Q) (fun L st S => V MX1_add h 10 L st S Q)) (nI 256)) 1 2 (0, 0, 0)) 0) : V MX1_add h 0 L st S Q :=
  v_aload_n dX1_add_0 rfl (fun L st S k => v_get dX1_add_1 rfl iX1 LY_1 rfl (by decide) rfl fl_X1_18 (fun L st S k => v_sipush dX1_add_4 (by decide) (fun L st S k => w_icmp_ge dX1_add_7 (by decide) rfl k) k) k) k
theorem b_X1_add_10 {h : Nat} {L : LVs} {st : List AV} {S : ST} {Q : Option AV → ST → Prop} (k : o_al L st S (fun L st S => o_get L st S (fun L st S => o_al L st S (fun L st S => o_get L st S (fun L st S => o_il L st S (fun L st S => o_iast L st S (fun L st S => o_al L st S (fun L st S => o_get L st S (fun L st S => o_al L st S (fun L st S => o_get L st S (fun L st S => o_il L st S (fun L st S => o_iast L st S (fun L st S => o_al L st S (fun L st S => o_dup L st S (fun L st S => o_get L st S (fun L st S => o_c L st S (fun L st S => o_iadd L st S (fun L st S => o_puti L st S (fun L st S => V MX1_add h 40 L st S Q) 1 2)) (nI 1)) 1 2 (0, 0, 0))) 0)) 2) 1 2 (0, 0, 0)) 0) 1 1 (3, 14, 0)) 0)) 1) 1 2 (0, 0, 0)) 0) 1 0 (3, 13, 0)) 0) : V MX1_add h 10 L st S Q :=
  v_aload_n dX1_add_10 rfl (fun L st S k => v_get dX1_add_11 rfl iX1 LY_1 rfl (by decide) rfl fl_X1_11 (fun L st S k => v_aload_n dX1_add_14 rfl (fun L st S k => v_get dX1_add_15 rfl iX1 LY_1 rfl (by decide) rfl fl_X1_18 (fun L st S k => v_iload_n dX1_add_18 rfl (fun L st S k => v_iastore dX1_add_19 (fun L st S k => v_aload_n dX1_add_20 rfl (fun L st S k => v_get dX1_add_21 rfl iX1 LY_1 rfl (by decide) rfl fl_X1_15 (fun L st S k => v_aload_n dX1_add_24 rfl (fun L st S k => v_get dX1_add_25 rfl iX1 LY_1 rfl (by decide) rfl fl_X1_18 (fun L st S k => v_iload_n dX1_add_28 rfl (fun L st S k => v_iastore dX1_add_29 (fun L st S k => v_aload_n dX1_add_30 rfl (fun L st S k => v_dup dX1_add_31 (fun L st S k => v_get dX1_add_32 rfl iX1 LY_1 rfl (by decide) rfl fl_X1_18 (fun L st S k => v_iconst dX1_add_35 (by decide) (fun L st S k => v_iadd dX1_add_36 (fun L st S k => v_puti dX1_add_37 rfl iX1 tyX1_ok nmX1 LY_1 rfl (by decide) rfl fl_X1_18 rfl rfl (fun L st S k => k) k) k) k) k) k) k) k) k) k) k) k) k) k) k) k) k) k) k
theorem b_X1_add_40 {h : Nat} {L : LVs} {st : List AV} {S : ST} {Q : Option AV → ST → Prop} (k : t_vr st S Q) : V MX1_add h 40 L st S Q :=
  w_vr dX1_add_40 rfl k
-- QueryForge$Code.change(III)V
theorem dX1_change_0 : decode cX1_change 0 = .ok (.iload_n 1, 1) := by decide +kernel
theorem dX1_change_1 : decode cX1_change 1 = .ok (.ifCond .lt 25, 3) := by decide +kernel
theorem dX1_change_4 : decode cX1_change 4 = .ok (.iload_n 1, 1) := by decide +kernel
theorem dX1_change_5 : decode cX1_change 5 = .ok (.aload_n 0, 1) := by decide +kernel
theorem dX1_change_6 : decode cX1_change 6 = .ok (.getfield 18, 3) := by decide +kernel
theorem dX1_change_9 : decode cX1_change 9 = .ok (.if_icmp .ge 17, 3) := by decide +kernel
theorem dX1_change_12 : decode cX1_change 12 = .ok (.aload_n 0, 1) := by decide +kernel
theorem dX1_change_13 : decode cX1_change 13 = .ok (.getfield 11, 3) := by decide +kernel
theorem dX1_change_16 : decode cX1_change 16 = .ok (.iload_n 1, 1) := by decide +kernel
theorem dX1_change_17 : decode cX1_change 17 = .ok (.iload_n 2, 1) := by decide +kernel
theorem dX1_change_18 : decode cX1_change 18 = .ok (.iastore, 1) := by decide +kernel
theorem dX1_change_19 : decode cX1_change 19 = .ok (.aload_n 0, 1) := by decide +kernel
theorem dX1_change_20 : decode cX1_change 20 = .ok (.getfield 15, 3) := by decide +kernel
theorem dX1_change_23 : decode cX1_change 23 = .ok (.iload_n 1, 1) := by decide +kernel
theorem dX1_change_24 : decode cX1_change 24 = .ok (.iload_n 3, 1) := by decide +kernel
theorem dX1_change_25 : decode cX1_change 25 = .ok (.iastore, 1) := by decide +kernel
theorem dX1_change_26 : decode cX1_change 26 = .ok (.return_, 1) := by decide +kernel
theorem b_X1_change_0 {h : Nat} {L : LVs} {st : List AV} {S : ST} {Q : Option AV → ST → Prop} (k : o_il L st S (fun L st S => t_1 L st S (fun x => x < nI 0) (fun L st S => V MX1_change h 26 L st S Q) (fun L st S => V MX1_change h 4 L st S Q)) 1) : V MX1_change h 0 L st S Q :=
  v_iload_n dX1_change_0 rfl (fun L st S k => w_if_lt dX1_change_1 (by decide) rfl k) k
theorem b_X1_change_4 {h : Nat} {L : LVs} {st : List AV} {S : ST} {Q : Option AV → ST → Prop} (k : o_il L st S (fun L st S => o_al L st S (fun L st S => o_get L st S (fun L st S => t_2 L st S (fun x y => y ≤ x) (fun L st S => V MX1_change h 26 L st S Q) (fun L st S => V MX1_change h 12 L st S Q)) 1 2 (0, 0, 0)) 0) 1) : V MX1_change h 4 L st S Q :=
  v_iload_n dX1_change_4 rfl (fun L st S k => v_aload_n dX1_change_5 rfl (fun L st S k => v_get dX1_change_6 rfl iX1 LY_1 rfl (by decide) rfl fl_X1_18 (fun L st S k => w_icmp_ge dX1_change_9 (by decide) rfl k) k) k) k
theorem b_X1_change_12 {h : Nat} {L : LVs} {st : List AV} {S : ST} {Q : Option AV → ST → Prop} (k : o_al L st S (fun L st S => o_get L st S (fun L st S => o_il L st S (fun L st S => o_il L st S (fun L st S => o_iast L st S (fun L st S => o_al L st S (fun L st S => o_get L st S (fun L st S => o_il L st S (fun L st S => o_il L st S (fun L st S => o_iast L st S (fun L st S => V MX1_change h 26 L st S Q)) 3) 1) 1 1 (3, 14, 0)) 0)) 2) 1) 1 0 (3, 13, 0)) 0) : V MX1_change h 12 L st S Q :=
  v_aload_n dX1_change_12 rfl (fun L st S k => v_get dX1_change_13 rfl iX1 LY_1 rfl (by decide) rfl fl_X1_11 (fun L st S k => v_iload_n dX1_change_16 rfl (fun L st S k => v_iload_n dX1_change_17 rfl (fun L st S k => v_iastore dX1_change_18 (fun L st S k => v_aload_n dX1_change_19 rfl (fun L st S k => v_get dX1_change_20 rfl iX1 LY_1 rfl (by decide) rfl fl_X1_15 (fun L st S k => v_iload_n dX1_change_23 rfl (fun L st S k => v_iload_n dX1_change_24 rfl (fun L st S k => v_iastore dX1_change_25 (fun L st S k => k) k) k) k) k) k) k) k) k) k) k
theorem b_X1_change_26 {h : Nat} {L : LVs} {st : List AV} {S : ST} {Q : Option AV → ST → Prop} (k : t_vr st S Q) : V MX1_change h 26 L st S Q :=
  w_vr dX1_change_26 rfl k
-- QueryForge$Code.end()I
theorem dX1_end_0 : decode cX1_end 0 = .ok (.aload_n 0, 1) := by decide +kernel
theorem dX1_end_1 : decode cX1_end 1 = .ok (.getfield 18, 3) := by decide +kernel
theorem dX1_end_4 : decode cX1_end 4 = .ok (.ireturn, 1) := by decide +kernel
theorem b_X1_end_0 {h : Nat} {L : LVs} {st : List AV} {S : ST} {Q : Option AV → ST → Prop} (k : o_al L st S (fun L st S => o_get L st S (fun L st S => t_ir st S Q) 1 2 (0, 0, 0)) 0) : V MX1_end h 0 L st S Q :=
  v_aload_n dX1_end_0 rfl (fun L st S k => v_get dX1_end_1 rfl iX1 LY_1 rfl (by decide) rfl fl_X1_18 (fun L st S k => w_ir dX1_end_4 rfl k) k) k
-- QueryForge$Code.operationAt(I)I
theorem dX1_operationAt_0 : decode cX1_operationAt 0 = .ok (.iload_n 1, 1) := by decide +kernel
theorem dX1_operationAt_1 : decode cX1_operationAt 1 = .ok (.ifCond .lt 20, 3) := by decide +kernel
theorem dX1_operationAt_4 : decode cX1_operationAt 4 = .ok (.iload_n 1, 1) := by decide +kernel
theorem dX1_operationAt_5 : decode cX1_operationAt 5 = .ok (.aload_n 0, 1) := by decide +kernel
theorem dX1_operationAt_6 : decode cX1_operationAt 6 = .ok (.getfield 18, 3) := by decide +kernel
theorem dX1_operationAt_9 : decode cX1_operationAt 9 = .ok (.if_icmp .ge 12, 3) := by decide +kernel
theorem dX1_operationAt_12 : decode cX1_operationAt 12 = .ok (.aload_n 0, 1) := by decide +kernel
theorem dX1_operationAt_13 : decode cX1_operationAt 13 = .ok (.getfield 11, 3) := by decide +kernel
theorem dX1_operationAt_16 : decode cX1_operationAt 16 = .ok (.iload_n 1, 1) := by decide +kernel
theorem dX1_operationAt_17 : decode cX1_operationAt 17 = .ok (.iaload, 1) := by decide +kernel
theorem dX1_operationAt_18 : decode cX1_operationAt 18 = .ok (.goto 5, 3) := by decide +kernel
theorem dX1_operationAt_21 : decode cX1_operationAt 21 = .ok (.bipush 27, 2) := by decide +kernel
theorem dX1_operationAt_23 : decode cX1_operationAt 23 = .ok (.ireturn, 1) := by decide +kernel
theorem b_X1_operationAt_0 {h : Nat} {L : LVs} {st : List AV} {S : ST} {Q : Option AV → ST → Prop} (k : o_il L st S (fun L st S => t_1 L st S (fun x => x < nI 0) (fun L st S => V MX1_operationAt h 21 L st S Q) (fun L st S => V MX1_operationAt h 4 L st S Q)) 1) : V MX1_operationAt h 0 L st S Q :=
  v_iload_n dX1_operationAt_0 rfl (fun L st S k => w_if_lt dX1_operationAt_1 (by decide) rfl k) k
theorem b_X1_operationAt_4 {h : Nat} {L : LVs} {st : List AV} {S : ST} {Q : Option AV → ST → Prop} (k : o_il L st S (fun L st S => o_al L st S (fun L st S => o_get L st S (fun L st S => t_2 L st S (fun x y => y ≤ x) (fun L st S => V MX1_operationAt h 21 L st S Q) (fun L st S => V MX1_operationAt h 12 L st S Q)) 1 2 (0, 0, 0)) 0) 1) : V MX1_operationAt h 4 L st S Q :=
  v_iload_n dX1_operationAt_4 rfl (fun L st S k => v_aload_n dX1_operationAt_5 rfl (fun L st S k => v_get dX1_operationAt_6 rfl iX1 LY_1 rfl (by decide) rfl fl_X1_18 (fun L st S k => w_icmp_ge dX1_operationAt_9 (by decide) rfl k) k) k) k
theorem b_X1_operationAt_12 {h : Nat} {L : LVs} {st : List AV} {S : ST} {Q : Option AV → ST → Prop} (k : o_al L st S (fun L st S => o_get L st S (fun L st S => o_il L st S (fun L st S => o_iald L st S (fun L st S => V MX1_operationAt h 23 L st S Q)) 1) 1 0 (3, 13, 0)) 0) : V MX1_operationAt h 12 L st S Q :=
  v_aload_n dX1_operationAt_12 rfl (fun L st S k => v_get dX1_operationAt_13 rfl iX1 LY_1 rfl (by decide) rfl fl_X1_11 (fun L st S k => v_iload_n dX1_operationAt_16 rfl (fun L st S k => v_iaload dX1_operationAt_17 (fun L st S k => v_goto dX1_operationAt_18 (by decide) k) k) k) k) k
theorem b_X1_operationAt_21 {h : Nat} {L : LVs} {st : List AV} {S : ST} {Q : Option AV → ST → Prop} (k : o_c L st S (fun L st S => V MX1_operationAt h 23 L st S Q) (nI 27)) : V MX1_operationAt h 21 L st S Q :=
  v_bipush dX1_operationAt_21 (by decide) (fun L st S k => k) k
theorem b_X1_operationAt_23 {h : Nat} {L : LVs} {st : List AV} {S : ST} {Q : Option AV → ST → Prop} (k : t_ir st S Q) : V MX1_operationAt h 23 L st S Q :=
  w_ir dX1_operationAt_23 rfl k
-- QueryForge$Code.argumentAt(I)I
theorem dX1_argumentAt_0 : decode cX1_argumentAt 0 = .ok (.iload_n 1, 1) := by decide +kernel
theorem dX1_argumentAt_1 : decode cX1_argumentAt 1 = .ok (.ifCond .lt 20, 3) := by decide +kernel
theorem dX1_argumentAt_4 : decode cX1_argumentAt 4 = .ok (.iload_n 1, 1) := by decide +kernel
theorem dX1_argumentAt_5 : decode cX1_argumentAt 5 = .ok (.aload_n 0, 1) := by decide +kernel
theorem dX1_argumentAt_6 : decode cX1_argumentAt 6 = .ok (.getfield 18, 3) := by decide +kernel
theorem dX1_argumentAt_9 : decode cX1_argumentAt 9 = .ok (.if_icmp .ge 12, 3) := by decide +kernel
theorem dX1_argumentAt_12 : decode cX1_argumentAt 12 = .ok (.aload_n 0, 1) := by decide +kernel
theorem dX1_argumentAt_13 : decode cX1_argumentAt 13 = .ok (.getfield 15, 3) := by decide +kernel
theorem dX1_argumentAt_16 : decode cX1_argumentAt 16 = .ok (.iload_n 1, 1) := by decide +kernel
theorem dX1_argumentAt_17 : decode cX1_argumentAt 17 = .ok (.iaload, 1) := by decide +kernel
theorem dX1_argumentAt_18 : decode cX1_argumentAt 18 = .ok (.goto 4, 3) := by decide +kernel
theorem dX1_argumentAt_21 : decode cX1_argumentAt 21 = .ok (.iconst 0, 1) := by decide +kernel
theorem dX1_argumentAt_22 : decode cX1_argumentAt 22 = .ok (.ireturn, 1) := by decide +kernel
theorem b_X1_argumentAt_0 {h : Nat} {L : LVs} {st : List AV} {S : ST} {Q : Option AV → ST → Prop} (k : o_il L st S (fun L st S => t_1 L st S (fun x => x < nI 0) (fun L st S => V MX1_argumentAt h 21 L st S Q) (fun L st S => V MX1_argumentAt h 4 L st S Q)) 1) : V MX1_argumentAt h 0 L st S Q :=
  v_iload_n dX1_argumentAt_0 rfl (fun L st S k => w_if_lt dX1_argumentAt_1 (by decide) rfl k) k
theorem b_X1_argumentAt_4 {h : Nat} {L : LVs} {st : List AV} {S : ST} {Q : Option AV → ST → Prop} (k : o_il L st S (fun L st S => o_al L st S (fun L st S => o_get L st S (fun L st S => t_2 L st S (fun x y => y ≤ x) (fun L st S => V MX1_argumentAt h 21 L st S Q) (fun L st S => V MX1_argumentAt h 12 L st S Q)) 1 2 (0, 0, 0)) 0) 1) : V MX1_argumentAt h 4 L st S Q :=
  v_iload_n dX1_argumentAt_4 rfl (fun L st S k => v_aload_n dX1_argumentAt_5 rfl (fun L st S k => v_get dX1_argumentAt_6 rfl iX1 LY_1 rfl (by decide) rfl fl_X1_18 (fun L st S k => w_icmp_ge dX1_argumentAt_9 (by decide) rfl k) k) k) k
theorem b_X1_argumentAt_12 {h : Nat} {L : LVs} {st : List AV} {S : ST} {Q : Option AV → ST → Prop} (k : o_al L st S (fun L st S => o_get L st S (fun L st S => o_il L st S (fun L st S => o_iald L st S (fun L st S => V MX1_argumentAt h 22 L st S Q)) 1) 1 1 (3, 14, 0)) 0) : V MX1_argumentAt h 12 L st S Q :=
  v_aload_n dX1_argumentAt_12 rfl (fun L st S k => v_get dX1_argumentAt_13 rfl iX1 LY_1 rfl (by decide) rfl fl_X1_15 (fun L st S k => v_iload_n dX1_argumentAt_16 rfl (fun L st S k => v_iaload dX1_argumentAt_17 (fun L st S k => v_goto dX1_argumentAt_18 (by decide) k) k) k) k) k
theorem b_X1_argumentAt_21 {h : Nat} {L : LVs} {st : List AV} {S : ST} {Q : Option AV → ST → Prop} (k : o_c L st S (fun L st S => V MX1_argumentAt h 22 L st S Q) (nI 0)) : V MX1_argumentAt h 21 L st S Q :=
  v_iconst dX1_argumentAt_21 (by decide) (fun L st S k => k) k
theorem b_X1_argumentAt_22 {h : Nat} {L : LVs} {st : List AV} {S : ST} {Q : Option AV → ST → Prop} (k : t_ir st S Q) : V MX1_argumentAt h 22 L st S Q :=
  w_ir dX1_argumentAt_22 rfl k
