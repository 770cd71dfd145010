-- QueryForge$Tables.has(I)Z
theorem dX8_has_0 : decode cX8_has 0 = .ok (.iload_n 1, 1) := by decide +kernel
theorem dX8_has_1 : decode cX8_has 1 = .ok (.ifCond .lt 15, 3) := by decide +kernel
theorem dX8_has_4 : decode cX8_has 4 = .ok (.iload_n 1, 1) := by decide +kernel
theorem dX8_has_5 : decode cX8_has 5 = .ok (.aload_n 0, 1) := by decide +kernel
theorem dX8_has_6 : decode cX8_has 6 = .ok (.getfield 18, 3) := by decide +kernel
theorem dX8_has_9 : decode cX8_has 9 = .ok (.if_icmp .ge 7, 3) := by decide +kernel
theorem dX8_has_12 : decode cX8_has 12 = .ok (.iconst 1, 1) := by decide +kernel
theorem dX8_has_13 : decode cX8_has 13 = .ok (.goto 4, 3) := by decide +kernel
theorem dX8_has_16 : decode cX8_has 16 = .ok (.iconst 0, 1) := by decide +kernel
theorem dX8_has_17 : decode cX8_has 17 = .ok (.ireturn, 1) := by decide +kernel
theorem b_X8_has_0 {h : Nat} {L : LVs} {st : List AV} {S : ST} {Q : Option AV → ST → Prop} (k : o_il L st S (fun L st S => t_1 L st S (fun x => x < nI 0) (fun L st S => V MX8_has h 16 L st S Q) (fun L st S => V MX8_has h 4 L st S Q)) 1) : V MX8_has h 0 L st S Q :=
  v_iload_n dX8_has_0 rfl (fun L st S k => w_if_lt dX8_has_1 (by decide) rfl k) k
theorem b_X8_has_4 {h : Nat} {L : LVs} {st : List AV} {S : ST} {Q : Option AV → ST → Prop} (k : o_il L st S (fun L st S => o_al L st S (fun L st S => o_get L st S (fun L st S => t_2 L st S (fun x y => y ≤ x) (fun L st S => V MX8_has h 16 L st S Q) (fun L st S => V MX8_has h 12 L st S Q)) 8 1 (0, 0, 0)) 0) 1) : V MX8_has h 4 L st S Q :=
  v_iload_n dX8_has_4 rfl (fun L st S k => v_aload_n dX8_has_5 rfl (fun L st S k => v_get dX8_has_6 rfl iX8 LY_8 rfl (by decide) rfl fl_X8_18 (fun L st S k => w_icmp_ge dX8_has_9 (by decide) rfl k) k) k) k
theorem b_X8_has_12 {h : Nat} {L : LVs} {st : List AV} {S : ST} {Q : Option AV → ST → Prop} (k : o_c L st S (fun L st S => V MX8_has h 17 L st S Q) (nI 1)) : V MX8_has h 12 L st S Q :=
  v_iconst dX8_has_12 (by decide) (fun L st S k => v_goto dX8_has_13 (by decide) k) k
theorem b_X8_has_16 {h : Nat} {L : LVs} {st : List AV} {S : ST} {Q : Option AV → ST → Prop} (k : o_c L st S (fun L st S => V MX8_has h 17 L st S Q) (nI 0)) : V MX8_has h 16 L st S Q :=
  v_iconst dX8_has_16 (by decide) (fun L st S k => k) k
theorem b_X8_has_17 {h : Nat} {L : LVs} {st : List AV} {S : ST} {Q : Option AV → ST → Prop} (k : t_zr st S Q) : V MX8_has h 17 L st S Q :=
  w_zr dX8_has_17 rfl k
-- QueryForge$Tables.tableAt(I)LQueryForge$Table;
theorem dX8_tableAt_0 : decode cX8_tableAt 0 = .ok (.aload_n 0, 1) := by decide +kernel
theorem dX8_tableAt_1 : decode cX8_tableAt 1 = .ok (.getfield 11, 3) := by decide +kernel
theorem dX8_tableAt_4 : decode cX8_tableAt 4 = .ok (.iload_n 1, 1) := by decide +kernel
theorem dX8_tableAt_5 : decode cX8_tableAt 5 = .ok (.ifCond .lt 12, 3) := by decide +kernel
theorem dX8_tableAt_8 : decode cX8_tableAt 8 = .ok (.iload_n 1, 1) := by decide +kernel
theorem dX8_tableAt_9 : decode cX8_tableAt 9 = .ok (.iconst 4, 1) := by decide +kernel
theorem dX8_tableAt_10 : decode cX8_tableAt 10 = .ok (.if_icmp .ge 7, 3) := by decide +kernel
theorem dX8_tableAt_13 : decode cX8_tableAt 13 = .ok (.iload_n 1, 1) := by decide +kernel
theorem dX8_tableAt_14 : decode cX8_tableAt 14 = .ok (.goto 4, 3) := by decide +kernel
theorem dX8_tableAt_17 : decode cX8_tableAt 17 = .ok (.iconst 0, 1) := by decide +kernel
theorem dX8_tableAt_18 : decode cX8_tableAt 18 = .ok (.aaload, 1) := by decide +kernel
theorem dX8_tableAt_19 : decode cX8_tableAt 19 = .ok (.areturn, 1) := by decide +kernel
theorem b_X8_tableAt_0 {h : Nat} {L : LVs} {st : List AV} {S : ST} {Q : Option AV → ST → Prop} (k : o_al L st S (fun L st S => o_get L st S (fun L st S => o_il L st S (fun L st S => t_1 L st S (fun x => x < nI 0) (fun L st S => V MX8_tableAt h 17 L st S Q) (fun L st S => V MX8_tableAt h 8 L st S Q)) 1) 8 0 (3, 36, 0)) 0) : V MX8_tableAt h 0 L st S Q :=
  v_aload_n dX8_tableAt_0 rfl (fun L st S k => v_get dX8_tableAt_1 rfl iX8 LY_8 rfl (by decide) rfl fl_X8_11 (fun L st S k => v_iload_n dX8_tableAt_4 rfl (fun L st S k => w_if_lt dX8_tableAt_5 (by decide) rfl k) k) k) k
theorem b_X8_tableAt_8 {h : Nat} {L : LVs} {st : List AV} {S : ST} {Q : Option AV → ST → Prop} (k : o_il L st S (fun L st S => o_c L st S (fun L st S => t_2 L st S (fun x y => y ≤ x) (fun L st S => V MX8_tableAt h 17 L st S Q) (fun L st S => V MX8_tableAt h 13 L st S Q)) (nI 4)) 1) : V MX8_tableAt h 8 L st S Q :=
  v_iload_n dX8_tableAt_8 rfl (fun L st S k => v_iconst dX8_tableAt_9 (by decide) (fun L st S k => w_icmp_ge dX8_tableAt_10 (by decide) rfl k) k) k
theorem b_X8_tableAt_13 {h : Nat} {L : LVs} {st : List AV} {S : ST} {Q : Option AV → ST → Prop} (k : o_il L st S (fun L st S => V MX8_tableAt h 18 L st S Q) 1) : V MX8_tableAt h 13 L st S Q :=
  v_iload_n dX8_tableAt_13 rfl (fun L st S k => v_goto dX8_tableAt_14 (by decide) k) k
theorem b_X8_tableAt_17 {h : Nat} {L : LVs} {st : List AV} {S : ST} {Q : Option AV → ST → Prop} (k : o_c L st S (fun L st S => V MX8_tableAt h 18 L st S Q) (nI 0)) : V MX8_tableAt h 17 L st S Q :=
  v_iconst dX8_tableAt_17 (by decide) (fun L st S k => k) k
theorem b_X8_tableAt_18 {h : Nat} {L : LVs} {st : List AV} {S : ST} {Q : Option AV → ST → Prop} (k : o_aald L st S (fun L st S => t_ar st S Q)) : V MX8_tableAt h 18 L st S Q :=
  v_aaload dX8_tableAt_18 (fun L st S k => w_ar dX8_tableAt_19 rfl k) k
-- QueryForge$Tables.find(I)I
theorem dX8_find_0 : decode cX8_find 0 = .ok (.iconst 0, 1) := by decide +kernel
theorem dX8_find_1 : decode cX8_find 1 = .ok (.istore_n 2, 1) := by decide +kernel
theorem dX8_find_2 : decode cX8_find 2 = .ok (.iload_n 2, 1) := by decide +kernel
theorem dX8_find_3 : decode cX8_find 3 = .ok (.aload_n 0, 1) := by decide +kernel
theorem dX8_find_4 : decode cX8_find 4 = .ok (.getfield 18, 3) := by decide +kernel
theorem dX8_find_7 : decode cX8_find 7 = .ok (.if_icmp .ge 24, 3) := by decide +kernel
theorem dX8_find_10 : decode cX8_find 10 = .ok (.aload_n 0, 1) := by decide +kernel
theorem dX8_find_11 : decode cX8_find 11 = .ok (.getfield 11, 3) := by decide +kernel
theorem dX8_find_14 : decode cX8_find 14 = .ok (.iload_n 2, 1) := by decide +kernel
theorem dX8_find_15 : decode cX8_find 15 = .ok (.aaload, 1) := by decide +kernel
theorem dX8_find_16 : decode cX8_find 16 = .ok (.invokevirtual 22, 3) := by decide +kernel
theorem dX8_find_19 : decode cX8_find 19 = .ok (.iload_n 1, 1) := by decide +kernel
theorem dX8_find_20 : decode cX8_find 20 = .ok (.if_icmp .ne 5, 3) := by decide +kernel
theorem dX8_find_23 : decode cX8_find 23 = .ok (.iload_n 2, 1) := by decide +kernel
theorem dX8_find_24 : decode cX8_find 24 = .ok (.ireturn, 1) := by decide +kernel
theorem dX8_find_25 : decode cX8_find 25 = .ok (.iinc 2 1, 3) := by decide +kernel
theorem dX8_find_28 : decode cX8_find 28 = .ok (.goto (-26), 3) := by decide +kernel
theorem dX8_find_31 : decode cX8_find 31 = .ok (.iconst (-1), 1) := by decide +kernel
theorem dX8_find_32 : decode cX8_find 32 = .ok (.ireturn, 1) := by decide +kernel
theorem b_X8_find_0 {h : Nat} {L : LVs} {st : List AV} {S : ST} {Q : Option AV → ST → Prop} (k : o_c L st S (fun L st S => o_is L st S (fun L st S => V MX8_find h 2 L st S Q) 2) (nI 0)) : V MX8_find h 0 L st S Q :=
  v_iconst dX8_find_0 (by decide) (fun L st S k => v_istore_n dX8_find_1 rfl (by decide) (fun L st S k => k) k) k
theorem b_X8_find_2 {h : Nat} {L : LVs} {st : List AV} {S : ST} {Q : Option AV → ST → Prop} (k : o_il L st S (fun L st S => o_al L st S (fun L st S => o_get L st S (fun L st S => t_2 L st S (fun x y => y ≤ x) (fun L st S => V MX8_find h 31 L st S Q) (fun L st S => V MX8_find h 10 L st S Q)) 8 1 (0, 0, 0)) 0) 2) : V MX8_find h 2 L st S Q :=
  v_iload_n dX8_find_2 rfl (fun L st S k => v_aload_n dX8_find_3 rfl (fun L st S k => v_get dX8_find_4 rfl iX8 LY_8 rfl (by decide) rfl fl_X8_18 (fun L st S k => w_icmp_ge dX8_find_7 (by decide) rfl k) k) k) k
theorem b_X8_find_10 {h : Nat} {L : LVs} {st : List AV} {S : ST} {Q : Option AV → ST → Prop} (k : o_al L st S (fun L st S => o_get L st S (fun L st S => o_il L st S (fun L st S => o_aald L st S (fun L st S => V MX8_find h 16 L st S Q)) 2) 8 0 (3, 36, 0)) 0) : V MX8_find h 10 L st S Q :=
  v_aload_n dX8_find_10 rfl (fun L st S k => v_get dX8_find_11 rfl iX8 LY_8 rfl (by decide) rfl fl_X8_11 (fun L st S k => v_iload_n dX8_find_14 rfl (fun L st S k => v_aaload dX8_find_15 (fun L st S k => k) k) k) k) k
theorem k_X8_find_16 {h : Nat} {L : LVs} {st : List AV} {S : ST} {Q Q' : Option AV → ST → Prop} {j : Nat} (hC : Ct MX7_ownName h [vR 7 j] S Q') (k : ∀ (r : Option AV) (S' : ST), Q' r S' → V MX8_find (h + 1) 19 L (r.toList ++ st) S' Q) (hj : j < NI 7) (hw : wid st ≤ 8) : V MX8_find (h + 1) 16 L (vR 7 j :: st) S Q :=
  v_callV (M' := MX7_ownName) (c := 7) (As := []) dX8_find_16 ml_X8_22 im_X7_ownName se_X7_ownName in_X7 cd_X7_ownName rfl LY_7 np_X7_ownName (by decide) hw hj hC k
theorem b_X8_find_19 {h : Nat} {L : LVs} {st : List AV} {S : ST} {Q : Option AV → ST → Prop} (k : o_il L st S (fun L st S => t_2 L st S (fun x y => x = y) (fun L st S => V MX8_find h 23 L st S Q) (fun L st S => V MX8_find h 25 L st S Q)) 1) : V MX8_find h 19 L st S Q :=
  v_iload_n dX8_find_19 rfl (fun L st S k => w_icmp_ne dX8_find_20 (by decide) rfl k) k
theorem b_X8_find_23 {h : Nat} {L : LVs} {st : List AV} {S : ST} {Q : Option AV → ST → Prop} (k : o_il L st S (fun L st S => t_ir st S Q) 2) : V MX8_find h 23 L st S Q :=
  v_iload_n dX8_find_23 rfl (fun L st S k => w_ir dX8_find_24 rfl k) k
theorem b_X8_find_25 {h : Nat} {L : LVs} {st : List AV} {S : ST} {Q : Option AV → ST → Prop} (k : o_inc L st S (fun L st S => V MX8_find h 2 L st S Q) 2 (nI 1)) : V MX8_find h 25 L st S Q :=
  v_iinc dX8_find_25 (by decide) (by decide) (fun L st S k => v_goto dX8_find_28 (by decide) k) k
theorem b_X8_find_31 {h : Nat} {L : LVs} {st : List AV} {S : ST} {Q : Option AV → ST → Prop} (k : o_c L st S (fun L st S => t_ir st S Q) (-1)) : V MX8_find h 31 L st S Q :=
  v_iconst dX8_find_31 (by decide) (fun L st S k => w_ir dX8_find_32 rfl k) k
-- QueryForge$Tables.isFull()Z
theorem dX8_isFull_0 : decode cX8_isFull 0 = .ok (.aload_n 0, 1) := by decide +kernel
theorem dX8_isFull_1 : decode cX8_isFull 1 = .ok (.getfield 18, 3) := by decide +kernel
theorem dX8_isFull_4 : decode cX8_isFull 4 = .ok (.iconst 4, 1) := by decide +kernel
theorem dX8_isFull_5 : decode cX8_isFull 5 = .ok (.if_icmp .lt 7, 3) := by decide +kernel
theorem dX8_isFull_8 : decode cX8_isFull 8 = .ok (.iconst 1, 1) := by decide +kernel
theorem dX8_isFull_9 : decode cX8_isFull 9 = .ok (.goto 4, 3) := by decide +kernel
theorem dX8_isFull_12 : decode cX8_isFull 12 = .ok (.iconst 0, 1) := by decide +kernel
theorem dX8_isFull_13 : decode cX8_isFull 13 = .ok (.ireturn, 1) := by decide +kernel
theorem b_X8_isFull_0 {h : Nat} {L : LVs} {st : List AV} {S : ST} {Q : Option AV → ST → Prop} (k : o_al L st S (fun L st S => o_get L st S (fun L st S => o_c L st S (fun L st S => t_2 L st S (fun x y => x < y) (fun L st S => V MX8_isFull h 12 L st S Q) (fun L st S => V MX8_isFull h 8 L st S Q)) (nI 4)) 8 1 (0, 0, 0)) 0) : V MX8_isFull h 0 L st S Q :=
  v_aload_n dX8_isFull_0 rfl (fun L st S k => v_get dX8_isFull_1 rfl iX8 LY_8 rfl (by decide) rfl fl_X8_18 (fun L st S k => v_iconst dX8_isFull_4 (by decide) (fun L st S k => w_icmp_lt dX8_isFull_5 (by decide) rfl k) k) k) k
theorem b_X8_isFull_8 {h : Nat} {L : LVs} {st : List AV} {S : ST} {Q : Option AV → ST → Prop} (k : o_c L st S (fun L st S => V MX8_isFull h 13 L st S Q) (nI 1)) : V MX8_isFull h 8 L st S Q :=
  v_iconst dX8_isFull_8 (by decide) (fun L st S k => v_goto dX8_isFull_9 (by decide) k) k
theorem b_X8_isFull_12 {h : Nat} {L : LVs} {st : List AV} {S : ST} {Q : Option AV → ST → Prop} (k : o_c L st S (fun L st S => V MX8_isFull h 13 L st S Q) (nI 0)) : V MX8_isFull h 12 L st S Q :=
  v_iconst dX8_isFull_12 (by decide) (fun L st S k => k) k
theorem b_X8_isFull_13 {h : Nat} {L : LVs} {st : List AV} {S : ST} {Q : Option AV → ST → Prop} (k : t_zr st S Q) : V MX8_isFull h 13 L st S Q :=
  w_zr dX8_isFull_13 rfl k
-- QueryForge$Tables.addNextColumn(II)V
theorem dX8_addNextColumn_0 : decode cX8_addNextColumn 0 = .ok (.aload_n 0, 1) := by decide +kernel
theorem dX8_addNextColumn_1 : decode cX8_addNextColumn 1 = .ok (.getfield 18, 3) := by decide +kernel
theorem dX8_addNextColumn_4 : decode cX8_addNextColumn 4 = .ok (.iconst 4, 1) := by decide +kernel
theorem dX8_addNextColumn_5 : decode cX8_addNextColumn 5 = .ok (.if_icmp .ge 17, 3) := by decide +kernel
theorem dX8_addNextColumn_8 : decode cX8_addNextColumn 8 = .ok (.aload_n 0, 1) := by decide +kernel
theorem dX8_addNextColumn_9 : decode cX8_addNextColumn 9 = .ok (.getfield 11, 3) := by decide +kernel
theorem dX8_addNextColumn_12 : decode cX8_addNextColumn 12 = .ok (.aload_n 0, 1) := by decide +kernel
theorem dX8_addNextColumn_13 : decode cX8_addNextColumn 13 = .ok (.getfield 18, 3) := by decide +kernel
theorem dX8_addNextColumn_16 : decode cX8_addNextColumn 16 = .ok (.aaload, 1) := by decide +kernel
theorem dX8_addNextColumn_17 : decode cX8_addNextColumn 17 = .ok (.iload_n 1, 1) := by decide +kernel
theorem dX8_addNextColumn_18 : decode cX8_addNextColumn 18 = .ok (.iload_n 2, 1) := by decide +kernel
theorem dX8_addNextColumn_19 : decode cX8_addNextColumn 19 = .ok (.invokevirtual 26, 3) := by decide +kernel
theorem dX8_addNextColumn_22 : decode cX8_addNextColumn 22 = .ok (.return_, 1) := by decide +kernel
theorem b_X8_addNextColumn_0 {h : Nat} {L : LVs} {st : List AV} {S : ST} {Q : Option AV → ST → Prop} (k : o_al L st S (fun L st S => o_get L st S (fun L st S => o_c L st S (fun L st S => t_2 L st S (fun x y => y ≤ x) (fun L st S => V MX8_addNextColumn h 22 L st S Q) (fun L st S => V MX8_addNextColumn h 8 L st S Q)) (nI 4)) 8 1 (0, 0, 0)) 0) : V MX8_addNextColumn h 0 L st S Q :=
  v_aload_n dX8_addNextColumn_0 rfl (fun L st S k => v_get dX8_addNextColumn_1 rfl iX8 LY_8 rfl (by decide) rfl fl_X8_18 (fun L st S k => v_iconst dX8_addNextColumn_4 (by decide) (fun L st S k => w_icmp_ge dX8_addNextColumn_5 (by decide) rfl k) k) k) k
theorem b_X8_addNextColumn_8 {h : Nat} {L : LVs} {st : List AV} {S : ST} {Q : Option AV → ST → Prop} (k : o_al L st S (fun L st S => o_get L st S (fun L st S => o_al L st S (fun L st S => o_get L st S (fun L st S => o_aald L st S (fun L st S => o_il L st S (fun L st S => o_il L st S (fun L st S => V MX8_addNextColumn h 19 L st S Q) 2) 1)) 8 1 (0, 0, 0)) 0) 8 0 (3, 36, 0)) 0) : V MX8_addNextColumn h 8 L st S Q :=
  v_aload_n dX8_addNextColumn_8 rfl (fun L st S k => v_get dX8_addNextColumn_9 rfl iX8 LY_8 rfl (by decide) rfl fl_X8_11 (fun L st S k => v_aload_n dX8_addNextColumn_12 rfl (fun L st S k => v_get dX8_addNextColumn_13 rfl iX8 LY_8 rfl (by decide) rfl fl_X8_18 (fun L st S k => v_aaload dX8_addNextColumn_16 (fun L st S k => v_iload_n dX8_addNextColumn_17 rfl (fun L st S k => v_iload_n dX8_addNextColumn_18 rfl (fun L st S k => k) k) k) k) k) k) k) k
theorem k_X8_addNextColumn_19 {h : Nat} {L : LVs} {st : List AV} {S : ST} {Q Q' : Option AV → ST → Prop} {j : Nat} {a0 a1 : AV} (hC : Ct MX7_addColumn h [vR 7 j, a0, a1] S Q') (k : ∀ (r : Option AV) (S' : ST), Q' r S' → V MX8_addNextColumn (h + 1) 22 L (r.toList ++ st) S' Q) (hj : j < NI 7) (hw : wid st ≤ 8) : V MX8_addNextColumn (h + 1) 19 L (a1 :: a0 :: vR 7 j :: st) S Q :=
  v_callV (M' := MX7_addColumn) (c := 7) (As := [a0, a1]) dX8_addNextColumn_19 ml_X8_26 im_X7_addColumn se_X7_addColumn in_X7 cd_X7_addColumn rfl LY_7 np_X7_addColumn (by decide) hw hj hC k
theorem b_X8_addNextColumn_22 {h : Nat} {L : LVs} {st : List AV} {S : ST} {Q : Option AV → ST → Prop} (k : t_vr st S Q) : V MX8_addNextColumn h 22 L st S Q :=
  w_vr dX8_addNextColumn_22 rfl k
-- QueryForge$Tables.append(I)V
theorem dX8_append_0 : decode cX8_append 0 = .ok (.aload_n 0, 1) := by decide +kernel
theorem dX8_append_1 : decode cX8_append 1 = .ok (.getfield 18, 3) := by decide +kernel
theorem dX8_append_4 : decode cX8_append 4 = .ok (.iconst 4, 1) := by decide +kernel
theorem dX8_append_5 : decode cX8_append 5 = .ok (.if_icmp .ge 26, 3) := by decide +kernel
theorem dX8_append_8 : decode cX8_append 8 = .ok (.aload_n 0, 1) := by decide +kernel
theorem dX8_append_9 : decode cX8_append 9 = .ok (.getfield 11, 3) := by decide +kernel
theorem dX8_append_12 : decode cX8_append 12 = .ok (.aload_n 0, 1) := by decide +kernel
theorem dX8_append_13 : decode cX8_append 13 = .ok (.getfield 18, 3) := by decide +kernel
theorem dX8_append_16 : decode cX8_append 16 = .ok (.aaload, 1) := by decide +kernel
theorem dX8_append_17 : decode cX8_append 17 = .ok (.iload_n 1, 1) := by decide +kernel
theorem dX8_append_18 : decode cX8_append 18 = .ok (.invokevirtual 30, 3) := by decide +kernel
theorem dX8_append_21 : decode cX8_append 21 = .ok (.aload_n 0, 1) := by decide +kernel
theorem dX8_append_22 : decode cX8_append 22 = .ok (.dup, 1) := by decide +kernel
theorem dX8_append_23 : decode cX8_append 23 = .ok (.getfield 18, 3) := by decide +kernel
theorem dX8_append_26 : decode cX8_append 26 = .ok (.iconst 1, 1) := by decide +kernel
theorem dX8_append_27 : decode cX8_append 27 = .ok (.iadd, 1) := by decide +kernel
theorem dX8_append_28 : decode cX8_append 28 = .ok (.putfield 18, 3) := by decide +kernel
theorem dX8_append_31 : decode cX8_append 31 = .ok (.return_, 1) := by decide +kernel
theorem b_X8_append_0 {h : Nat} {L : LVs} {st : List AV} {S : ST} {Q : Option AV → ST → Prop} (k : o_al L st S (fun L st S => o_get L st S (fun L st S => o_c L st S (fun L st S => t_2 L st S (fun x y => y ≤ x) (fun L st S => V MX8_append h 31 L st S Q) (fun L st S => V MX8_append h 8 L st S Q)) (nI 4)) 8 1 (0, 0, 0)) 0) : V MX8_append h 0 L st S Q :=
  v_aload_n dX8_append_0 rfl (fun L st S k => v_get dX8_append_1 rfl iX8 LY_8 rfl (by decide) rfl fl_X8_18 (fun L st S k => v_iconst dX8_append_4 (by decide) (fun L st S k => w_icmp_ge dX8_append_5 (by decide) rfl k) k) k) k
theorem b_X8_append_8 {h : Nat} {L : LVs} {st : List AV} {S : ST} {Q : Option AV → ST → Prop} (k : o_al L st S (fun L st S => o_get L st S (fun L st S => o_al L st S (fun L st S => o_get L st S (fun L st S => o_aald L st S (fun L st S => o_il L st S (fun L st S => V MX8_append h 18 L st S Q) 1)) 8 1 (0, 0, 0)) 0) 8 0 (3, 36, 0)) 0) : V MX8_append h 8 L st S Q :=
  v_aload_n dX8_append_8 rfl (fun L st S k => v_get dX8_append_9 rfl iX8 LY_8 rfl (by decide) rfl fl_X8_11 (fun L st S k => v_aload_n dX8_append_12 rfl (fun L st S k => v_get dX8_append_13 rfl iX8 LY_8 rfl (by decide) rfl fl_X8_18 (fun L st S k => v_aaload dX8_append_16 (fun L st S k => v_iload_n dX8_append_17 rfl (fun L st S k => k) k) k) k) k) k) k
theorem k_X8_append_18 {h : Nat} {L : LVs} {st : List AV} {S : ST} {Q Q' : Option AV → ST → Prop} {j : Nat} {a0 : AV} (hC : Ct MX7_setName h [vR 7 j, a0] S Q') (k : ∀ (r : Option AV) (S' : ST), Q' r S' → V MX8_append (h + 1) 21 L (r.toList ++ st) S' Q) (hj : j < NI 7) (hw : wid st ≤ 8) : V MX8_append (h + 1) 18 L (a0 :: vR 7 j :: st) S Q :=
  v_callV (M' := MX7_setName) (c := 7) (As := [a0]) dX8_append_18 ml_X8_30 im_X7_setName se_X7_setName in_X7 cd_X7_setName rfl LY_7 np_X7_setName (by decide) hw hj hC k
theorem b_X8_append_21 {h : Nat} {L : LVs} {st : List AV} {S : ST} {Q : Option AV → ST → Prop} (k : o_al L st S (fun L st S => o_dup L st S (fun L st S => o_get L st S (fun L st S => o_c L st S (fun L st S => o_iadd L st S (fun L st S => o_puti L st S (fun L st S => V MX8_append h 31 L st S Q) 8 1)) (nI 1)) 8 1 (0, 0, 0))) 0) : V MX8_append h 21 L st S Q :=
  v_aload_n dX8_append_21 rfl (fun L st S k => v_dup dX8_append_22 (fun L st S k => v_get dX8_append_23 rfl iX8 LY_8 rfl (by decide) rfl fl_X8_18 (fun L st S k => v_iconst dX8_append_26 (by decide) (fun L st S k => v_iadd dX8_append_27 (fun L st S k => v_puti dX8_append_28 rfl iX8 tyX8_ok nmX8 LY_8 rfl (by decide) rfl fl_X8_18 rfl rfl (fun L st S k => k) k) k) k) k) k) k
theorem b_X8_append_31 {h : Nat} {L : LVs} {st : List AV} {S : ST} {Q : Option AV → ST → Prop} (k : t_vr st S Q) : V MX8_append h 31 L st S Q :=
  w_vr dX8_append_31 rfl k
