-- QueryForgeModel.unit(I)Z
theorem dX11_unit_0 : decode cX11_unit 0 = .ok (.iload_n 1, 1) := by decide +kernel
theorem dX11_unit_1 : decode cX11_unit 1 = .ok (.bipush 32, 2) := by decide +kernel
theorem dX11_unit_3 : decode cX11_unit 3 = .ok (.if_icmp .lt 19, 3) := by decide +kernel
theorem dX11_unit_6 : decode cX11_unit 6 = .ok (.iload_n 1, 1) := by decide +kernel
theorem dX11_unit_7 : decode cX11_unit 7 = .ok (.bipush 126, 2) := by decide +kernel
theorem dX11_unit_9 : decode cX11_unit 9 = .ok (.if_icmp .gt 13, 3) := by decide +kernel
theorem dX11_unit_12 : decode cX11_unit 12 = .ok (.aload_n 0, 1) := by decide +kernel
theorem dX11_unit_13 : decode cX11_unit 13 = .ok (.getfield 102, 3) := by decide +kernel
theorem dX11_unit_16 : decode cX11_unit 16 = .ok (.sipush 200, 3) := by decide +kernel
theorem dX11_unit_19 : decode cX11_unit 19 = .ok (.if_icmp .ne 5, 3) := by decide +kernel
theorem dX11_unit_22 : decode cX11_unit 22 = .ok (.iconst 0, 1) := by decide +kernel
theorem dX11_unit_23 : decode cX11_unit 23 = .ok (.ireturn, 1) := by decide +kernel
theorem dX11_unit_24 : decode cX11_unit 24 = .ok (.aload_n 0, 1) := by decide +kernel
theorem dX11_unit_25 : decode cX11_unit 25 = .ok (.getfield 7, 3) := by decide +kernel
theorem dX11_unit_28 : decode cX11_unit 28 = .ok (.aload_n 0, 1) := by decide +kernel
theorem dX11_unit_29 : decode cX11_unit 29 = .ok (.getfield 102, 3) := by decide +kernel
theorem dX11_unit_32 : decode cX11_unit 32 = .ok (.iload_n 1, 1) := by decide +kernel
theorem dX11_unit_33 : decode cX11_unit 33 = .ok (.iastore, 1) := by decide +kernel
theorem dX11_unit_34 : decode cX11_unit 34 = .ok (.aload_n 0, 1) := by decide +kernel
theorem dX11_unit_35 : decode cX11_unit 35 = .ok (.dup, 1) := by decide +kernel
theorem dX11_unit_36 : decode cX11_unit 36 = .ok (.getfield 102, 3) := by decide +kernel
theorem dX11_unit_39 : decode cX11_unit 39 = .ok (.iconst 1, 1) := by decide +kernel
theorem dX11_unit_40 : decode cX11_unit 40 = .ok (.iadd, 1) := by decide +kernel
theorem dX11_unit_41 : decode cX11_unit 41 = .ok (.putfield 102, 3) := by decide +kernel
theorem dX11_unit_44 : decode cX11_unit 44 = .ok (.iconst 1, 1) := by decide +kernel
theorem dX11_unit_45 : decode cX11_unit 45 = .ok (.ireturn, 1) := by decide +kernel
theorem b_X11_unit_0 {h : Nat} {L : LVs} {st : List AV} {S : ST} {Q : Option AV → ST → Prop} (k : o_il L st S (fun L st S => o_c L st S (fun L st S => t_2 L st S (fun x y => x < y) (fun L st S => V MX11_unit h 22 L st S Q) (fun L st S => V MX11_unit h 6 L st S Q)) (nI 32)) 1) : V MX11_unit h 0 L st S Q :=
  v_iload_n dX11_unit_0 rfl (fun L st S k => v_bipush dX11_unit_1 (by decide) (fun L st S k => w_icmp_lt dX11_unit_3 (by decide) rfl k) k) k
theorem b_X11_unit_6 {h : Nat} {L : LVs} {st : List AV} {S : ST} {Q : Option AV → ST → Prop} (k : o_il L st S (fun L st S => o_c L st S (fun L st S => t_2 L st S (fun x y => y < x) (fun L st S => V MX11_unit h 22 L st S Q) (fun L st S => V MX11_unit h 12 L st S Q)) (nI 126)) 1) : V MX11_unit h 6 L st S Q :=
  v_iload_n dX11_unit_6 rfl (fun L st S k => v_bipush dX11_unit_7 (by decide) (fun L st S k => w_icmp_gt dX11_unit_9 (by decide) rfl k) k) k
theorem b_X11_unit_12 {h : Nat} {L : LVs} {st : List AV} {S : ST} {Q : Option AV → ST → Prop} (k : o_al L st S (fun L st S => o_get L st S (fun L st S => o_c L st S (fun L st S => t_2 L st S (fun x y => x = y) (fun L st S => V MX11_unit h 22 L st S Q) (fun L st S => V MX11_unit h 24 L st S Q)) (nI 200)) 11 1 (0, 0, 0)) 0) : V MX11_unit h 12 L st S Q :=
  v_aload_n dX11_unit_12 rfl (fun L st S k => v_get dX11_unit_13 rfl iX11 LY_11 rfl (by decide) rfl fl_X11_102 (fun L st S k => v_sipush dX11_unit_16 (by decide) (fun L st S k => w_icmp_ne dX11_unit_19 (by decide) rfl k) k) k) k
theorem b_X11_unit_22 {h : Nat} {L : LVs} {st : List AV} {S : ST} {Q : Option AV → ST → Prop} (k : o_c L st S (fun L st S => t_zr st S Q) (nI 0)) : V MX11_unit h 22 L st S Q :=
  v_iconst dX11_unit_22 (by decide) (fun L st S k => w_zr dX11_unit_23 rfl k) k
theorem b_X11_unit_24 {h : Nat} {L : LVs} {st : List AV} {S : ST} {Q : Option AV → ST → Prop} (k : o_al L st S (fun L st S => o_get L st S (fun L st S => o_al L st S (fun L st S => o_get L st S (fun L st S => o_il L st S (fun L st S => o_iast L st S (fun L st S => o_al L st S (fun L st S => o_dup L st S (fun L st S => o_get L st S (fun L st S => o_c L st S (fun L st S => o_iadd L st S (fun L st S => o_puti L st S (fun L st S => o_c L st S (fun L st S => t_zr st S Q) (nI 1)) 11 1)) (nI 1)) 11 1 (0, 0, 0))) 0)) 1) 11 1 (0, 0, 0)) 0) 11 0 (3, 40, 0)) 0) : V MX11_unit h 24 L st S Q :=
  v_aload_n dX11_unit_24 rfl (fun L st S k => v_get dX11_unit_25 rfl iX11 LY_11 rfl (by decide) rfl fl_X11_7 (fun L st S k => v_aload_n dX11_unit_28 rfl (fun L st S k => v_get dX11_unit_29 rfl iX11 LY_11 rfl (by decide) rfl fl_X11_102 (fun L st S k => v_iload_n dX11_unit_32 rfl (fun L st S k => v_iastore dX11_unit_33 (fun L st S k => v_aload_n dX11_unit_34 rfl (fun L st S k => v_dup dX11_unit_35 (fun L st S k => v_get dX11_unit_36 rfl iX11 LY_11 rfl (by decide) rfl fl_X11_102 (fun L st S k => v_iconst dX11_unit_39 (by decide) (fun L st S k => v_iadd dX11_unit_40 (fun L st S k => v_puti dX11_unit_41 rfl iX11 tyX11_ok nmX11 LY_11 rfl (by decide) rfl fl_X11_102 rfl rfl (fun L st S k => v_iconst dX11_unit_44 (by decide) (fun L st S k => w_zr dX11_unit_45 rfl k) k) k) k) k) k) k) k) k) k) k) k) k) k
-- QueryForgeModel.isLetter(I)Z
theorem dX11_isLetter_0 : decode cX11_isLetter 0 = .ok (.iload_n 0, 1) := by decide +kernel
theorem dX11_isLetter_1 : decode cX11_isLetter 1 = .ok (.bipush 97, 2) := by decide +kernel
theorem dX11_isLetter_3 : decode cX11_isLetter 3 = .ok (.if_icmp .lt 13, 3) := by decide +kernel
theorem dX11_isLetter_6 : decode cX11_isLetter 6 = .ok (.iload_n 0, 1) := by decide +kernel
theorem dX11_isLetter_7 : decode cX11_isLetter 7 = .ok (.bipush 122, 2) := by decide +kernel
theorem dX11_isLetter_9 : decode cX11_isLetter 9 = .ok (.if_icmp .gt 7, 3) := by decide +kernel
theorem dX11_isLetter_12 : decode cX11_isLetter 12 = .ok (.iconst 1, 1) := by decide +kernel
theorem dX11_isLetter_13 : decode cX11_isLetter 13 = .ok (.goto 4, 3) := by decide +kernel
theorem dX11_isLetter_16 : decode cX11_isLetter 16 = .ok (.iconst 0, 1) := by decide +kernel
theorem dX11_isLetter_17 : decode cX11_isLetter 17 = .ok (.ireturn, 1) := by decide +kernel
theorem b_X11_isLetter_0 {h : Nat} {L : LVs} {st : List AV} {S : ST} {Q : Option AV → ST → Prop} (k : o_il L st S (fun L st S => o_c L st S (fun L st S => t_2 L st S (fun x y => x < y) (fun L st S => V MX11_isLetter h 16 L st S Q) (fun L st S => V MX11_isLetter h 6 L st S Q)) (nI 97)) 0) : V MX11_isLetter h 0 L st S Q :=
  v_iload_n dX11_isLetter_0 rfl (fun L st S k => v_bipush dX11_isLetter_1 (by decide) (fun L st S k => w_icmp_lt dX11_isLetter_3 (by decide) rfl k) k) k
theorem b_X11_isLetter_6 {h : Nat} {L : LVs} {st : List AV} {S : ST} {Q : Option AV → ST → Prop} (k : o_il L st S (fun L st S => o_c L st S (fun L st S => t_2 L st S (fun x y => y < x) (fun L st S => V MX11_isLetter h 16 L st S Q) (fun L st S => V MX11_isLetter h 12 L st S Q)) (nI 122)) 0) : V MX11_isLetter h 6 L st S Q :=
  v_iload_n dX11_isLetter_6 rfl (fun L st S k => v_bipush dX11_isLetter_7 (by decide) (fun L st S k => w_icmp_gt dX11_isLetter_9 (by decide) rfl k) k) k
theorem b_X11_isLetter_12 {h : Nat} {L : LVs} {st : List AV} {S : ST} {Q : Option AV → ST → Prop} (k : o_c L st S (fun L st S => V MX11_isLetter h 17 L st S Q) (nI 1)) : V MX11_isLetter h 12 L st S Q :=
  v_iconst dX11_isLetter_12 (by decide) (fun L st S k => v_goto dX11_isLetter_13 (by decide) k) k
theorem b_X11_isLetter_16 {h : Nat} {L : LVs} {st : List AV} {S : ST} {Q : Option AV → ST → Prop} (k : o_c L st S (fun L st S => V MX11_isLetter h 17 L st S Q) (nI 0)) : V MX11_isLetter h 16 L st S Q :=
  v_iconst dX11_isLetter_16 (by decide) (fun L st S k => k) k
theorem b_X11_isLetter_17 {h : Nat} {L : LVs} {st : List AV} {S : ST} {Q : Option AV → ST → Prop} (k : t_zr st S Q) : V MX11_isLetter h 17 L st S Q :=
  w_zr dX11_isLetter_17 rfl k
-- QueryForgeModel.isDigit(I)Z
theorem dX11_isDigit_0 : decode cX11_isDigit 0 = .ok (.iload_n 0, 1) := by decide +kernel
theorem dX11_isDigit_1 : decode cX11_isDigit 1 = .ok (.bipush 48, 2) := by decide +kernel
theorem dX11_isDigit_3 : decode cX11_isDigit 3 = .ok (.if_icmp .lt 13, 3) := by decide +kernel
theorem dX11_isDigit_6 : decode cX11_isDigit 6 = .ok (.iload_n 0, 1) := by decide +kernel
theorem dX11_isDigit_7 : decode cX11_isDigit 7 = .ok (.bipush 57, 2) := by decide +kernel
theorem dX11_isDigit_9 : decode cX11_isDigit 9 = .ok (.if_icmp .gt 7, 3) := by decide +kernel
theorem dX11_isDigit_12 : decode cX11_isDigit 12 = .ok (.iconst 1, 1) := by decide +kernel
theorem dX11_isDigit_13 : decode cX11_isDigit 13 = .ok (.goto 4, 3) := by decide +kernel
theorem dX11_isDigit_16 : decode cX11_isDigit 16 = .ok (.iconst 0, 1) := by decide +kernel
theorem dX11_isDigit_17 : decode cX11_isDigit 17 = .ok (.ireturn, 1) := by decide +kernel
theorem b_X11_isDigit_0 {h : Nat} {L : LVs} {st : List AV} {S : ST} {Q : Option AV → ST → Prop} (k : o_il L st S (fun L st S => o_c L st S (fun L st S => t_2 L st S (fun x y => x < y) (fun L st S => V MX11_isDigit h 16 L st S Q) (fun L st S => V MX11_isDigit h 6 L st S Q)) (nI 48)) 0) : V MX11_isDigit h 0 L st S Q :=
  v_iload_n dX11_isDigit_0 rfl (fun L st S k => v_bipush dX11_isDigit_1 (by decide) (fun L st S k => w_icmp_lt dX11_isDigit_3 (by decide) rfl k) k) k
theorem b_X11_isDigit_6 {h : Nat} {L : LVs} {st : List AV} {S : ST} {Q : Option AV → ST → Prop} (k : o_il L st S (fun L st S => o_c L st S (fun L st S => t_2 L st S (fun x y => y < x) (fun L st S => V MX11_isDigit h 16 L st S Q) (fun L st S => V MX11_isDigit h 12 L st S Q)) (nI 57)) 0) : V MX11_isDigit h 6 L st S Q :=
  v_iload_n dX11_isDigit_6 rfl (fun L st S k => v_bipush dX11_isDigit_7 (by decide) (fun L st S k => w_icmp_gt dX11_isDigit_9 (by decide) rfl k) k) k
theorem b_X11_isDigit_12 {h : Nat} {L : LVs} {st : List AV} {S : ST} {Q : Option AV → ST → Prop} (k : o_c L st S (fun L st S => V MX11_isDigit h 17 L st S Q) (nI 1)) : V MX11_isDigit h 12 L st S Q :=
  v_iconst dX11_isDigit_12 (by decide) (fun L st S k => v_goto dX11_isDigit_13 (by decide) k) k
theorem b_X11_isDigit_16 {h : Nat} {L : LVs} {st : List AV} {S : ST} {Q : Option AV → ST → Prop} (k : o_c L st S (fun L st S => V MX11_isDigit h 17 L st S Q) (nI 0)) : V MX11_isDigit h 16 L st S Q :=
  v_iconst dX11_isDigit_16 (by decide) (fun L st S k => k) k
theorem b_X11_isDigit_17 {h : Nat} {L : LVs} {st : List AV} {S : ST} {Q : Option AV → ST → Prop} (k : t_zr st S Q) : V MX11_isDigit h 17 L st S Q :=
  w_zr dX11_isDigit_17 rfl k
-- QueryForgeModel.sign(I)I
theorem dX11_sign_0 : decode cX11_sign 0 = .ok (.iload_n 1, 1) := by decide +kernel
theorem dX11_sign_1 : decode cX11_sign 1 = .ok (.aload_n 0, 1) := by decide +kernel
theorem dX11_sign_2 : decode cX11_sign 2 = .ok (.getfield 102, 3) := by decide +kernel
theorem dX11_sign_5 : decode cX11_sign 5 = .ok (.if_icmp .ge 12, 3) := by decide +kernel
theorem dX11_sign_8 : decode cX11_sign 8 = .ok (.aload_n 0, 1) := by decide +kernel
theorem dX11_sign_9 : decode cX11_sign 9 = .ok (.getfield 7, 3) := by decide +kernel
theorem dX11_sign_12 : decode cX11_sign 12 = .ok (.iload_n 1, 1) := by decide +kernel
theorem dX11_sign_13 : decode cX11_sign 13 = .ok (.iaload, 1) := by decide +kernel
theorem dX11_sign_14 : decode cX11_sign 14 = .ok (.goto 4, 3) := by decide +kernel
theorem dX11_sign_17 : decode cX11_sign 17 = .ok (.iconst 0, 1) := by decide +kernel
theorem dX11_sign_18 : decode cX11_sign 18 = .ok (.ireturn, 1) := by decide +kernel
theorem b_X11_sign_0 {h : Nat} {L : LVs} {st : List AV} {S : ST} {Q : Option AV → ST → Prop} (k : o_il L st S (fun L st S => o_al L st S (fun L st S => o_get L st S (fun L st S => t_2 L st S (fun x y => y ≤ x) (fun L st S => V MX11_sign h 17 L st S Q) (fun L st S => V MX11_sign h 8 L st S Q)) 11 1 (0, 0, 0)) 0) 1) : V MX11_sign h 0 L st S Q :=
  v_iload_n dX11_sign_0 rfl (fun L st S k => v_aload_n dX11_sign_1 rfl (fun L st S k => v_get dX11_sign_2 rfl iX11 LY_11 rfl (by decide) rfl fl_X11_102 (fun L st S k => w_icmp_ge dX11_sign_5 (by decide) rfl k) k) k) k
theorem b_X11_sign_8 {h : Nat} {L : LVs} {st : List AV} {S : ST} {Q : Option AV → ST → Prop} (k : o_al L st S (fun L st S => o_get L st S (fun L st S => o_il L st S (fun L st S => o_iald L st S (fun L st S => V MX11_sign h 18 L st S Q)) 1) 11 0 (3, 40, 0)) 0) : V MX11_sign h 8 L st S Q :=
  v_aload_n dX11_sign_8 rfl (fun L st S k => v_get dX11_sign_9 rfl iX11 LY_11 rfl (by decide) rfl fl_X11_7 (fun L st S k => v_iload_n dX11_sign_12 rfl (fun L st S k => v_iaload dX11_sign_13 (fun L st S k => v_goto dX11_sign_14 (by decide) k) k) k) k) k
theorem b_X11_sign_17 {h : Nat} {L : LVs} {st : List AV} {S : ST} {Q : Option AV → ST → Prop} (k : o_c L st S (fun L st S => V MX11_sign h 18 L st S Q) (nI 0)) : V MX11_sign h 17 L st S Q :=
  v_iconst dX11_sign_17 (by decide) (fun L st S k => k) k
theorem b_X11_sign_18 {h : Nat} {L : LVs} {st : List AV} {S : ST} {Q : Option AV → ST → Prop} (k : t_ir st S Q) : V MX11_sign h 18 L st S Q :=
  w_ir dX11_sign_18 rfl k
-- QueryForgeModel.word(IJ)V
theorem dX11_word_0 : decode cX11_word 0 = .ok (.aload_n 0, 1) := by decide +kernel
theorem dX11_word_1 : decode cX11_word 1 = .ok (.getfield 13, 3) := by decide +kernel
theorem dX11_word_4 : decode cX11_word 4 = .ok (.aload_n 0, 1) := by decide +kernel
theorem dX11_word_5 : decode cX11_word 5 = .ok (.getfield 106, 3) := by decide +kernel
theorem dX11_word_8 : decode cX11_word 8 = .ok (.iload_n 1, 1) := by decide +kernel
theorem dX11_word_9 : decode cX11_word 9 = .ok (.iastore, 1) := by decide +kernel
theorem dX11_word_10 : decode cX11_word 10 = .ok (.aload_n 0, 1) := by decide +kernel
theorem dX11_word_11 : decode cX11_word 11 = .ok (.getfield 16, 3) := by decide +kernel
theorem dX11_word_14 : decode cX11_word 14 = .ok (.aload_n 0, 1) := by decide +kernel
theorem dX11_word_15 : decode cX11_word 15 = .ok (.getfield 106, 3) := by decide +kernel
theorem dX11_word_18 : decode cX11_word 18 = .ok (.lload_n 2, 1) := by decide +kernel
theorem dX11_word_19 : decode cX11_word 19 = .ok (.lastore, 1) := by decide +kernel
theorem dX11_word_20 : decode cX11_word 20 = .ok (.aload_n 0, 1) := by decide +kernel
theorem dX11_word_21 : decode cX11_word 21 = .ok (.dup, 1) := by decide +kernel
theorem dX11_word_22 : decode cX11_word 22 = .ok (.getfield 106, 3) := by decide +kernel
theorem dX11_word_25 : decode cX11_word 25 = .ok (.iconst 1, 1) := by decide +kernel
theorem dX11_word_26 : decode cX11_word 26 = .ok (.iadd, 1) := by decide +kernel
theorem dX11_word_27 : decode cX11_word 27 = .ok (.putfield 106, 3) := by decide +kernel
theorem dX11_word_30 : decode cX11_word 30 = .ok (.return_, 1) := by decide +kernel
theorem b_X11_word_0 {h : Nat} {L : LVs} {st : List AV} {S : ST} {Q : Option AV → ST → Prop} (k : o_al L st S (fun L st S => o_get L st S (fun L st S => o_al L st S (fun L st S => o_get L st S (fun L st S => o_il L st S (fun L st S => o_iast L st S (fun L st S => o_al L st S (fun L st S => o_get L st S (fun L st S => o_al L st S (fun L st S => o_get L st S (fun L st S => o_ll L st S (fun L st S => o_last L st S (fun L st S => o_al L st S (fun L st S => o_dup L st S (fun L st S => o_get L st S (fun L st S => o_c L st S (fun L st S => o_iadd L st S (fun L st S => o_puti L st S (fun L st S => t_vr st S Q) 11 4)) (nI 1)) 11 4 (0, 0, 0))) 0)) 2) 11 4 (0, 0, 0)) 0) 11 3 (3, 42, 0)) 0)) 1) 11 4 (0, 0, 0)) 0) 11 2 (3, 41, 0)) 0) : V MX11_word h 0 L st S Q :=
  v_aload_n dX11_word_0 rfl (fun L st S k => v_get dX11_word_1 rfl iX11 LY_11 rfl (by decide) rfl fl_X11_13 (fun L st S k => v_aload_n dX11_word_4 rfl (fun L st S k => v_get dX11_word_5 rfl iX11 LY_11 rfl (by decide) rfl fl_X11_106 (fun L st S k => v_iload_n dX11_word_8 rfl (fun L st S k => v_iastore dX11_word_9 (fun L st S k => v_aload_n dX11_word_10 rfl (fun L st S k => v_get dX11_word_11 rfl iX11 LY_11 rfl (by decide) rfl fl_X11_16 (fun L st S k => v_aload_n dX11_word_14 rfl (fun L st S k => v_get dX11_word_15 rfl iX11 LY_11 rfl (by decide) rfl fl_X11_106 (fun L st S k => v_lload_n dX11_word_18 rfl (fun L st S k => v_lastore dX11_word_19 (fun L st S k => v_aload_n dX11_word_20 rfl (fun L st S k => v_dup dX11_word_21 (fun L st S k => v_get dX11_word_22 rfl iX11 LY_11 rfl (by decide) rfl fl_X11_106 (fun L st S k => v_iconst dX11_word_25 (by decide) (fun L st S k => v_iadd dX11_word_26 (fun L st S k => v_puti dX11_word_27 rfl iX11 tyX11_ok nmX11 LY_11 rfl (by decide) rfl fl_X11_106 rfl rfl (fun L st S k => w_vr dX11_word_30 rfl k) k) k) k) k) k) k) k) k) k) k) k) k) k) k) k) k) k) k
-- QueryForgeModel.reserved(II)I
theorem dX11_reserved_0 : decode cX11_reserved 0 = .ok (.iconst 0, 1) := by decide +kernel
theorem dX11_reserved_1 : decode cX11_reserved 1 = .ok (.istore_n 3, 1) := by decide +kernel
theorem dX11_reserved_2 : decode cX11_reserved 2 = .ok (.iconst 0, 1) := by decide +kernel
theorem dX11_reserved_3 : decode cX11_reserved 3 = .ok (.istore 4, 2) := by decide +kernel
theorem dX11_reserved_5 : decode cX11_reserved 5 = .ok (.iload 4, 2) := by decide +kernel
theorem dX11_reserved_7 : decode cX11_reserved 7 = .ok (.iconst 1, 1) := by decide +kernel
theorem dX11_reserved_8 : decode cX11_reserved 8 = .ok (.iadd, 1) := by decide +kernel
theorem dX11_reserved_9 : decode cX11_reserved 9 = .ok (.ldc 109, 2) := by decide +kernel
theorem dX11_reserved_11 : decode cX11_reserved 11 = .ok (.invokevirtual 111, 3) := by decide +kernel
theorem dX11_reserved_14 : decode cX11_reserved 14 = .ok (.if_icmp .ge 98, 3) := by decide +kernel
theorem dX11_reserved_17 : decode cX11_reserved 17 = .ok (.iconst 0, 1) := by decide +kernel
theorem dX11_reserved_18 : decode cX11_reserved 18 = .ok (.istore 5, 2) := by decide +kernel
theorem dX11_reserved_20 : decode cX11_reserved 20 = .ok (.iload_n 1, 1) := by decide +kernel
theorem dX11_reserved_21 : decode cX11_reserved 21 = .ok (.iload 5, 2) := by decide +kernel
theorem dX11_reserved_23 : decode cX11_reserved 23 = .ok (.iadd, 1) := by decide +kernel
theorem dX11_reserved_24 : decode cX11_reserved 24 = .ok (.iload_n 2, 1) := by decide +kernel
theorem dX11_reserved_25 : decode cX11_reserved 25 = .ok (.if_icmp .ge 33, 3) := by decide +kernel
theorem dX11_reserved_28 : decode cX11_reserved 28 = .ok (.ldc 109, 2) := by decide +kernel
theorem dX11_reserved_30 : decode cX11_reserved 30 = .ok (.iload 4, 2) := by decide +kernel
theorem dX11_reserved_32 : decode cX11_reserved 32 = .ok (.iconst 1, 1) := by decide +kernel
theorem dX11_reserved_33 : decode cX11_reserved 33 = .ok (.iadd, 1) := by decide +kernel
theorem dX11_reserved_34 : decode cX11_reserved 34 = .ok (.iload 5, 2) := by decide +kernel
theorem dX11_reserved_36 : decode cX11_reserved 36 = .ok (.iadd, 1) := by decide +kernel
theorem dX11_reserved_37 : decode cX11_reserved 37 = .ok (.invokevirtual 117, 3) := by decide +kernel
theorem dX11_reserved_40 : decode cX11_reserved 40 = .ok (.aload_n 0, 1) := by decide +kernel
theorem dX11_reserved_41 : decode cX11_reserved 41 = .ok (.getfield 7, 3) := by decide +kernel
theorem dX11_reserved_44 : decode cX11_reserved 44 = .ok (.iload_n 1, 1) := by decide +kernel
theorem dX11_reserved_45 : decode cX11_reserved 45 = .ok (.iload 5, 2) := by decide +kernel
theorem dX11_reserved_47 : decode cX11_reserved 47 = .ok (.iadd, 1) := by decide +kernel
theorem dX11_reserved_48 : decode cX11_reserved 48 = .ok (.iaload, 1) := by decide +kernel
theorem dX11_reserved_49 : decode cX11_reserved 49 = .ok (.if_icmp .ne 9, 3) := by decide +kernel
theorem dX11_reserved_52 : decode cX11_reserved 52 = .ok (.iinc 5 1, 3) := by decide +kernel
theorem dX11_reserved_55 : decode cX11_reserved 55 = .ok (.goto (-35), 3) := by decide +kernel
theorem dX11_reserved_58 : decode cX11_reserved 58 = .ok (.iload_n 1, 1) := by decide +kernel
theorem dX11_reserved_59 : decode cX11_reserved 59 = .ok (.iload 5, 2) := by decide +kernel
theorem dX11_reserved_61 : decode cX11_reserved 61 = .ok (.iadd, 1) := by decide +kernel
theorem dX11_reserved_62 : decode cX11_reserved 62 = .ok (.iload_n 2, 1) := by decide +kernel
theorem dX11_reserved_63 : decode cX11_reserved 63 = .ok (.if_icmp .ne 22, 3) := by decide +kernel
theorem dX11_reserved_66 : decode cX11_reserved 66 = .ok (.ldc 109, 2) := by decide +kernel
theorem dX11_reserved_68 : decode cX11_reserved 68 = .ok (.iload 4, 2) := by decide +kernel
theorem dX11_reserved_70 : decode cX11_reserved 70 = .ok (.iconst 1, 1) := by decide +kernel
theorem dX11_reserved_71 : decode cX11_reserved 71 = .ok (.iadd, 1) := by decide +kernel
theorem dX11_reserved_72 : decode cX11_reserved 72 = .ok (.iload 5, 2) := by decide +kernel
theorem dX11_reserved_74 : decode cX11_reserved 74 = .ok (.iadd, 1) := by decide +kernel
theorem dX11_reserved_75 : decode cX11_reserved 75 = .ok (.invokevirtual 117, 3) := by decide +kernel
theorem dX11_reserved_78 : decode cX11_reserved 78 = .ok (.bipush 32, 2) := by decide +kernel
theorem dX11_reserved_80 : decode cX11_reserved 80 = .ok (.if_icmp .ne 5, 3) := by decide +kernel
theorem dX11_reserved_83 : decode cX11_reserved 83 = .ok (.iload_n 3, 1) := by decide +kernel
theorem dX11_reserved_84 : decode cX11_reserved 84 = .ok (.ireturn, 1) := by decide +kernel
theorem dX11_reserved_85 : decode cX11_reserved 85 = .ok (.iinc 4 1, 3) := by decide +kernel
theorem dX11_reserved_88 : decode cX11_reserved 88 = .ok (.ldc 109, 2) := by decide +kernel
theorem dX11_reserved_90 : decode cX11_reserved 90 = .ok (.iload 4, 2) := by decide +kernel
theorem dX11_reserved_92 : decode cX11_reserved 92 = .ok (.invokevirtual 117, 3) := by decide +kernel
theorem dX11_reserved_95 : decode cX11_reserved 95 = .ok (.bipush 32, 2) := by decide +kernel
theorem dX11_reserved_97 : decode cX11_reserved 97 = .ok (.if_icmp .eq 9, 3) := by decide +kernel
theorem dX11_reserved_100 : decode cX11_reserved 100 = .ok (.iinc 4 1, 3) := by decide +kernel
theorem dX11_reserved_103 : decode cX11_reserved 103 = .ok (.goto (-15), 3) := by decide +kernel
theorem dX11_reserved_106 : decode cX11_reserved 106 = .ok (.iinc 3 1, 3) := by decide +kernel
theorem dX11_reserved_109 : decode cX11_reserved 109 = .ok (.goto (-104), 3) := by decide +kernel
theorem dX11_reserved_112 : decode cX11_reserved 112 = .ok (.iconst (-1), 1) := by decide +kernel
theorem dX11_reserved_113 : decode cX11_reserved 113 = .ok (.ireturn, 1) := by decide +kernel
theorem b_X11_reserved_0 {h : Nat} {L : LVs} {st : List AV} {S : ST} {Q : Option AV → ST → Prop} (k : o_c L st S (fun L st S => o_is L st S (fun L st S => o_c L st S (fun L st S => o_is L st S (fun L st S => V MX11_reserved h 5 L st S Q) 4) (nI 0)) 3) (nI 0)) : V MX11_reserved h 0 L st S Q :=
  v_iconst dX11_reserved_0 (by decide) (fun L st S k => v_istore_n dX11_reserved_1 rfl (by decide) (fun L st S k => v_iconst dX11_reserved_2 (by decide) (fun L st S k => v_istore dX11_reserved_3 (by decide) (fun L st S k => k) k) k) k) k
theorem b_X11_reserved_5 {h : Nat} {L : LVs} {st : List AV} {S : ST} {Q : Option AV → ST → Prop} (k : o_il L st S (fun L st S => o_c L st S (fun L st S => o_iadd L st S (fun L st S => V MX11_reserved h 9 L st S Q)) (nI 1)) 4) : V MX11_reserved h 5 L st S Q :=
  v_iload dX11_reserved_5 (fun L st S k => v_iconst dX11_reserved_7 (by decide) (fun L st S k => v_iadd dX11_reserved_8 (fun L st S k => k) k) k) k
-- by hand: X11_reserved at 9: a text
-- by hand: X11_reserved at 11: invokevirtual ('java/lang/String', 'length', '()I')
theorem b_X11_reserved_14 {h : Nat} {L : LVs} {st : List AV} {S : ST} {Q : Option AV → ST → Prop} (k : t_2 L st S (fun x y => y ≤ x) (fun L st S => V MX11_reserved h 112 L st S Q) (fun L st S => V MX11_reserved h 17 L st S Q)) : V MX11_reserved h 14 L st S Q :=
  w_icmp_ge dX11_reserved_14 (by decide) rfl k
theorem b_X11_reserved_17 {h : Nat} {L : LVs} {st : List AV} {S : ST} {Q : Option AV → ST → Prop} (k : o_c L st S (fun L st S => o_is L st S (fun L st S => V MX11_reserved h 20 L st S Q) 5) (nI 0)) : V MX11_reserved h 17 L st S Q :=
  v_iconst dX11_reserved_17 (by decide) (fun L st S k => v_istore dX11_reserved_18 (by decide) (fun L st S k => k) k) k
theorem b_X11_reserved_20 {h : Nat} {L : LVs} {st : List AV} {S : ST} {Q : Option AV → ST → Prop} (k : o_il L st S (fun L st S => o_il L st S (fun L st S => o_iadd L st S (fun L st S => o_il L st S (fun L st S => t_2 L st S (fun x y => y ≤ x) (fun L st S => V MX11_reserved h 58 L st S Q) (fun L st S => V MX11_reserved h 28 L st S Q)) 2)) 5) 1) : V MX11_reserved h 20 L st S Q :=
  v_iload_n dX11_reserved_20 rfl (fun L st S k => v_iload dX11_reserved_21 (fun L st S k => v_iadd dX11_reserved_23 (fun L st S k => v_iload_n dX11_reserved_24 rfl (fun L st S k => w_icmp_ge dX11_reserved_25 (by decide) rfl k) k) k) k) k
-- by hand: X11_reserved at 28: a text
theorem b_X11_reserved_30 {h : Nat} {L : LVs} {st : List AV} {S : ST} {Q : Option AV → ST → Prop} (k : o_il L st S (fun L st S => o_c L st S (fun L st S => o_iadd L st S (fun L st S => o_il L st S (fun L st S => o_iadd L st S (fun L st S => V MX11_reserved h 37 L st S Q)) 5)) (nI 1)) 4) : V MX11_reserved h 30 L st S Q :=
  v_iload dX11_reserved_30 (fun L st S k => v_iconst dX11_reserved_32 (by decide) (fun L st S k => v_iadd dX11_reserved_33 (fun L st S k => v_iload dX11_reserved_34 (fun L st S k => v_iadd dX11_reserved_36 (fun L st S k => k) k) k) k) k) k
-- by hand: X11_reserved at 37: invokevirtual ('java/lang/String', 'charAt', '(I)C')
theorem b_X11_reserved_40 {h : Nat} {L : LVs} {st : List AV} {S : ST} {Q : Option AV → ST → Prop} (k : o_al L st S (fun L st S => o_get L st S (fun L st S => o_il L st S (fun L st S => o_il L st S (fun L st S => o_iadd L st S (fun L st S => o_iald L st S (fun L st S => t_2 L st S (fun x y => x = y) (fun L st S => V MX11_reserved h 52 L st S Q) (fun L st S => V MX11_reserved h 58 L st S Q)))) 5) 1) 11 0 (3, 40, 0)) 0) : V MX11_reserved h 40 L st S Q :=
  v_aload_n dX11_reserved_40 rfl (fun L st S k => v_get dX11_reserved_41 rfl iX11 LY_11 rfl (by decide) rfl fl_X11_7 (fun L st S k => v_iload_n dX11_reserved_44 rfl (fun L st S k => v_iload dX11_reserved_45 (fun L st S k => v_iadd dX11_reserved_47 (fun L st S k => v_iaload dX11_reserved_48 (fun L st S k => w_icmp_ne dX11_reserved_49 (by decide) rfl k) k) k) k) k) k) k
theorem b_X11_reserved_52 {h : Nat} {L : LVs} {st : List AV} {S : ST} {Q : Option AV → ST → Prop} (k : o_inc L st S (fun L st S => V MX11_reserved h 20 L st S Q) 5 (nI 1)) : V MX11_reserved h 52 L st S Q :=
  v_iinc dX11_reserved_52 (by decide) (by decide) (fun L st S k => v_goto dX11_reserved_55 (by decide) k) k
theorem b_X11_reserved_58 {h : Nat} {L : LVs} {st : List AV} {S : ST} {Q : Option AV → ST → Prop} (k : o_il L st S (fun L st S => o_il L st S (fun L st S => o_iadd L st S (fun L st S => o_il L st S (fun L st S => t_2 L st S (fun x y => x = y) (fun L st S => V MX11_reserved h 66 L st S Q) (fun L st S => V MX11_reserved h 85 L st S Q)) 2)) 5) 1) : V MX11_reserved h 58 L st S Q :=
  v_iload_n dX11_reserved_58 rfl (fun L st S k => v_iload dX11_reserved_59 (fun L st S k => v_iadd dX11_reserved_61 (fun L st S k => v_iload_n dX11_reserved_62 rfl (fun L st S k => w_icmp_ne dX11_reserved_63 (by decide) rfl k) k) k) k) k
-- by hand: X11_reserved at 66: a text
theorem b_X11_reserved_68 {h : Nat} {L : LVs} {st : List AV} {S : ST} {Q : Option AV → ST → Prop} (k : o_il L st S (fun L st S => o_c L st S (fun L st S => o_iadd L st S (fun L st S => o_il L st S (fun L st S => o_iadd L st S (fun L st S => V MX11_reserved h 75 L st S Q)) 5)) (nI 1)) 4) : V MX11_reserved h 68 L st S Q :=
  v_iload dX11_reserved_68 (fun L st S k => v_iconst dX11_reserved_70 (by decide) (fun L st S k => v_iadd dX11_reserved_71 (fun L st S k => v_iload dX11_reserved_72 (fun L st S k => v_iadd dX11_reserved_74 (fun L st S k => k) k) k) k) k) k
-- by hand: X11_reserved at 75: invokevirtual ('java/lang/String', 'charAt', '(I)C')
theorem b_X11_reserved_78 {h : Nat} {L : LVs} {st : List AV} {S : ST} {Q : Option AV → ST → Prop} (k : o_c L st S (fun L st S => t_2 L st S (fun x y => x = y) (fun L st S => V MX11_reserved h 83 L st S Q) (fun L st S => V MX11_reserved h 85 L st S Q)) (nI 32)) : V MX11_reserved h 78 L st S Q :=
  v_bipush dX11_reserved_78 (by decide) (fun L st S k => w_icmp_ne dX11_reserved_80 (by decide) rfl k) k
theorem b_X11_reserved_83 {h : Nat} {L : LVs} {st : List AV} {S : ST} {Q : Option AV → ST → Prop} (k : o_il L st S (fun L st S => t_ir st S Q) 3) : V MX11_reserved h 83 L st S Q :=
  v_iload_n dX11_reserved_83 rfl (fun L st S k => w_ir dX11_reserved_84 rfl k) k
theorem b_X11_reserved_85 {h : Nat} {L : LVs} {st : List AV} {S : ST} {Q : Option AV → ST → Prop} (k : o_inc L st S (fun L st S => V MX11_reserved h 88 L st S Q) 4 (nI 1)) : V MX11_reserved h 85 L st S Q :=
  v_iinc dX11_reserved_85 (by decide) (by decide) (fun L st S k => k) k
-- by hand: X11_reserved at 88: a text
theorem b_X11_reserved_90 {h : Nat} {L : LVs} {st : List AV} {S : ST} {Q : Option AV → ST → Prop} (k : o_il L st S (fun L st S => V MX11_reserved h 92 L st S Q) 4) : V MX11_reserved h 90 L st S Q :=
  v_iload dX11_reserved_90 (fun L st S k => k) k
-- by hand: X11_reserved at 92: invokevirtual ('java/lang/String', 'charAt', '(I)C')
theorem b_X11_reserved_95 {h : Nat} {L : LVs} {st : List AV} {S : ST} {Q : Option AV → ST → Prop} (k : o_c L st S (fun L st S => t_2 L st S (fun x y => x = y) (fun L st S => V MX11_reserved h 106 L st S Q) (fun L st S => V MX11_reserved h 100 L st S Q)) (nI 32)) : V MX11_reserved h 95 L st S Q :=
  v_bipush dX11_reserved_95 (by decide) (fun L st S k => w_icmp_eq dX11_reserved_97 (by decide) rfl k) k
theorem b_X11_reserved_100 {h : Nat} {L : LVs} {st : List AV} {S : ST} {Q : Option AV → ST → Prop} (k : o_inc L st S (fun L st S => V MX11_reserved h 88 L st S Q) 4 (nI 1)) : V MX11_reserved h 100 L st S Q :=
  v_iinc dX11_reserved_100 (by decide) (by decide) (fun L st S k => v_goto dX11_reserved_103 (by decide) k) k
theorem b_X11_reserved_106 {h : Nat} {L : LVs} {st : List AV} {S : ST} {Q : Option AV → ST → Prop} (k : o_inc L st S (fun L st S => V MX11_reserved h 5 L st S Q) 3 (nI 1)) : V MX11_reserved h 106 L st S Q :=
  v_iinc dX11_reserved_106 (by decide) (by decide) (fun L st S k => v_goto dX11_reserved_109 (by decide) k) k
theorem b_X11_reserved_112 {h : Nat} {L : LVs} {st : List AV} {S : ST} {Q : Option AV → ST → Prop} (k : o_c L st S (fun L st S => t_ir st S Q) (-1)) : V MX11_reserved h 112 L st S Q :=
  v_iconst dX11_reserved_112 (by decide) (fun L st S k => w_ir dX11_reserved_113 rfl k) k
-- QueryForgeModel.letters(I)I
theorem dX11_letters_0 : decode cX11_letters 0 = .ok (.iload_n 1, 1) := by decide +kernel
theorem dX11_letters_1 : decode cX11_letters 1 = .ok (.istore_n 2, 1) := by decide +kernel
theorem dX11_letters_2 : decode cX11_letters 2 = .ok (.aload_n 0, 1) := by decide +kernel
theorem dX11_letters_3 : decode cX11_letters 3 = .ok (.iload_n 2, 1) := by decide +kernel
theorem dX11_letters_4 : decode cX11_letters 4 = .ok (.invokevirtual 121, 3) := by decide +kernel
theorem dX11_letters_7 : decode cX11_letters 7 = .ok (.invokestatic 125, 3) := by decide +kernel
theorem dX11_letters_10 : decode cX11_letters 10 = .ok (.ifCond .eq 9, 3) := by decide +kernel
theorem dX11_letters_13 : decode cX11_letters 13 = .ok (.iinc 2 1, 3) := by decide +kernel
theorem dX11_letters_16 : decode cX11_letters 16 = .ok (.goto (-14), 3) := by decide +kernel
theorem dX11_letters_19 : decode cX11_letters 19 = .ok (.iload_n 2, 1) := by decide +kernel
theorem dX11_letters_20 : decode cX11_letters 20 = .ok (.iload_n 1, 1) := by decide +kernel
theorem dX11_letters_21 : decode cX11_letters 21 = .ok (.isub, 1) := by decide +kernel
theorem dX11_letters_22 : decode cX11_letters 22 = .ok (.bipush 6, 2) := by decide +kernel
theorem dX11_letters_24 : decode cX11_letters 24 = .ok (.if_icmp .le 7, 3) := by decide +kernel
theorem dX11_letters_27 : decode cX11_letters 27 = .ok (.iconst (-1), 1) := by decide +kernel
theorem dX11_letters_28 : decode cX11_letters 28 = .ok (.goto 9, 3) := by decide +kernel
theorem dX11_letters_31 : decode cX11_letters 31 = .ok (.aload_n 0, 1) := by decide +kernel
theorem dX11_letters_32 : decode cX11_letters 32 = .ok (.iload_n 1, 1) := by decide +kernel
theorem dX11_letters_33 : decode cX11_letters 33 = .ok (.iload_n 2, 1) := by decide +kernel
theorem dX11_letters_34 : decode cX11_letters 34 = .ok (.invokevirtual 129, 3) := by decide +kernel
theorem dX11_letters_37 : decode cX11_letters 37 = .ok (.istore_n 3, 1) := by decide +kernel
theorem dX11_letters_38 : decode cX11_letters 38 = .ok (.lconst 0, 1) := by decide +kernel
theorem dX11_letters_39 : decode cX11_letters 39 = .ok (.lstore 4, 2) := by decide +kernel
theorem dX11_letters_41 : decode cX11_letters 41 = .ok (.iload_n 1, 1) := by decide +kernel
theorem dX11_letters_42 : decode cX11_letters 42 = .ok (.istore 6, 2) := by decide +kernel
theorem dX11_letters_44 : decode cX11_letters 44 = .ok (.iload 6, 2) := by decide +kernel
theorem dX11_letters_46 : decode cX11_letters 46 = .ok (.iload_n 2, 1) := by decide +kernel
theorem dX11_letters_47 : decode cX11_letters 47 = .ok (.if_icmp .ge 41, 3) := by decide +kernel
theorem dX11_letters_50 : decode cX11_letters 50 = .ok (.iload 6, 2) := by decide +kernel
theorem dX11_letters_52 : decode cX11_letters 52 = .ok (.iload_n 1, 1) := by decide +kernel
theorem dX11_letters_53 : decode cX11_letters 53 = .ok (.bipush 6, 2) := by decide +kernel
theorem dX11_letters_55 : decode cX11_letters 55 = .ok (.iadd, 1) := by decide +kernel
theorem dX11_letters_56 : decode cX11_letters 56 = .ok (.if_icmp .ge 32, 3) := by decide +kernel
theorem dX11_letters_59 : decode cX11_letters 59 = .ok (.ldc2_w 133, 3) := by decide +kernel
theorem dX11_letters_62 : decode cX11_letters 62 = .ok (.lload 4, 2) := by decide +kernel
theorem dX11_letters_64 : decode cX11_letters 64 = .ok (.lmul, 1) := by decide +kernel
theorem dX11_letters_65 : decode cX11_letters 65 = .ok (.aload_n 0, 1) := by decide +kernel
theorem dX11_letters_66 : decode cX11_letters 66 = .ok (.getfield 7, 3) := by decide +kernel
theorem dX11_letters_69 : decode cX11_letters 69 = .ok (.iload 6, 2) := by decide +kernel
theorem dX11_letters_71 : decode cX11_letters 71 = .ok (.iaload, 1) := by decide +kernel
theorem dX11_letters_72 : decode cX11_letters 72 = .ok (.i2l, 1) := by decide +kernel
theorem dX11_letters_73 : decode cX11_letters 73 = .ok (.ladd, 1) := by decide +kernel
theorem dX11_letters_74 : decode cX11_letters 74 = .ok (.ldc2_w 135, 3) := by decide +kernel
theorem dX11_letters_77 : decode cX11_letters 77 = .ok (.lsub, 1) := by decide +kernel
theorem dX11_letters_78 : decode cX11_letters 78 = .ok (.lconst 1, 1) := by decide +kernel
theorem dX11_letters_79 : decode cX11_letters 79 = .ok (.ladd, 1) := by decide +kernel
theorem dX11_letters_80 : decode cX11_letters 80 = .ok (.lstore 4, 2) := by decide +kernel
theorem dX11_letters_82 : decode cX11_letters 82 = .ok (.iinc 6 1, 3) := by decide +kernel
theorem dX11_letters_85 : decode cX11_letters 85 = .ok (.goto (-41), 3) := by decide +kernel
theorem dX11_letters_88 : decode cX11_letters 88 = .ok (.aload_n 0, 1) := by decide +kernel
theorem dX11_letters_89 : decode cX11_letters 89 = .ok (.iload_n 3, 1) := by decide +kernel
theorem dX11_letters_90 : decode cX11_letters 90 = .ok (.ifCond .lt 7, 3) := by decide +kernel
theorem dX11_letters_93 : decode cX11_letters 93 = .ok (.iload_n 3, 1) := by decide +kernel
theorem dX11_letters_94 : decode cX11_letters 94 = .ok (.goto 18, 3) := by decide +kernel
theorem dX11_letters_97 : decode cX11_letters 97 = .ok (.iload_n 2, 1) := by decide +kernel
theorem dX11_letters_98 : decode cX11_letters 98 = .ok (.iload_n 1, 1) := by decide +kernel
theorem dX11_letters_99 : decode cX11_letters 99 = .ok (.isub, 1) := by decide +kernel
theorem dX11_letters_100 : decode cX11_letters 100 = .ok (.bipush 6, 2) := by decide +kernel
theorem dX11_letters_102 : decode cX11_letters 102 = .ok (.if_icmp .le 8, 3) := by decide +kernel
theorem dX11_letters_105 : decode cX11_letters 105 = .ok (.bipush 53, 2) := by decide +kernel
theorem dX11_letters_107 : decode cX11_letters 107 = .ok (.goto 5, 3) := by decide +kernel
theorem dX11_letters_110 : decode cX11_letters 110 = .ok (.bipush 50, 2) := by decide +kernel
theorem dX11_letters_112 : decode cX11_letters 112 = .ok (.lload 4, 2) := by decide +kernel
theorem dX11_letters_114 : decode cX11_letters 114 = .ok (.invokevirtual 137, 3) := by decide +kernel
theorem dX11_letters_117 : decode cX11_letters 117 = .ok (.iload_n 2, 1) := by decide +kernel
theorem dX11_letters_118 : decode cX11_letters 118 = .ok (.ireturn, 1) := by decide +kernel
theorem b_X11_letters_0 {h : Nat} {L : LVs} {st : List AV} {S : ST} {Q : Option AV → ST → Prop} (k : o_il L st S (fun L st S => o_is L st S (fun L st S => V MX11_letters h 2 L st S Q) 2) 1) : V MX11_letters h 0 L st S Q :=
  v_iload_n dX11_letters_0 rfl (fun L st S k => v_istore_n dX11_letters_1 rfl (by decide) (fun L st S k => k) k) k
theorem b_X11_letters_2 {h : Nat} {L : LVs} {st : List AV} {S : ST} {Q : Option AV → ST → Prop} (k : o_al L st S (fun L st S => o_il L st S (fun L st S => V MX11_letters h 4 L st S Q) 2) 0) : V MX11_letters h 2 L st S Q :=
  v_aload_n dX11_letters_2 rfl (fun L st S k => v_iload_n dX11_letters_3 rfl (fun L st S k => k) k) k
theorem k_X11_letters_4 {h : Nat} {L : LVs} {st : List AV} {S : ST} {Q Q' : Option AV → ST → Prop} {j : Nat} {a0 : AV} (hC : Ct MX11_sign h [vR 11 j, a0] S Q') (k : ∀ (r : Option AV) (S' : ST), Q' r S' → V MX11_letters (h + 1) 7 L (r.toList ++ st) S' Q) (hj : j < NI 11) (hw : wid st ≤ 8) : V MX11_letters (h + 1) 4 L (a0 :: vR 11 j :: st) S Q :=
  v_callV (M' := MX11_sign) (c := 11) (As := [a0]) dX11_letters_4 ml_X11_121 im_X11_sign se_X11_sign in_X11 cd_X11_sign rfl LY_11 np_X11_sign (by decide) hw hj hC k
theorem k_X11_letters_7 {h : Nat} {L : LVs} {st : List AV} {S : ST} {Q Q' : Option AV → ST → Prop} {a0 : AV} (hC : Ct MX11_isLetter h [a0] S Q') (k : ∀ (r : Option AV) (S' : ST), Q' r S' → V MX11_letters (h + 1) 10 L (r.toList ++ st) S' Q) (hw : wid st ≤ 8) : V MX11_letters (h + 1) 7 L (a0 :: st) S Q :=
  v_callS (M' := MX11_isLetter) (As := [a0]) dX11_letters_7 ml_X11_125 sm_X11_isLetter in_X11 cd_X11_isLetter ⟨rfl, np_X11_isLetter⟩ (by decide) hw hC k
theorem b_X11_letters_10 {h : Nat} {L : LVs} {st : List AV} {S : ST} {Q : Option AV → ST → Prop} (k : t_1 L st S (fun x => x = nI 0) (fun L st S => V MX11_letters h 19 L st S Q) (fun L st S => V MX11_letters h 13 L st S Q)) : V MX11_letters h 10 L st S Q :=
  w_if_eq dX11_letters_10 (by decide) rfl k
theorem b_X11_letters_13 {h : Nat} {L : LVs} {st : List AV} {S : ST} {Q : Option AV → ST → Prop} (k : o_inc L st S (fun L st S => V MX11_letters h 2 L st S Q) 2 (nI 1)) : V MX11_letters h 13 L st S Q :=
  v_iinc dX11_letters_13 (by decide) (by decide) (fun L st S k => v_goto dX11_letters_16 (by decide) k) k
theorem b_X11_letters_19 {h : Nat} {L : LVs} {st : List AV} {S : ST} {Q : Option AV → ST → Prop} (k : o_il L st S (fun L st S => o_il L st S (fun L st S => o_isub L st S (fun L st S => o_c L st S (fun L st S => t_2 L st S (fun x y => x ≤ y) (fun L st S => V MX11_letters h 31 L st S Q) (fun L st S => V MX11_letters h 27 L st S Q)) (nI 6))) 1) 2) : V MX11_letters h 19 L st S Q :=
  v_iload_n dX11_letters_19 rfl (fun L st S k => v_iload_n dX11_letters_20 rfl (fun L st S k => v_isub dX11_letters_21 (fun L st S k => v_bipush dX11_letters_22 (by decide) (fun L st S k => w_icmp_le dX11_letters_24 (by decide) rfl k) k) k) k) k
theorem b_X11_letters_27 {h : Nat} {L : LVs} {st : List AV} {S : ST} {Q : Option AV → ST → Prop} (k : o_c L st S (fun L st S => V MX11_letters h 37 L st S Q) (-1)) : V MX11_letters h 27 L st S Q :=
  v_iconst dX11_letters_27 (by decide) (fun L st S k => v_goto dX11_letters_28 (by decide) k) k
theorem b_X11_letters_31 {h : Nat} {L : LVs} {st : List AV} {S : ST} {Q : Option AV → ST → Prop} (k : o_al L st S (fun L st S => o_il L st S (fun L st S => o_il L st S (fun L st S => V MX11_letters h 34 L st S Q) 2) 1) 0) : V MX11_letters h 31 L st S Q :=
  v_aload_n dX11_letters_31 rfl (fun L st S k => v_iload_n dX11_letters_32 rfl (fun L st S k => v_iload_n dX11_letters_33 rfl (fun L st S k => k) k) k) k
theorem k_X11_letters_34 {h : Nat} {L : LVs} {st : List AV} {S : ST} {Q Q' : Option AV → ST → Prop} {j : Nat} {a0 a1 : AV} (hC : Ct MX11_reserved h [vR 11 j, a0, a1] S Q') (k : ∀ (r : Option AV) (S' : ST), Q' r S' → V MX11_letters (h + 1) 37 L (r.toList ++ st) S' Q) (hj : j < NI 11) (hw : wid st ≤ 8) : V MX11_letters (h + 1) 34 L (a1 :: a0 :: vR 11 j :: st) S Q :=
  v_callV (M' := MX11_reserved) (c := 11) (As := [a0, a1]) dX11_letters_34 ml_X11_129 im_X11_reserved se_X11_reserved in_X11 cd_X11_reserved rfl LY_11 np_X11_reserved (by decide) hw hj hC k
theorem b_X11_letters_37 {h : Nat} {L : LVs} {st : List AV} {S : ST} {Q : Option AV → ST → Prop} (k : o_is L st S (fun L st S => o_lc L st S (fun L st S => o_ls L st S (fun L st S => o_il L st S (fun L st S => o_is L st S (fun L st S => V MX11_letters h 44 L st S Q) 6) 1) 4) (lN 0)) 3) : V MX11_letters h 37 L st S Q :=
  v_istore_n dX11_letters_37 rfl (by decide) (fun L st S k => v_lconst dX11_letters_38 (by decide) (fun L st S k => v_lstore dX11_letters_39 (by decide) (fun L st S k => v_iload_n dX11_letters_41 rfl (fun L st S k => v_istore dX11_letters_42 (by decide) (fun L st S k => k) k) k) k) k) k
theorem b_X11_letters_44 {h : Nat} {L : LVs} {st : List AV} {S : ST} {Q : Option AV → ST → Prop} (k : o_il L st S (fun L st S => o_il L st S (fun L st S => t_2 L st S (fun x y => y ≤ x) (fun L st S => V MX11_letters h 88 L st S Q) (fun L st S => V MX11_letters h 50 L st S Q)) 2) 6) : V MX11_letters h 44 L st S Q :=
  v_iload dX11_letters_44 (fun L st S k => v_iload_n dX11_letters_46 rfl (fun L st S k => w_icmp_ge dX11_letters_47 (by decide) rfl k) k) k
theorem b_X11_letters_50 {h : Nat} {L : LVs} {st : List AV} {S : ST} {Q : Option AV → ST → Prop} (k : o_il L st S (fun L st S => o_il L st S (fun L st S => o_c L st S (fun L st S => o_iadd L st S (fun L st S => t_2 L st S (fun x y => y ≤ x) (fun L st S => V MX11_letters h 88 L st S Q) (fun L st S => V MX11_letters h 59 L st S Q))) (nI 6)) 1) 6) : V MX11_letters h 50 L st S Q :=
  v_iload dX11_letters_50 (fun L st S k => v_iload_n dX11_letters_52 rfl (fun L st S k => v_bipush dX11_letters_53 (by decide) (fun L st S k => v_iadd dX11_letters_55 (fun L st S k => w_icmp_ge dX11_letters_56 (by decide) rfl k) k) k) k) k
theorem b_X11_letters_59 {h : Nat} {L : LVs} {st : List AV} {S : ST} {Q : Option AV → ST → Prop} (k : o_lc L st S (fun L st S => o_ll L st S (fun L st S => o_lmul L st S (fun L st S => o_al L st S (fun L st S => o_get L st S (fun L st S => o_il L st S (fun L st S => o_iald L st S (fun L st S => o_i2l L st S (fun L st S => o_ladd L st S (fun L st S => o_lc L st S (fun L st S => o_lsub L st S (fun L st S => o_lc L st S (fun L st S => o_ladd L st S (fun L st S => o_ls L st S (fun L st S => o_inc L st S (fun L st S => V MX11_letters h 44 L st S Q) 6 (nI 1)) 4)) (lN 1))) (lN 97))))) 6) 11 0 (3, 40, 0)) 0)) 4) (lN 27)) : V MX11_letters h 59 L st S Q :=
  v_ldc2 dX11_letters_59 kl_X11_133 (fun L st S k => v_lload dX11_letters_62 (fun L st S k => v_lmul dX11_letters_64 (fun L st S k => v_aload_n dX11_letters_65 rfl (fun L st S k => v_get dX11_letters_66 rfl iX11 LY_11 rfl (by decide) rfl fl_X11_7 (fun L st S k => v_iload dX11_letters_69 (fun L st S k => v_iaload dX11_letters_71 (fun L st S k => v_i2l dX11_letters_72 (fun L st S k => v_ladd dX11_letters_73 (fun L st S k => v_ldc2 dX11_letters_74 kl_X11_135 (fun L st S k => v_lsub dX11_letters_77 (fun L st S k => v_lconst dX11_letters_78 (by decide) (fun L st S k => v_ladd dX11_letters_79 (fun L st S k => v_lstore dX11_letters_80 (by decide) (fun L st S k => v_iinc dX11_letters_82 (by decide) (by decide) (fun L st S k => v_goto dX11_letters_85 (by decide) k) k) k) k) k) k) k) k) k) k) k) k) k) k) k) k
theorem b_X11_letters_88 {h : Nat} {L : LVs} {st : List AV} {S : ST} {Q : Option AV → ST → Prop} (k : o_al L st S (fun L st S => o_il L st S (fun L st S => t_1 L st S (fun x => x < nI 0) (fun L st S => V MX11_letters h 97 L st S Q) (fun L st S => V MX11_letters h 93 L st S Q)) 3) 0) : V MX11_letters h 88 L st S Q :=
  v_aload_n dX11_letters_88 rfl (fun L st S k => v_iload_n dX11_letters_89 rfl (fun L st S k => w_if_lt dX11_letters_90 (by decide) rfl k) k) k
theorem b_X11_letters_93 {h : Nat} {L : LVs} {st : List AV} {S : ST} {Q : Option AV → ST → Prop} (k : o_il L st S (fun L st S => V MX11_letters h 112 L st S Q) 3) : V MX11_letters h 93 L st S Q :=
  v_iload_n dX11_letters_93 rfl (fun L st S k => v_goto dX11_letters_94 (by decide) k) k
theorem b_X11_letters_97 {h : Nat} {L : LVs} {st : List AV} {S : ST} {Q : Option AV → ST → Prop} (k : o_il L st S (fun L st S => o_il L st S (fun L st S => o_isub L st S (fun L st S => o_c L st S (fun L st S => t_2 L st S (fun x y => x ≤ y) (fun L st S => V MX11_letters h 110 L st S Q) (fun L st S => V MX11_letters h 105 L st S Q)) (nI 6))) 1) 2) : V MX11_letters h 97 L st S Q :=
  v_iload_n dX11_letters_97 rfl (fun L st S k => v_iload_n dX11_letters_98 rfl (fun L st S k => v_isub dX11_letters_99 (fun L st S k => v_bipush dX11_letters_100 (by decide) (fun L st S k => w_icmp_le dX11_letters_102 (by decide) rfl k) k) k) k) k
theorem b_X11_letters_105 {h : Nat} {L : LVs} {st : List AV} {S : ST} {Q : Option AV → ST → Prop} (k : o_c L st S (fun L st S => V MX11_letters h 112 L st S Q) (nI 53)) : V MX11_letters h 105 L st S Q :=
  v_bipush dX11_letters_105 (by decide) (fun L st S k => v_goto dX11_letters_107 (by decide) k) k
theorem b_X11_letters_110 {h : Nat} {L : LVs} {st : List AV} {S : ST} {Q : Option AV → ST → Prop} (k : o_c L st S (fun L st S => V MX11_letters h 112 L st S Q) (nI 50)) : V MX11_letters h 110 L st S Q :=
  v_bipush dX11_letters_110 (by decide) (fun L st S k => k) k
theorem b_X11_letters_112 {h : Nat} {L : LVs} {st : List AV} {S : ST} {Q : Option AV → ST → Prop} (k : o_ll L st S (fun L st S => V MX11_letters h 114 L st S Q) 4) : V MX11_letters h 112 L st S Q :=
  v_lload dX11_letters_112 (fun L st S k => k) k
theorem k_X11_letters_114 {h : Nat} {L : LVs} {st : List AV} {S : ST} {Q Q' : Option AV → ST → Prop} {j : Nat} {a0 a1 : AV} (hC : Ct MX11_word h [vR 11 j, a0, a1] S Q') (k : ∀ (r : Option AV) (S' : ST), Q' r S' → V MX11_letters (h + 1) 117 L (r.toList ++ st) S' Q) (hj : j < NI 11) (hw : wid st ≤ 8) : V MX11_letters (h + 1) 114 L (a1 :: a0 :: vR 11 j :: st) S Q :=
  v_callV (M' := MX11_word) (c := 11) (As := [a0, a1]) dX11_letters_114 ml_X11_137 im_X11_word se_X11_word in_X11 cd_X11_word rfl LY_11 np_X11_word (by decide) hw hj hC k
theorem b_X11_letters_117 {h : Nat} {L : LVs} {st : List AV} {S : ST} {Q : Option AV → ST → Prop} (k : o_il L st S (fun L st S => t_ir st S Q) 2) : V MX11_letters h 117 L st S Q :=
  v_iload_n dX11_letters_117 rfl (fun L st S k => w_ir dX11_letters_118 rfl k) k
-- QueryForgeModel.digits(I)I
theorem dX11_digits_0 : decode cX11_digits 0 = .ok (.iload_n 1, 1) := by decide +kernel
theorem dX11_digits_1 : decode cX11_digits 1 = .ok (.istore_n 2, 1) := by decide +kernel
theorem dX11_digits_2 : decode cX11_digits 2 = .ok (.lconst 0, 1) := by decide +kernel
theorem dX11_digits_3 : decode cX11_digits 3 = .ok (.lstore_n 3, 1) := by decide +kernel
theorem dX11_digits_4 : decode cX11_digits 4 = .ok (.aload_n 0, 1) := by decide +kernel
theorem dX11_digits_5 : decode cX11_digits 5 = .ok (.iload_n 2, 1) := by decide +kernel
theorem dX11_digits_6 : decode cX11_digits 6 = .ok (.invokevirtual 121, 3) := by decide +kernel
theorem dX11_digits_9 : decode cX11_digits 9 = .ok (.invokestatic 141, 3) := by decide +kernel
theorem dX11_digits_12 : decode cX11_digits 12 = .ok (.ifCond .eq 39, 3) := by decide +kernel
theorem dX11_digits_15 : decode cX11_digits 15 = .ok (.lload_n 3, 1) := by decide +kernel
theorem dX11_digits_16 : decode cX11_digits 16 = .ok (.ldc2_w 144, 3) := by decide +kernel
theorem dX11_digits_19 : decode cX11_digits 19 = .ok (.lcmp, 1) := by decide +kernel
theorem dX11_digits_20 : decode cX11_digits 20 = .ok (.ifCond .le 7, 3) := by decide +kernel
theorem dX11_digits_23 : decode cX11_digits 23 = .ok (.lload_n 3, 1) := by decide +kernel
theorem dX11_digits_24 : decode cX11_digits 24 = .ok (.goto 20, 3) := by decide +kernel
theorem dX11_digits_27 : decode cX11_digits 27 = .ok (.ldc2_w 146, 3) := by decide +kernel
theorem dX11_digits_30 : decode cX11_digits 30 = .ok (.lload_n 3, 1) := by decide +kernel
theorem dX11_digits_31 : decode cX11_digits 31 = .ok (.lmul, 1) := by decide +kernel
theorem dX11_digits_32 : decode cX11_digits 32 = .ok (.aload_n 0, 1) := by decide +kernel
theorem dX11_digits_33 : decode cX11_digits 33 = .ok (.getfield 7, 3) := by decide +kernel
theorem dX11_digits_36 : decode cX11_digits 36 = .ok (.iload_n 2, 1) := by decide +kernel
theorem dX11_digits_37 : decode cX11_digits 37 = .ok (.iaload, 1) := by decide +kernel
theorem dX11_digits_38 : decode cX11_digits 38 = .ok (.i2l, 1) := by decide +kernel
theorem dX11_digits_39 : decode cX11_digits 39 = .ok (.ladd, 1) := by decide +kernel
theorem dX11_digits_40 : decode cX11_digits 40 = .ok (.ldc2_w 148, 3) := by decide +kernel
theorem dX11_digits_43 : decode cX11_digits 43 = .ok (.lsub, 1) := by decide +kernel
theorem dX11_digits_44 : decode cX11_digits 44 = .ok (.lstore_n 3, 1) := by decide +kernel
theorem dX11_digits_45 : decode cX11_digits 45 = .ok (.iinc 2 1, 3) := by decide +kernel
theorem dX11_digits_48 : decode cX11_digits 48 = .ok (.goto (-44), 3) := by decide +kernel
theorem dX11_digits_51 : decode cX11_digits 51 = .ok (.aload_n 0, 1) := by decide +kernel
theorem dX11_digits_52 : decode cX11_digits 52 = .ok (.iload_n 2, 1) := by decide +kernel
theorem dX11_digits_53 : decode cX11_digits 53 = .ok (.iload_n 1, 1) := by decide +kernel
theorem dX11_digits_54 : decode cX11_digits 54 = .ok (.isub, 1) := by decide +kernel
theorem dX11_digits_55 : decode cX11_digits 55 = .ok (.bipush 10, 2) := by decide +kernel
theorem dX11_digits_57 : decode cX11_digits 57 = .ok (.if_icmp .gt 11, 3) := by decide +kernel
theorem dX11_digits_60 : decode cX11_digits 60 = .ok (.lload_n 3, 1) := by decide +kernel
theorem dX11_digits_61 : decode cX11_digits 61 = .ok (.ldc2_w 150, 3) := by decide +kernel
theorem dX11_digits_64 : decode cX11_digits 64 = .ok (.lcmp, 1) := by decide +kernel
theorem dX11_digits_65 : decode cX11_digits 65 = .ok (.ifCond .le 8, 3) := by decide +kernel
theorem dX11_digits_68 : decode cX11_digits 68 = .ok (.bipush 53, 2) := by decide +kernel
theorem dX11_digits_70 : decode cX11_digits 70 = .ok (.goto 5, 3) := by decide +kernel
theorem dX11_digits_73 : decode cX11_digits 73 = .ok (.bipush 51, 2) := by decide +kernel
theorem dX11_digits_75 : decode cX11_digits 75 = .ok (.lload_n 3, 1) := by decide +kernel
theorem dX11_digits_76 : decode cX11_digits 76 = .ok (.invokevirtual 137, 3) := by decide +kernel
theorem dX11_digits_79 : decode cX11_digits 79 = .ok (.iload_n 2, 1) := by decide +kernel
theorem dX11_digits_80 : decode cX11_digits 80 = .ok (.ireturn, 1) := by decide +kernel
theorem b_X11_digits_0 {h : Nat} {L : LVs} {st : List AV} {S : ST} {Q : Option AV → ST → Prop} (k : o_il L st S (fun L st S => o_is L st S (fun L st S => o_lc L st S (fun L st S => o_ls L st S (fun L st S => V MX11_digits h 4 L st S Q) 3) (lN 0)) 2) 1) : V MX11_digits h 0 L st S Q :=
  v_iload_n dX11_digits_0 rfl (fun L st S k => v_istore_n dX11_digits_1 rfl (by decide) (fun L st S k => v_lconst dX11_digits_2 (by decide) (fun L st S k => v_lstore_n dX11_digits_3 rfl (by decide) (fun L st S k => k) k) k) k) k
theorem b_X11_digits_4 {h : Nat} {L : LVs} {st : List AV} {S : ST} {Q : Option AV → ST → Prop} (k : o_al L st S (fun L st S => o_il L st S (fun L st S => V MX11_digits h 6 L st S Q) 2) 0) : V MX11_digits h 4 L st S Q :=
  v_aload_n dX11_digits_4 rfl (fun L st S k => v_iload_n dX11_digits_5 rfl (fun L st S k => k) k) k
theorem k_X11_digits_6 {h : Nat} {L : LVs} {st : List AV} {S : ST} {Q Q' : Option AV → ST → Prop} {j : Nat} {a0 : AV} (hC : Ct MX11_sign h [vR 11 j, a0] S Q') (k : ∀ (r : Option AV) (S' : ST), Q' r S' → V MX11_digits (h + 1) 9 L (r.toList ++ st) S' Q) (hj : j < NI 11) (hw : wid st ≤ 8) : V MX11_digits (h + 1) 6 L (a0 :: vR 11 j :: st) S Q :=
  v_callV (M' := MX11_sign) (c := 11) (As := [a0]) dX11_digits_6 ml_X11_121 im_X11_sign se_X11_sign in_X11 cd_X11_sign rfl LY_11 np_X11_sign (by decide) hw hj hC k
theorem k_X11_digits_9 {h : Nat} {L : LVs} {st : List AV} {S : ST} {Q Q' : Option AV → ST → Prop} {a0 : AV} (hC : Ct MX11_isDigit h [a0] S Q') (k : ∀ (r : Option AV) (S' : ST), Q' r S' → V MX11_digits (h + 1) 12 L (r.toList ++ st) S' Q) (hw : wid st ≤ 8) : V MX11_digits (h + 1) 9 L (a0 :: st) S Q :=
  v_callS (M' := MX11_isDigit) (As := [a0]) dX11_digits_9 ml_X11_141 sm_X11_isDigit in_X11 cd_X11_isDigit ⟨rfl, np_X11_isDigit⟩ (by decide) hw hC k
theorem b_X11_digits_12 {h : Nat} {L : LVs} {st : List AV} {S : ST} {Q : Option AV → ST → Prop} (k : t_1 L st S (fun x => x = nI 0) (fun L st S => V MX11_digits h 51 L st S Q) (fun L st S => V MX11_digits h 15 L st S Q)) : V MX11_digits h 12 L st S Q :=
  w_if_eq dX11_digits_12 (by decide) rfl k
theorem b_X11_digits_15 {h : Nat} {L : LVs} {st : List AV} {S : ST} {Q : Option AV → ST → Prop} (k : o_ll L st S (fun L st S => o_lc L st S (fun L st S => o_lcmp L st S (fun L st S => t_1 L st S (fun x => x ≤ nI 0) (fun L st S => V MX11_digits h 27 L st S Q) (fun L st S => V MX11_digits h 23 L st S Q))) (lN 99999999999)) 3) : V MX11_digits h 15 L st S Q :=
  v_lload_n dX11_digits_15 rfl (fun L st S k => v_ldc2 dX11_digits_16 kl_X11_144 (fun L st S k => v_lcmp dX11_digits_19 (fun L st S k => w_if_le dX11_digits_20 (by decide) rfl k) k) k) k
theorem b_X11_digits_23 {h : Nat} {L : LVs} {st : List AV} {S : ST} {Q : Option AV → ST → Prop} (k : o_ll L st S (fun L st S => V MX11_digits h 44 L st S Q) 3) : V MX11_digits h 23 L st S Q :=
  v_lload_n dX11_digits_23 rfl (fun L st S k => v_goto dX11_digits_24 (by decide) k) k
theorem b_X11_digits_27 {h : Nat} {L : LVs} {st : List AV} {S : ST} {Q : Option AV → ST → Prop} (k : o_lc L st S (fun L st S => o_ll L st S (fun L st S => o_lmul L st S (fun L st S => o_al L st S (fun L st S => o_get L st S (fun L st S => o_il L st S (fun L st S => o_iald L st S (fun L st S => o_i2l L st S (fun L st S => o_ladd L st S (fun L st S => o_lc L st S (fun L st S => o_lsub L st S (fun L st S => V MX11_digits h 44 L st S Q)) (lN 48))))) 2) 11 0 (3, 40, 0)) 0)) 3) (lN 10)) : V MX11_digits h 27 L st S Q :=
  v_ldc2 dX11_digits_27 kl_X11_146 (fun L st S k => v_lload_n dX11_digits_30 rfl (fun L st S k => v_lmul dX11_digits_31 (fun L st S k => v_aload_n dX11_digits_32 rfl (fun L st S k => v_get dX11_digits_33 rfl iX11 LY_11 rfl (by decide) rfl fl_X11_7 (fun L st S k => v_iload_n dX11_digits_36 rfl (fun L st S k => v_iaload dX11_digits_37 (fun L st S k => v_i2l dX11_digits_38 (fun L st S k => v_ladd dX11_digits_39 (fun L st S k => v_ldc2 dX11_digits_40 kl_X11_148 (fun L st S k => v_lsub dX11_digits_43 (fun L st S k => k) k) k) k) k) k) k) k) k) k) k) k
theorem b_X11_digits_44 {h : Nat} {L : LVs} {st : List AV} {S : ST} {Q : Option AV → ST → Prop} (k : o_ls L st S (fun L st S => o_inc L st S (fun L st S => V MX11_digits h 4 L st S Q) 2 (nI 1)) 3) : V MX11_digits h 44 L st S Q :=
  v_lstore_n dX11_digits_44 rfl (by decide) (fun L st S k => v_iinc dX11_digits_45 (by decide) (by decide) (fun L st S k => v_goto dX11_digits_48 (by decide) k) k) k
theorem b_X11_digits_51 {h : Nat} {L : LVs} {st : List AV} {S : ST} {Q : Option AV → ST → Prop} (k : o_al L st S (fun L st S => o_il L st S (fun L st S => o_il L st S (fun L st S => o_isub L st S (fun L st S => o_c L st S (fun L st S => t_2 L st S (fun x y => y < x) (fun L st S => V MX11_digits h 68 L st S Q) (fun L st S => V MX11_digits h 60 L st S Q)) (nI 10))) 1) 2) 0) : V MX11_digits h 51 L st S Q :=
  v_aload_n dX11_digits_51 rfl (fun L st S k => v_iload_n dX11_digits_52 rfl (fun L st S k => v_iload_n dX11_digits_53 rfl (fun L st S k => v_isub dX11_digits_54 (fun L st S k => v_bipush dX11_digits_55 (by decide) (fun L st S k => w_icmp_gt dX11_digits_57 (by decide) rfl k) k) k) k) k) k
theorem b_X11_digits_60 {h : Nat} {L : LVs} {st : List AV} {S : ST} {Q : Option AV → ST → Prop} (k : o_ll L st S (fun L st S => o_lc L st S (fun L st S => o_lcmp L st S (fun L st S => t_1 L st S (fun x => x ≤ nI 0) (fun L st S => V MX11_digits h 73 L st S Q) (fun L st S => V MX11_digits h 68 L st S Q))) (lN 2147483647)) 3) : V MX11_digits h 60 L st S Q :=
  v_lload_n dX11_digits_60 rfl (fun L st S k => v_ldc2 dX11_digits_61 kl_X11_150 (fun L st S k => v_lcmp dX11_digits_64 (fun L st S k => w_if_le dX11_digits_65 (by decide) rfl k) k) k) k
theorem b_X11_digits_68 {h : Nat} {L : LVs} {st : List AV} {S : ST} {Q : Option AV → ST → Prop} (k : o_c L st S (fun L st S => V MX11_digits h 75 L st S Q) (nI 53)) : V MX11_digits h 68 L st S Q :=
  v_bipush dX11_digits_68 (by decide) (fun L st S k => v_goto dX11_digits_70 (by decide) k) k
theorem b_X11_digits_73 {h : Nat} {L : LVs} {st : List AV} {S : ST} {Q : Option AV → ST → Prop} (k : o_c L st S (fun L st S => V MX11_digits h 75 L st S Q) (nI 51)) : V MX11_digits h 73 L st S Q :=
  v_bipush dX11_digits_73 (by decide) (fun L st S k => k) k
theorem b_X11_digits_75 {h : Nat} {L : LVs} {st : List AV} {S : ST} {Q : Option AV → ST → Prop} (k : o_ll L st S (fun L st S => V MX11_digits h 76 L st S Q) 3) : V MX11_digits h 75 L st S Q :=
  v_lload_n dX11_digits_75 rfl (fun L st S k => k) k
theorem k_X11_digits_76 {h : Nat} {L : LVs} {st : List AV} {S : ST} {Q Q' : Option AV → ST → Prop} {j : Nat} {a0 a1 : AV} (hC : Ct MX11_word h [vR 11 j, a0, a1] S Q') (k : ∀ (r : Option AV) (S' : ST), Q' r S' → V MX11_digits (h + 1) 79 L (r.toList ++ st) S' Q) (hj : j < NI 11) (hw : wid st ≤ 8) : V MX11_digits (h + 1) 76 L (a1 :: a0 :: vR 11 j :: st) S Q :=
  v_callV (M' := MX11_word) (c := 11) (As := [a0, a1]) dX11_digits_76 ml_X11_137 im_X11_word se_X11_word in_X11 cd_X11_word rfl LY_11 np_X11_word (by decide) hw hj hC k
theorem b_X11_digits_79 {h : Nat} {L : LVs} {st : List AV} {S : ST} {Q : Option AV → ST → Prop} (k : o_il L st S (fun L st S => t_ir st S Q) 2) : V MX11_digits h 79 L st S Q :=
  v_iload_n dX11_digits_79 rfl (fun L st S k => w_ir dX11_digits_80 rfl k) k
-- QueryForgeModel.quoted(I)I
theorem dX11_quoted_0 : decode cX11_quoted 0 = .ok (.iload_n 1, 1) := by decide +kernel
theorem dX11_quoted_1 : decode cX11_quoted 1 = .ok (.iconst 1, 1) := by decide +kernel
theorem dX11_quoted_2 : decode cX11_quoted 2 = .ok (.iadd, 1) := by decide +kernel
theorem dX11_quoted_3 : decode cX11_quoted 3 = .ok (.istore_n 2, 1) := by decide +kernel
theorem dX11_quoted_4 : decode cX11_quoted 4 = .ok (.lconst 0, 1) := by decide +kernel
theorem dX11_quoted_5 : decode cX11_quoted 5 = .ok (.lstore_n 3, 1) := by decide +kernel
theorem dX11_quoted_6 : decode cX11_quoted 6 = .ok (.iconst 0, 1) := by decide +kernel
theorem dX11_quoted_7 : decode cX11_quoted 7 = .ok (.istore 5, 2) := by decide +kernel
theorem dX11_quoted_9 : decode cX11_quoted 9 = .ok (.aload_n 0, 1) := by decide +kernel
theorem dX11_quoted_10 : decode cX11_quoted 10 = .ok (.iload_n 2, 1) := by decide +kernel
theorem dX11_quoted_11 : decode cX11_quoted 11 = .ok (.invokevirtual 121, 3) := by decide +kernel
theorem dX11_quoted_14 : decode cX11_quoted 14 = .ok (.invokestatic 125, 3) := by decide +kernel
theorem dX11_quoted_17 : decode cX11_quoted 17 = .ok (.ifCond .eq 41, 3) := by decide +kernel
theorem dX11_quoted_20 : decode cX11_quoted 20 = .ok (.iload 5, 2) := by decide +kernel
theorem dX11_quoted_22 : decode cX11_quoted 22 = .ok (.iconst 4, 1) := by decide +kernel
theorem dX11_quoted_23 : decode cX11_quoted 23 = .ok (.if_icmp .ge 24, 3) := by decide +kernel
theorem dX11_quoted_26 : decode cX11_quoted 26 = .ok (.lload_n 3, 1) := by decide +kernel
theorem dX11_quoted_27 : decode cX11_quoted 27 = .ok (.aload_n 0, 1) := by decide +kernel
theorem dX11_quoted_28 : decode cX11_quoted 28 = .ok (.getfield 7, 3) := by decide +kernel
theorem dX11_quoted_31 : decode cX11_quoted 31 = .ok (.iload_n 2, 1) := by decide +kernel
theorem dX11_quoted_32 : decode cX11_quoted 32 = .ok (.iaload, 1) := by decide +kernel
theorem dX11_quoted_33 : decode cX11_quoted 33 = .ok (.i2l, 1) := by decide +kernel
theorem dX11_quoted_34 : decode cX11_quoted 34 = .ok (.bipush 24, 2) := by decide +kernel
theorem dX11_quoted_36 : decode cX11_quoted 36 = .ok (.bipush 8, 2) := by decide +kernel
theorem dX11_quoted_38 : decode cX11_quoted 38 = .ok (.iload 5, 2) := by decide +kernel
theorem dX11_quoted_40 : decode cX11_quoted 40 = .ok (.imul, 1) := by decide +kernel
theorem dX11_quoted_41 : decode cX11_quoted 41 = .ok (.isub, 1) := by decide +kernel
theorem dX11_quoted_42 : decode cX11_quoted 42 = .ok (.lshl, 1) := by decide +kernel
theorem dX11_quoted_43 : decode cX11_quoted 43 = .ok (.lor, 1) := by decide +kernel
theorem dX11_quoted_44 : decode cX11_quoted 44 = .ok (.goto 4, 3) := by decide +kernel
theorem dX11_quoted_47 : decode cX11_quoted 47 = .ok (.lload_n 3, 1) := by decide +kernel
theorem dX11_quoted_48 : decode cX11_quoted 48 = .ok (.lstore_n 3, 1) := by decide +kernel
theorem dX11_quoted_49 : decode cX11_quoted 49 = .ok (.iinc 5 1, 3) := by decide +kernel
theorem dX11_quoted_52 : decode cX11_quoted 52 = .ok (.iinc 2 1, 3) := by decide +kernel
theorem dX11_quoted_55 : decode cX11_quoted 55 = .ok (.goto (-46), 3) := by decide +kernel
theorem dX11_quoted_58 : decode cX11_quoted 58 = .ok (.aload_n 0, 1) := by decide +kernel
theorem dX11_quoted_59 : decode cX11_quoted 59 = .ok (.iload_n 2, 1) := by decide +kernel
theorem dX11_quoted_60 : decode cX11_quoted 60 = .ok (.invokevirtual 121, 3) := by decide +kernel
theorem dX11_quoted_63 : decode cX11_quoted 63 = .ok (.bipush 39, 2) := by decide +kernel
theorem dX11_quoted_65 : decode cX11_quoted 65 = .ok (.if_icmp .ne 26, 3) := by decide +kernel
theorem dX11_quoted_68 : decode cX11_quoted 68 = .ok (.iload 5, 2) := by decide +kernel
theorem dX11_quoted_70 : decode cX11_quoted 70 = .ok (.iconst 1, 1) := by decide +kernel
theorem dX11_quoted_71 : decode cX11_quoted 71 = .ok (.if_icmp .lt 20, 3) := by decide +kernel
theorem dX11_quoted_74 : decode cX11_quoted 74 = .ok (.iload 5, 2) := by decide +kernel
theorem dX11_quoted_76 : decode cX11_quoted 76 = .ok (.iconst 4, 1) := by decide +kernel
theorem dX11_quoted_77 : decode cX11_quoted 77 = .ok (.if_icmp .gt 14, 3) := by decide +kernel
theorem dX11_quoted_80 : decode cX11_quoted 80 = .ok (.aload_n 0, 1) := by decide +kernel
theorem dX11_quoted_81 : decode cX11_quoted 81 = .ok (.bipush 52, 2) := by decide +kernel
theorem dX11_quoted_83 : decode cX11_quoted 83 = .ok (.lload_n 3, 1) := by decide +kernel
theorem dX11_quoted_84 : decode cX11_quoted 84 = .ok (.invokevirtual 137, 3) := by decide +kernel
theorem dX11_quoted_87 : decode cX11_quoted 87 = .ok (.iload_n 2, 1) := by decide +kernel
theorem dX11_quoted_88 : decode cX11_quoted 88 = .ok (.iconst 1, 1) := by decide +kernel
theorem dX11_quoted_89 : decode cX11_quoted 89 = .ok (.iadd, 1) := by decide +kernel
theorem dX11_quoted_90 : decode cX11_quoted 90 = .ok (.ireturn, 1) := by decide +kernel
theorem dX11_quoted_91 : decode cX11_quoted 91 = .ok (.aload_n 0, 1) := by decide +kernel
theorem dX11_quoted_92 : decode cX11_quoted 92 = .ok (.bipush 53, 2) := by decide +kernel
theorem dX11_quoted_94 : decode cX11_quoted 94 = .ok (.lconst 0, 1) := by decide +kernel
theorem dX11_quoted_95 : decode cX11_quoted 95 = .ok (.invokevirtual 137, 3) := by decide +kernel
theorem dX11_quoted_98 : decode cX11_quoted 98 = .ok (.iload_n 2, 1) := by decide +kernel
theorem dX11_quoted_99 : decode cX11_quoted 99 = .ok (.aload_n 0, 1) := by decide +kernel
theorem dX11_quoted_100 : decode cX11_quoted 100 = .ok (.getfield 102, 3) := by decide +kernel
theorem dX11_quoted_103 : decode cX11_quoted 103 = .ok (.if_icmp .ge 20, 3) := by decide +kernel
theorem dX11_quoted_106 : decode cX11_quoted 106 = .ok (.aload_n 0, 1) := by decide +kernel
theorem dX11_quoted_107 : decode cX11_quoted 107 = .ok (.getfield 7, 3) := by decide +kernel
theorem dX11_quoted_110 : decode cX11_quoted 110 = .ok (.iload_n 2, 1) := by decide +kernel
theorem dX11_quoted_111 : decode cX11_quoted 111 = .ok (.iaload, 1) := by decide +kernel
theorem dX11_quoted_112 : decode cX11_quoted 112 = .ok (.bipush 39, 2) := by decide +kernel
theorem dX11_quoted_114 : decode cX11_quoted 114 = .ok (.if_icmp .eq 9, 3) := by decide +kernel
theorem dX11_quoted_117 : decode cX11_quoted 117 = .ok (.iinc 2 1, 3) := by decide +kernel
theorem dX11_quoted_120 : decode cX11_quoted 120 = .ok (.goto (-22), 3) := by decide +kernel
theorem dX11_quoted_123 : decode cX11_quoted 123 = .ok (.iload_n 2, 1) := by decide +kernel
theorem dX11_quoted_124 : decode cX11_quoted 124 = .ok (.iconst 1, 1) := by decide +kernel
theorem dX11_quoted_125 : decode cX11_quoted 125 = .ok (.iadd, 1) := by decide +kernel
theorem dX11_quoted_126 : decode cX11_quoted 126 = .ok (.ireturn, 1) := by decide +kernel
theorem b_X11_quoted_0 {h : Nat} {L : LVs} {st : List AV} {S : ST} {Q : Option AV → ST → Prop} (k : o_il L st S (fun L st S => o_c L st S (fun L st S => o_iadd L st S (fun L st S => o_is L st S (fun L st S => o_lc L st S (fun L st S => o_ls L st S (fun L st S => o_c L st S (fun L st S => o_is L st S (fun L st S => V MX11_quoted h 9 L st S Q) 5) (nI 0)) 3) (lN 0)) 2)) (nI 1)) 1) : V MX11_quoted h 0 L st S Q :=
  v_iload_n dX11_quoted_0 rfl (fun L st S k => v_iconst dX11_quoted_1 (by decide) (fun L st S k => v_iadd dX11_quoted_2 (fun L st S k => v_istore_n dX11_quoted_3 rfl (by decide) (fun L st S k => v_lconst dX11_quoted_4 (by decide) (fun L st S k => v_lstore_n dX11_quoted_5 rfl (by decide) (fun L st S k => v_iconst dX11_quoted_6 (by decide) (fun L st S k => v_istore dX11_quoted_7 (by decide) (fun L st S k => k) k) k) k) k) k) k) k) k
theorem b_X11_quoted_9 {h : Nat} {L : LVs} {st : List AV} {S : ST} {Q : Option AV → ST → Prop} (k : o_al L st S (fun L st S => o_il L st S (fun L st S => V MX11_quoted h 11 L st S Q) 2) 0) : V MX11_quoted h 9 L st S Q :=
  v_aload_n dX11_quoted_9 rfl (fun L st S k => v_iload_n dX11_quoted_10 rfl (fun L st S k => k) k) k
theorem k_X11_quoted_11 {h : Nat} {L : LVs} {st : List AV} {S : ST} {Q Q' : Option AV → ST → Prop} {j : Nat} {a0 : AV} (hC : Ct MX11_sign h [vR 11 j, a0] S Q') (k : ∀ (r : Option AV) (S' : ST), Q' r S' → V MX11_quoted (h + 1) 14 L (r.toList ++ st) S' Q) (hj : j < NI 11) (hw : wid st ≤ 8) : V MX11_quoted (h + 1) 11 L (a0 :: vR 11 j :: st) S Q :=
  v_callV (M' := MX11_sign) (c := 11) (As := [a0]) dX11_quoted_11 ml_X11_121 im_X11_sign se_X11_sign in_X11 cd_X11_sign rfl LY_11 np_X11_sign (by decide) hw hj hC k
theorem k_X11_quoted_14 {h : Nat} {L : LVs} {st : List AV} {S : ST} {Q Q' : Option AV → ST → Prop} {a0 : AV} (hC : Ct MX11_isLetter h [a0] S Q') (k : ∀ (r : Option AV) (S' : ST), Q' r S' → V MX11_quoted (h + 1) 17 L (r.toList ++ st) S' Q) (hw : wid st ≤ 8) : V MX11_quoted (h + 1) 14 L (a0 :: st) S Q :=
  v_callS (M' := MX11_isLetter) (As := [a0]) dX11_quoted_14 ml_X11_125 sm_X11_isLetter in_X11 cd_X11_isLetter ⟨rfl, np_X11_isLetter⟩ (by decide) hw hC k
theorem b_X11_quoted_17 {h : Nat} {L : LVs} {st : List AV} {S : ST} {Q : Option AV → ST → Prop} (k : t_1 L st S (fun x => x = nI 0) (fun L st S => V MX11_quoted h 58 L st S Q) (fun L st S => V MX11_quoted h 20 L st S Q)) : V MX11_quoted h 17 L st S Q :=
  w_if_eq dX11_quoted_17 (by decide) rfl k
theorem b_X11_quoted_20 {h : Nat} {L : LVs} {st : List AV} {S : ST} {Q : Option AV → ST → Prop} (k : o_il L st S (fun L st S => o_c L st S (fun L st S => t_2 L st S (fun x y => y ≤ x) (fun L st S => V MX11_quoted h 47 L st S Q) (fun L st S => V MX11_quoted h 26 L st S Q)) (nI 4)) 5) : V MX11_quoted h 20 L st S Q :=
  v_iload dX11_quoted_20 (fun L st S k => v_iconst dX11_quoted_22 (by decide) (fun L st S k => w_icmp_ge dX11_quoted_23 (by decide) rfl k) k) k
theorem b_X11_quoted_26 {h : Nat} {L : LVs} {st : List AV} {S : ST} {Q : Option AV → ST → Prop} (k : o_ll L st S (fun L st S => o_al L st S (fun L st S => o_get L st S (fun L st S => o_il L st S (fun L st S => o_iald L st S (fun L st S => o_i2l L st S (fun L st S => o_c L st S (fun L st S => o_c L st S (fun L st S => o_il L st S (fun L st S => o_imul L st S (fun L st S => o_isub L st S (fun L st S => o_lshl L st S (fun L st S => o_lor L st S (fun L st S => V MX11_quoted h 48 L st S Q))))) 5) (nI 8)) (nI 24)))) 2) 11 0 (3, 40, 0)) 0) 3) : V MX11_quoted h 26 L st S Q :=
  v_lload_n dX11_quoted_26 rfl (fun L st S k => v_aload_n dX11_quoted_27 rfl (fun L st S k => v_get dX11_quoted_28 rfl iX11 LY_11 rfl (by decide) rfl fl_X11_7 (fun L st S k => v_iload_n dX11_quoted_31 rfl (fun L st S k => v_iaload dX11_quoted_32 (fun L st S k => v_i2l dX11_quoted_33 (fun L st S k => v_bipush dX11_quoted_34 (by decide) (fun L st S k => v_bipush dX11_quoted_36 (by decide) (fun L st S k => v_iload dX11_quoted_38 (fun L st S k => v_imul dX11_quoted_40 (fun L st S k => v_isub dX11_quoted_41 (fun L st S k => v_lshl dX11_quoted_42 (fun L st S k => v_lor dX11_quoted_43 (fun L st S k => v_goto dX11_quoted_44 (by decide) k) k) k) k) k) k) k) k) k) k) k) k) k) k
theorem b_X11_quoted_47 {h : Nat} {L : LVs} {st : List AV} {S : ST} {Q : Option AV → ST → Prop} (k : o_ll L st S (fun L st S => V MX11_quoted h 48 L st S Q) 3) : V MX11_quoted h 47 L st S Q :=
  v_lload_n dX11_quoted_47 rfl (fun L st S k => k) k
theorem b_X11_quoted_48 {h : Nat} {L : LVs} {st : List AV} {S : ST} {Q : Option AV → ST → Prop} (k : o_ls L st S (fun L st S => o_inc L st S (fun L st S => o_inc L st S (fun L st S => V MX11_quoted h 9 L st S Q) 2 (nI 1)) 5 (nI 1)) 3) : V MX11_quoted h 48 L st S Q :=
  v_lstore_n dX11_quoted_48 rfl (by decide) (fun L st S k => v_iinc dX11_quoted_49 (by decide) (by decide) (fun L st S k => v_iinc dX11_quoted_52 (by decide) (by decide) (fun L st S k => v_goto dX11_quoted_55 (by decide) k) k) k) k
theorem b_X11_quoted_58 {h : Nat} {L : LVs} {st : List AV} {S : ST} {Q : Option AV → ST → Prop} (k : o_al L st S (fun L st S => o_il L st S (fun L st S => V MX11_quoted h 60 L st S Q) 2) 0) : V MX11_quoted h 58 L st S Q :=
  v_aload_n dX11_quoted_58 rfl (fun L st S k => v_iload_n dX11_quoted_59 rfl (fun L st S k => k) k) k
theorem k_X11_quoted_60 {h : Nat} {L : LVs} {st : List AV} {S : ST} {Q Q' : Option AV → ST → Prop} {j : Nat} {a0 : AV} (hC : Ct MX11_sign h [vR 11 j, a0] S Q') (k : ∀ (r : Option AV) (S' : ST), Q' r S' → V MX11_quoted (h + 1) 63 L (r.toList ++ st) S' Q) (hj : j < NI 11) (hw : wid st ≤ 8) : V MX11_quoted (h + 1) 60 L (a0 :: vR 11 j :: st) S Q :=
  v_callV (M' := MX11_sign) (c := 11) (As := [a0]) dX11_quoted_60 ml_X11_121 im_X11_sign se_X11_sign in_X11 cd_X11_sign rfl LY_11 np_X11_sign (by decide) hw hj hC k
theorem b_X11_quoted_63 {h : Nat} {L : LVs} {st : List AV} {S : ST} {Q : Option AV → ST → Prop} (k : o_c L st S (fun L st S => t_2 L st S (fun x y => x = y) (fun L st S => V MX11_quoted h 68 L st S Q) (fun L st S => V MX11_quoted h 91 L st S Q)) (nI 39)) : V MX11_quoted h 63 L st S Q :=
  v_bipush dX11_quoted_63 (by decide) (fun L st S k => w_icmp_ne dX11_quoted_65 (by decide) rfl k) k
theorem b_X11_quoted_68 {h : Nat} {L : LVs} {st : List AV} {S : ST} {Q : Option AV → ST → Prop} (k : o_il L st S (fun L st S => o_c L st S (fun L st S => t_2 L st S (fun x y => x < y) (fun L st S => V MX11_quoted h 91 L st S Q) (fun L st S => V MX11_quoted h 74 L st S Q)) (nI 1)) 5) : V MX11_quoted h 68 L st S Q :=
  v_iload dX11_quoted_68 (fun L st S k => v_iconst dX11_quoted_70 (by decide) (fun L st S k => w_icmp_lt dX11_quoted_71 (by decide) rfl k) k) k
theorem b_X11_quoted_74 {h : Nat} {L : LVs} {st : List AV} {S : ST} {Q : Option AV → ST → Prop} (k : o_il L st S (fun L st S => o_c L st S (fun L st S => t_2 L st S (fun x y => y < x) (fun L st S => V MX11_quoted h 91 L st S Q) (fun L st S => V MX11_quoted h 80 L st S Q)) (nI 4)) 5) : V MX11_quoted h 74 L st S Q :=
  v_iload dX11_quoted_74 (fun L st S k => v_iconst dX11_quoted_76 (by decide) (fun L st S k => w_icmp_gt dX11_quoted_77 (by decide) rfl k) k) k
theorem b_X11_quoted_80 {h : Nat} {L : LVs} {st : List AV} {S : ST} {Q : Option AV → ST → Prop} (k : o_al L st S (fun L st S => o_c L st S (fun L st S => o_ll L st S (fun L st S => V MX11_quoted h 84 L st S Q) 3) (nI 52)) 0) : V MX11_quoted h 80 L st S Q :=
  v_aload_n dX11_quoted_80 rfl (fun L st S k => v_bipush dX11_quoted_81 (by decide) (fun L st S k => v_lload_n dX11_quoted_83 rfl (fun L st S k => k) k) k) k
theorem k_X11_quoted_84 {h : Nat} {L : LVs} {st : List AV} {S : ST} {Q Q' : Option AV → ST → Prop} {j : Nat} {a0 a1 : AV} (hC : Ct MX11_word h [vR 11 j, a0, a1] S Q') (k : ∀ (r : Option AV) (S' : ST), Q' r S' → V MX11_quoted (h + 1) 87 L (r.toList ++ st) S' Q) (hj : j < NI 11) (hw : wid st ≤ 8) : V MX11_quoted (h + 1) 84 L (a1 :: a0 :: vR 11 j :: st) S Q :=
  v_callV (M' := MX11_word) (c := 11) (As := [a0, a1]) dX11_quoted_84 ml_X11_137 im_X11_word se_X11_word in_X11 cd_X11_word rfl LY_11 np_X11_word (by decide) hw hj hC k
theorem b_X11_quoted_87 {h : Nat} {L : LVs} {st : List AV} {S : ST} {Q : Option AV → ST → Prop} (k : o_il L st S (fun L st S => o_c L st S (fun L st S => o_iadd L st S (fun L st S => t_ir st S Q)) (nI 1)) 2) : V MX11_quoted h 87 L st S Q :=
  v_iload_n dX11_quoted_87 rfl (fun L st S k => v_iconst dX11_quoted_88 (by decide) (fun L st S k => v_iadd dX11_quoted_89 (fun L st S k => w_ir dX11_quoted_90 rfl k) k) k) k
theorem b_X11_quoted_91 {h : Nat} {L : LVs} {st : List AV} {S : ST} {Q : Option AV → ST → Prop} (k : o_al L st S (fun L st S => o_c L st S (fun L st S => o_lc L st S (fun L st S => V MX11_quoted h 95 L st S Q) (lN 0)) (nI 53)) 0) : V MX11_quoted h 91 L st S Q :=
  v_aload_n dX11_quoted_91 rfl (fun L st S k => v_bipush dX11_quoted_92 (by decide) (fun L st S k => v_lconst dX11_quoted_94 (by decide) (fun L st S k => k) k) k) k
theorem k_X11_quoted_95 {h : Nat} {L : LVs} {st : List AV} {S : ST} {Q Q' : Option AV → ST → Prop} {j : Nat} {a0 a1 : AV} (hC : Ct MX11_word h [vR 11 j, a0, a1] S Q') (k : ∀ (r : Option AV) (S' : ST), Q' r S' → V MX11_quoted (h + 1) 98 L (r.toList ++ st) S' Q) (hj : j < NI 11) (hw : wid st ≤ 8) : V MX11_quoted (h + 1) 95 L (a1 :: a0 :: vR 11 j :: st) S Q :=
  v_callV (M' := MX11_word) (c := 11) (As := [a0, a1]) dX11_quoted_95 ml_X11_137 im_X11_word se_X11_word in_X11 cd_X11_word rfl LY_11 np_X11_word (by decide) hw hj hC k
theorem b_X11_quoted_98 {h : Nat} {L : LVs} {st : List AV} {S : ST} {Q : Option AV → ST → Prop} (k : o_il L st S (fun L st S => o_al L st S (fun L st S => o_get L st S (fun L st S => t_2 L st S (fun x y => y ≤ x) (fun L st S => V MX11_quoted h 123 L st S Q) (fun L st S => V MX11_quoted h 106 L st S Q)) 11 1 (0, 0, 0)) 0) 2) : V MX11_quoted h 98 L st S Q :=
  v_iload_n dX11_quoted_98 rfl (fun L st S k => v_aload_n dX11_quoted_99 rfl (fun L st S k => v_get dX11_quoted_100 rfl iX11 LY_11 rfl (by decide) rfl fl_X11_102 (fun L st S k => w_icmp_ge dX11_quoted_103 (by decide) rfl k) k) k) k
theorem b_X11_quoted_106 {h : Nat} {L : LVs} {st : List AV} {S : ST} {Q : Option AV → ST → Prop} (k : o_al L st S (fun L st S => o_get L st S (fun L st S => o_il L st S (fun L st S => o_iald L st S (fun L st S => o_c L st S (fun L st S => t_2 L st S (fun x y => x = y) (fun L st S => V MX11_quoted h 123 L st S Q) (fun L st S => V MX11_quoted h 117 L st S Q)) (nI 39))) 2) 11 0 (3, 40, 0)) 0) : V MX11_quoted h 106 L st S Q :=
  v_aload_n dX11_quoted_106 rfl (fun L st S k => v_get dX11_quoted_107 rfl iX11 LY_11 rfl (by decide) rfl fl_X11_7 (fun L st S k => v_iload_n dX11_quoted_110 rfl (fun L st S k => v_iaload dX11_quoted_111 (fun L st S k => v_bipush dX11_quoted_112 (by decide) (fun L st S k => w_icmp_eq dX11_quoted_114 (by decide) rfl k) k) k) k) k) k
theorem b_X11_quoted_117 {h : Nat} {L : LVs} {st : List AV} {S : ST} {Q : Option AV → ST → Prop} (k : o_inc L st S (fun L st S => V MX11_quoted h 98 L st S Q) 2 (nI 1)) : V MX11_quoted h 117 L st S Q :=
  v_iinc dX11_quoted_117 (by decide) (by decide) (fun L st S k => v_goto dX11_quoted_120 (by decide) k) k
theorem b_X11_quoted_123 {h : Nat} {L : LVs} {st : List AV} {S : ST} {Q : Option AV → ST → Prop} (k : o_il L st S (fun L st S => o_c L st S (fun L st S => o_iadd L st S (fun L st S => t_ir st S Q)) (nI 1)) 2) : V MX11_quoted h 123 L st S Q :=
  v_iload_n dX11_quoted_123 rfl (fun L st S k => v_iconst dX11_quoted_124 (by decide) (fun L st S k => v_iadd dX11_quoted_125 (fun L st S k => w_ir dX11_quoted_126 rfl k) k) k) k
-- QueryForgeModel.single(I)I
theorem dX11_single_0 : decode cX11_single 0 = .ok (.aload_n 0, 1) := by decide +kernel
theorem dX11_single_1 : decode cX11_single 1 = .ok (.getfield 7, 3) := by decide +kernel
theorem dX11_single_4 : decode cX11_single 4 = .ok (.iload_n 1, 1) := by decide +kernel
theorem dX11_single_5 : decode cX11_single 5 = .ok (.iaload, 1) := by decide +kernel
theorem dX11_single_6 : decode cX11_single 6 = .ok (.istore_n 2, 1) := by decide +kernel
theorem dX11_single_7 : decode cX11_single 7 = .ok (.aload_n 0, 1) := by decide +kernel
theorem dX11_single_8 : decode cX11_single 8 = .ok (.iload_n 1, 1) := by decide +kernel
theorem dX11_single_9 : decode cX11_single 9 = .ok (.iconst 1, 1) := by decide +kernel
theorem dX11_single_10 : decode cX11_single 10 = .ok (.iadd, 1) := by decide +kernel
theorem dX11_single_11 : decode cX11_single 11 = .ok (.invokevirtual 121, 3) := by decide +kernel
theorem dX11_single_14 : decode cX11_single 14 = .ok (.istore_n 3, 1) := by decide +kernel
theorem dX11_single_15 : decode cX11_single 15 = .ok (.iload_n 2, 1) := by decide +kernel
theorem dX11_single_16 : decode cX11_single 16 = .ok (.bipush 60, 2) := by decide +kernel
theorem dX11_single_18 : decode cX11_single 18 = .ok (.if_icmp .ne 9, 3) := by decide +kernel
theorem dX11_single_21 : decode cX11_single 21 = .ok (.iload_n 3, 1) := by decide +kernel
theorem dX11_single_22 : decode cX11_single 22 = .ok (.bipush 61, 2) := by decide +kernel
theorem dX11_single_24 : decode cX11_single 24 = .ok (.if_icmp .eq 27, 3) := by decide +kernel
theorem dX11_single_27 : decode cX11_single 27 = .ok (.iload_n 2, 1) := by decide +kernel
theorem dX11_single_28 : decode cX11_single 28 = .ok (.bipush 62, 2) := by decide +kernel
theorem dX11_single_30 : decode cX11_single 30 = .ok (.if_icmp .ne 9, 3) := by decide +kernel
theorem dX11_single_33 : decode cX11_single 33 = .ok (.iload_n 3, 1) := by decide +kernel
theorem dX11_single_34 : decode cX11_single 34 = .ok (.bipush 61, 2) := by decide +kernel
theorem dX11_single_36 : decode cX11_single 36 = .ok (.if_icmp .eq 15, 3) := by decide +kernel
theorem dX11_single_39 : decode cX11_single 39 = .ok (.iload_n 2, 1) := by decide +kernel
theorem dX11_single_40 : decode cX11_single 40 = .ok (.bipush 60, 2) := by decide +kernel
theorem dX11_single_42 : decode cX11_single 42 = .ok (.if_icmp .ne 42, 3) := by decide +kernel
theorem dX11_single_45 : decode cX11_single 45 = .ok (.iload_n 3, 1) := by decide +kernel
theorem dX11_single_46 : decode cX11_single 46 = .ok (.bipush 62, 2) := by decide +kernel
theorem dX11_single_48 : decode cX11_single 48 = .ok (.if_icmp .ne 36, 3) := by decide +kernel
theorem dX11_single_51 : decode cX11_single 51 = .ok (.aload_n 0, 1) := by decide +kernel
theorem dX11_single_52 : decode cX11_single 52 = .ok (.iload_n 3, 1) := by decide +kernel
theorem dX11_single_53 : decode cX11_single 53 = .ok (.bipush 62, 2) := by decide +kernel
theorem dX11_single_55 : decode cX11_single 55 = .ok (.if_icmp .ne 8, 3) := by decide +kernel
theorem dX11_single_58 : decode cX11_single 58 = .ok (.bipush 45, 2) := by decide +kernel
theorem dX11_single_60 : decode cX11_single 60 = .ok (.goto 16, 3) := by decide +kernel
theorem dX11_single_63 : decode cX11_single 63 = .ok (.iload_n 2, 1) := by decide +kernel
theorem dX11_single_64 : decode cX11_single 64 = .ok (.bipush 60, 2) := by decide +kernel
theorem dX11_single_66 : decode cX11_single 66 = .ok (.if_icmp .ne 8, 3) := by decide +kernel
theorem dX11_single_69 : decode cX11_single 69 = .ok (.bipush 43, 2) := by decide +kernel
theorem dX11_single_71 : decode cX11_single 71 = .ok (.goto 5, 3) := by decide +kernel
theorem dX11_single_74 : decode cX11_single 74 = .ok (.bipush 44, 2) := by decide +kernel
theorem dX11_single_76 : decode cX11_single 76 = .ok (.lconst 0, 1) := by decide +kernel
theorem dX11_single_77 : decode cX11_single 77 = .ok (.invokevirtual 137, 3) := by decide +kernel
theorem dX11_single_80 : decode cX11_single 80 = .ok (.iload_n 1, 1) := by decide +kernel
theorem dX11_single_81 : decode cX11_single 81 = .ok (.iconst 2, 1) := by decide +kernel
theorem dX11_single_82 : decode cX11_single 82 = .ok (.iadd, 1) := by decide +kernel
theorem dX11_single_83 : decode cX11_single 83 = .ok (.ireturn, 1) := by decide +kernel
theorem dX11_single_84 : decode cX11_single 84 = .ok (.ldc 152, 2) := by decide +kernel
theorem dX11_single_86 : decode cX11_single 86 = .ok (.iload_n 2, 1) := by decide +kernel
theorem dX11_single_87 : decode cX11_single 87 = .ok (.invokevirtual 154, 3) := by decide +kernel
theorem dX11_single_90 : decode cX11_single 90 = .ok (.istore 4, 2) := by decide +kernel
theorem dX11_single_92 : decode cX11_single 92 = .ok (.aload_n 0, 1) := by decide +kernel
theorem dX11_single_93 : decode cX11_single 93 = .ok (.iload 4, 2) := by decide +kernel
theorem dX11_single_95 : decode cX11_single 95 = .ok (.ifCond .ge 8, 3) := by decide +kernel
theorem dX11_single_98 : decode cX11_single 98 = .ok (.bipush 53, 2) := by decide +kernel
theorem dX11_single_100 : decode cX11_single 100 = .ok (.goto 8, 3) := by decide +kernel
theorem dX11_single_103 : decode cX11_single 103 = .ok (.bipush 30, 2) := by decide +kernel
theorem dX11_single_105 : decode cX11_single 105 = .ok (.iload 4, 2) := by decide +kernel
theorem dX11_single_107 : decode cX11_single 107 = .ok (.iadd, 1) := by decide +kernel
theorem dX11_single_108 : decode cX11_single 108 = .ok (.lconst 0, 1) := by decide +kernel
theorem dX11_single_109 : decode cX11_single 109 = .ok (.invokevirtual 137, 3) := by decide +kernel
theorem dX11_single_112 : decode cX11_single 112 = .ok (.iload_n 1, 1) := by decide +kernel
theorem dX11_single_113 : decode cX11_single 113 = .ok (.iconst 1, 1) := by decide +kernel
theorem dX11_single_114 : decode cX11_single 114 = .ok (.iadd, 1) := by decide +kernel
theorem dX11_single_115 : decode cX11_single 115 = .ok (.ireturn, 1) := by decide +kernel
theorem b_X11_single_0 {h : Nat} {L : LVs} {st : List AV} {S : ST} {Q : Option AV → ST → Prop} (k : o_al L st S (fun L st S => o_get L st S (fun L st S => o_il L st S (fun L st S => o_iald L st S (fun L st S => o_is L st S (fun L st S => o_al L st S (fun L st S => o_il L st S (fun L st S => o_c L st S (fun L st S => o_iadd L st S (fun L st S => V MX11_single h 11 L st S Q)) (nI 1)) 1) 0) 2)) 1) 11 0 (3, 40, 0)) 0) : V MX11_single h 0 L st S Q :=
  v_aload_n dX11_single_0 rfl (fun L st S k => v_get dX11_single_1 rfl iX11 LY_11 rfl (by decide) rfl fl_X11_7 (fun L st S k => v_iload_n dX11_single_4 rfl (fun L st S k => v_iaload dX11_single_5 (fun L st S k => v_istore_n dX11_single_6 rfl (by decide) (fun L st S k => v_aload_n dX11_single_7 rfl (fun L st S k => v_iload_n dX11_single_8 rfl (fun L st S k => v_iconst dX11_single_9 (by decide) (fun L st S k => v_iadd dX11_single_10 (fun L st S k => k) k) k) k) k) k) k) k) k) k
theorem k_X11_single_11 {h : Nat} {L : LVs} {st : List AV} {S : ST} {Q Q' : Option AV → ST → Prop} {j : Nat} {a0 : AV} (hC : Ct MX11_sign h [vR 11 j, a0] S Q') (k : ∀ (r : Option AV) (S' : ST), Q' r S' → V MX11_single (h + 1) 14 L (r.toList ++ st) S' Q) (hj : j < NI 11) (hw : wid st ≤ 8) : V MX11_single (h + 1) 11 L (a0 :: vR 11 j :: st) S Q :=
  v_callV (M' := MX11_sign) (c := 11) (As := [a0]) dX11_single_11 ml_X11_121 im_X11_sign se_X11_sign in_X11 cd_X11_sign rfl LY_11 np_X11_sign (by decide) hw hj hC k
theorem b_X11_single_14 {h : Nat} {L : LVs} {st : List AV} {S : ST} {Q : Option AV → ST → Prop} (k : o_is L st S (fun L st S => o_il L st S (fun L st S => o_c L st S (fun L st S => t_2 L st S (fun x y => x = y) (fun L st S => V MX11_single h 21 L st S Q) (fun L st S => V MX11_single h 27 L st S Q)) (nI 60)) 2) 3) : V MX11_single h 14 L st S Q :=
  v_istore_n dX11_single_14 rfl (by decide) (fun L st S k => v_iload_n dX11_single_15 rfl (fun L st S k => v_bipush dX11_single_16 (by decide) (fun L st S k => w_icmp_ne dX11_single_18 (by decide) rfl k) k) k) k
theorem b_X11_single_21 {h : Nat} {L : LVs} {st : List AV} {S : ST} {Q : Option AV → ST → Prop} (k : o_il L st S (fun L st S => o_c L st S (fun L st S => t_2 L st S (fun x y => x = y) (fun L st S => V MX11_single h 51 L st S Q) (fun L st S => V MX11_single h 27 L st S Q)) (nI 61)) 3) : V MX11_single h 21 L st S Q :=
  v_iload_n dX11_single_21 rfl (fun L st S k => v_bipush dX11_single_22 (by decide) (fun L st S k => w_icmp_eq dX11_single_24 (by decide) rfl k) k) k
theorem b_X11_single_27 {h : Nat} {L : LVs} {st : List AV} {S : ST} {Q : Option AV → ST → Prop} (k : o_il L st S (fun L st S => o_c L st S (fun L st S => t_2 L st S (fun x y => x = y) (fun L st S => V MX11_single h 33 L st S Q) (fun L st S => V MX11_single h 39 L st S Q)) (nI 62)) 2) : V MX11_single h 27 L st S Q :=
  v_iload_n dX11_single_27 rfl (fun L st S k => v_bipush dX11_single_28 (by decide) (fun L st S k => w_icmp_ne dX11_single_30 (by decide) rfl k) k) k
theorem b_X11_single_33 {h : Nat} {L : LVs} {st : List AV} {S : ST} {Q : Option AV → ST → Prop} (k : o_il L st S (fun L st S => o_c L st S (fun L st S => t_2 L st S (fun x y => x = y) (fun L st S => V MX11_single h 51 L st S Q) (fun L st S => V MX11_single h 39 L st S Q)) (nI 61)) 3) : V MX11_single h 33 L st S Q :=
  v_iload_n dX11_single_33 rfl (fun L st S k => v_bipush dX11_single_34 (by decide) (fun L st S k => w_icmp_eq dX11_single_36 (by decide) rfl k) k) k
theorem b_X11_single_39 {h : Nat} {L : LVs} {st : List AV} {S : ST} {Q : Option AV → ST → Prop} (k : o_il L st S (fun L st S => o_c L st S (fun L st S => t_2 L st S (fun x y => x = y) (fun L st S => V MX11_single h 45 L st S Q) (fun L st S => V MX11_single h 84 L st S Q)) (nI 60)) 2) : V MX11_single h 39 L st S Q :=
  v_iload_n dX11_single_39 rfl (fun L st S k => v_bipush dX11_single_40 (by decide) (fun L st S k => w_icmp_ne dX11_single_42 (by decide) rfl k) k) k
theorem b_X11_single_45 {h : Nat} {L : LVs} {st : List AV} {S : ST} {Q : Option AV → ST → Prop} (k : o_il L st S (fun L st S => o_c L st S (fun L st S => t_2 L st S (fun x y => x = y) (fun L st S => V MX11_single h 51 L st S Q) (fun L st S => V MX11_single h 84 L st S Q)) (nI 62)) 3) : V MX11_single h 45 L st S Q :=
  v_iload_n dX11_single_45 rfl (fun L st S k => v_bipush dX11_single_46 (by decide) (fun L st S k => w_icmp_ne dX11_single_48 (by decide) rfl k) k) k
theorem b_X11_single_51 {h : Nat} {L : LVs} {st : List AV} {S : ST} {Q : Option AV → ST → Prop} (k : o_al L st S (fun L st S => o_il L st S (fun L st S => o_c L st S (fun L st S => t_2 L st S (fun x y => x = y) (fun L st S => V MX11_single h 58 L st S Q) (fun L st S => V MX11_single h 63 L st S Q)) (nI 62)) 3) 0) : V MX11_single h 51 L st S Q :=
  v_aload_n dX11_single_51 rfl (fun L st S k => v_iload_n dX11_single_52 rfl (fun L st S k => v_bipush dX11_single_53 (by decide) (fun L st S k => w_icmp_ne dX11_single_55 (by decide) rfl k) k) k) k
theorem b_X11_single_58 {h : Nat} {L : LVs} {st : List AV} {S : ST} {Q : Option AV → ST → Prop} (k : o_c L st S (fun L st S => V MX11_single h 76 L st S Q) (nI 45)) : V MX11_single h 58 L st S Q :=
  v_bipush dX11_single_58 (by decide) (fun L st S k => v_goto dX11_single_60 (by decide) k) k
theorem b_X11_single_63 {h : Nat} {L : LVs} {st : List AV} {S : ST} {Q : Option AV → ST → Prop} (k : o_il L st S (fun L st S => o_c L st S (fun L st S => t_2 L st S (fun x y => x = y) (fun L st S => V MX11_single h 69 L st S Q) (fun L st S => V MX11_single h 74 L st S Q)) (nI 60)) 2) : V MX11_single h 63 L st S Q :=
  v_iload_n dX11_single_63 rfl (fun L st S k => v_bipush dX11_single_64 (by decide) (fun L st S k => w_icmp_ne dX11_single_66 (by decide) rfl k) k) k
theorem b_X11_single_69 {h : Nat} {L : LVs} {st : List AV} {S : ST} {Q : Option AV → ST → Prop} (k : o_c L st S (fun L st S => V MX11_single h 76 L st S Q) (nI 43)) : V MX11_single h 69 L st S Q :=
  v_bipush dX11_single_69 (by decide) (fun L st S k => v_goto dX11_single_71 (by decide) k) k
theorem b_X11_single_74 {h : Nat} {L : LVs} {st : List AV} {S : ST} {Q : Option AV → ST → Prop} (k : o_c L st S (fun L st S => V MX11_single h 76 L st S Q) (nI 44)) : V MX11_single h 74 L st S Q :=
  v_bipush dX11_single_74 (by decide) (fun L st S k => k) k
theorem b_X11_single_76 {h : Nat} {L : LVs} {st : List AV} {S : ST} {Q : Option AV → ST → Prop} (k : o_lc L st S (fun L st S => V MX11_single h 77 L st S Q) (lN 0)) : V MX11_single h 76 L st S Q :=
  v_lconst dX11_single_76 (by decide) (fun L st S k => k) k
theorem k_X11_single_77 {h : Nat} {L : LVs} {st : List AV} {S : ST} {Q Q' : Option AV → ST → Prop} {j : Nat} {a0 a1 : AV} (hC : Ct MX11_word h [vR 11 j, a0, a1] S Q') (k : ∀ (r : Option AV) (S' : ST), Q' r S' → V MX11_single (h + 1) 80 L (r.toList ++ st) S' Q) (hj : j < NI 11) (hw : wid st ≤ 8) : V MX11_single (h + 1) 77 L (a1 :: a0 :: vR 11 j :: st) S Q :=
  v_callV (M' := MX11_word) (c := 11) (As := [a0, a1]) dX11_single_77 ml_X11_137 im_X11_word se_X11_word in_X11 cd_X11_word rfl LY_11 np_X11_word (by decide) hw hj hC k
theorem b_X11_single_80 {h : Nat} {L : LVs} {st : List AV} {S : ST} {Q : Option AV → ST → Prop} (k : o_il L st S (fun L st S => o_c L st S (fun L st S => o_iadd L st S (fun L st S => t_ir st S Q)) (nI 2)) 1) : V MX11_single h 80 L st S Q :=
  v_iload_n dX11_single_80 rfl (fun L st S k => v_iconst dX11_single_81 (by decide) (fun L st S k => v_iadd dX11_single_82 (fun L st S k => w_ir dX11_single_83 rfl k) k) k) k
-- by hand: X11_single at 84: a text
theorem b_X11_single_86 {h : Nat} {L : LVs} {st : List AV} {S : ST} {Q : Option AV → ST → Prop} (k : o_il L st S (fun L st S => V MX11_single h 87 L st S Q) 2) : V MX11_single h 86 L st S Q :=
  v_iload_n dX11_single_86 rfl (fun L st S k => k) k
-- by hand: X11_single at 87: invokevirtual ('java/lang/String', 'indexOf', '(I)I')
theorem b_X11_single_90 {h : Nat} {L : LVs} {st : List AV} {S : ST} {Q : Option AV → ST → Prop} (k : o_is L st S (fun L st S => o_al L st S (fun L st S => o_il L st S (fun L st S => t_1 L st S (fun x => nI 0 ≤ x) (fun L st S => V MX11_single h 103 L st S Q) (fun L st S => V MX11_single h 98 L st S Q)) 4) 0) 4) : V MX11_single h 90 L st S Q :=
  v_istore dX11_single_90 (by decide) (fun L st S k => v_aload_n dX11_single_92 rfl (fun L st S k => v_iload dX11_single_93 (fun L st S k => w_if_ge dX11_single_95 (by decide) rfl k) k) k) k
theorem b_X11_single_98 {h : Nat} {L : LVs} {st : List AV} {S : ST} {Q : Option AV → ST → Prop} (k : o_c L st S (fun L st S => V MX11_single h 108 L st S Q) (nI 53)) : V MX11_single h 98 L st S Q :=
  v_bipush dX11_single_98 (by decide) (fun L st S k => v_goto dX11_single_100 (by decide) k) k
theorem b_X11_single_103 {h : Nat} {L : LVs} {st : List AV} {S : ST} {Q : Option AV → ST → Prop} (k : o_c L st S (fun L st S => o_il L st S (fun L st S => o_iadd L st S (fun L st S => V MX11_single h 108 L st S Q)) 4) (nI 30)) : V MX11_single h 103 L st S Q :=
  v_bipush dX11_single_103 (by decide) (fun L st S k => v_iload dX11_single_105 (fun L st S k => v_iadd dX11_single_107 (fun L st S k => k) k) k) k
theorem b_X11_single_108 {h : Nat} {L : LVs} {st : List AV} {S : ST} {Q : Option AV → ST → Prop} (k : o_lc L st S (fun L st S => V MX11_single h 109 L st S Q) (lN 0)) : V MX11_single h 108 L st S Q :=
  v_lconst dX11_single_108 (by decide) (fun L st S k => k) k
theorem k_X11_single_109 {h : Nat} {L : LVs} {st : List AV} {S : ST} {Q Q' : Option AV → ST → Prop} {j : Nat} {a0 a1 : AV} (hC : Ct MX11_word h [vR 11 j, a0, a1] S Q') (k : ∀ (r : Option AV) (S' : ST), Q' r S' → V MX11_single (h + 1) 112 L (r.toList ++ st) S' Q) (hj : j < NI 11) (hw : wid st ≤ 8) : V MX11_single (h + 1) 109 L (a1 :: a0 :: vR 11 j :: st) S Q :=
  v_callV (M' := MX11_word) (c := 11) (As := [a0, a1]) dX11_single_109 ml_X11_137 im_X11_word se_X11_word in_X11 cd_X11_word rfl LY_11 np_X11_word (by decide) hw hj hC k
theorem b_X11_single_112 {h : Nat} {L : LVs} {st : List AV} {S : ST} {Q : Option AV → ST → Prop} (k : o_il L st S (fun L st S => o_c L st S (fun L st S => o_iadd L st S (fun L st S => t_ir st S Q)) (nI 1)) 1) : V MX11_single h 112 L st S Q :=
  v_iload_n dX11_single_112 rfl (fun L st S k => v_iconst dX11_single_113 (by decide) (fun L st S k => v_iadd dX11_single_114 (fun L st S k => w_ir dX11_single_115 rfl k) k) k) k
-- QueryForgeModel.cut()V
theorem dX11_cut_0 : decode cX11_cut 0 = .ok (.aload_n 0, 1) := by decide +kernel
theorem dX11_cut_1 : decode cX11_cut 1 = .ok (.iconst 0, 1) := by decide +kernel
theorem dX11_cut_2 : decode cX11_cut 2 = .ok (.putfield 106, 3) := by decide +kernel
theorem dX11_cut_5 : decode cX11_cut 5 = .ok (.iconst 0, 1) := by decide +kernel
theorem dX11_cut_6 : decode cX11_cut 6 = .ok (.istore_n 1, 1) := by decide +kernel
theorem dX11_cut_7 : decode cX11_cut 7 = .ok (.iload_n 1, 1) := by decide +kernel
theorem dX11_cut_8 : decode cX11_cut 8 = .ok (.aload_n 0, 1) := by decide +kernel
theorem dX11_cut_9 : decode cX11_cut 9 = .ok (.getfield 102, 3) := by decide +kernel
theorem dX11_cut_12 : decode cX11_cut 12 = .ok (.if_icmp .ge 75, 3) := by decide +kernel
theorem dX11_cut_15 : decode cX11_cut 15 = .ok (.aload_n 0, 1) := by decide +kernel
theorem dX11_cut_16 : decode cX11_cut 16 = .ok (.getfield 7, 3) := by decide +kernel
theorem dX11_cut_19 : decode cX11_cut 19 = .ok (.iload_n 1, 1) := by decide +kernel
theorem dX11_cut_20 : decode cX11_cut 20 = .ok (.iaload, 1) := by decide +kernel
theorem dX11_cut_21 : decode cX11_cut 21 = .ok (.istore_n 2, 1) := by decide +kernel
theorem dX11_cut_22 : decode cX11_cut 22 = .ok (.iload_n 2, 1) := by decide +kernel
theorem dX11_cut_23 : decode cX11_cut 23 = .ok (.bipush 32, 2) := by decide +kernel
theorem dX11_cut_25 : decode cX11_cut 25 = .ok (.if_icmp .ne 9, 3) := by decide +kernel
theorem dX11_cut_28 : decode cX11_cut 28 = .ok (.iload_n 1, 1) := by decide +kernel
theorem dX11_cut_29 : decode cX11_cut 29 = .ok (.iconst 1, 1) := by decide +kernel
theorem dX11_cut_30 : decode cX11_cut 30 = .ok (.iadd, 1) := by decide +kernel
theorem dX11_cut_31 : decode cX11_cut 31 = .ok (.goto 52, 3) := by decide +kernel
theorem dX11_cut_34 : decode cX11_cut 34 = .ok (.iload_n 2, 1) := by decide +kernel
theorem dX11_cut_35 : decode cX11_cut 35 = .ok (.invokestatic 125, 3) := by decide +kernel
theorem dX11_cut_38 : decode cX11_cut 38 = .ok (.ifCond .eq 11, 3) := by decide +kernel
theorem dX11_cut_41 : decode cX11_cut 41 = .ok (.aload_n 0, 1) := by decide +kernel
theorem dX11_cut_42 : decode cX11_cut 42 = .ok (.iload_n 1, 1) := by decide +kernel
theorem dX11_cut_43 : decode cX11_cut 43 = .ok (.invokevirtual 157, 3) := by decide +kernel
theorem dX11_cut_46 : decode cX11_cut 46 = .ok (.goto 37, 3) := by decide +kernel
theorem dX11_cut_49 : decode cX11_cut 49 = .ok (.iload_n 2, 1) := by decide +kernel
theorem dX11_cut_50 : decode cX11_cut 50 = .ok (.invokestatic 141, 3) := by decide +kernel
theorem dX11_cut_53 : decode cX11_cut 53 = .ok (.ifCond .eq 11, 3) := by decide +kernel
theorem dX11_cut_56 : decode cX11_cut 56 = .ok (.aload_n 0, 1) := by decide +kernel
theorem dX11_cut_57 : decode cX11_cut 57 = .ok (.iload_n 1, 1) := by decide +kernel
theorem dX11_cut_58 : decode cX11_cut 58 = .ok (.invokevirtual 160, 3) := by decide +kernel
theorem dX11_cut_61 : decode cX11_cut 61 = .ok (.goto 22, 3) := by decide +kernel
theorem dX11_cut_64 : decode cX11_cut 64 = .ok (.iload_n 2, 1) := by decide +kernel
theorem dX11_cut_65 : decode cX11_cut 65 = .ok (.bipush 39, 2) := by decide +kernel
theorem dX11_cut_67 : decode cX11_cut 67 = .ok (.if_icmp .ne 11, 3) := by decide +kernel
theorem dX11_cut_70 : decode cX11_cut 70 = .ok (.aload_n 0, 1) := by decide +kernel
theorem dX11_cut_71 : decode cX11_cut 71 = .ok (.iload_n 1, 1) := by decide +kernel
theorem dX11_cut_72 : decode cX11_cut 72 = .ok (.invokevirtual 163, 3) := by decide +kernel
theorem dX11_cut_75 : decode cX11_cut 75 = .ok (.goto 8, 3) := by decide +kernel
theorem dX11_cut_78 : decode cX11_cut 78 = .ok (.aload_n 0, 1) := by decide +kernel
theorem dX11_cut_79 : decode cX11_cut 79 = .ok (.iload_n 1, 1) := by decide +kernel
theorem dX11_cut_80 : decode cX11_cut 80 = .ok (.invokevirtual 166, 3) := by decide +kernel
theorem dX11_cut_83 : decode cX11_cut 83 = .ok (.istore_n 1, 1) := by decide +kernel
theorem dX11_cut_84 : decode cX11_cut 84 = .ok (.goto (-77), 3) := by decide +kernel
theorem dX11_cut_87 : decode cX11_cut 87 = .ok (.aload_n 0, 1) := by decide +kernel
theorem dX11_cut_88 : decode cX11_cut 88 = .ok (.getfield 13, 3) := by decide +kernel
theorem dX11_cut_91 : decode cX11_cut 91 = .ok (.aload_n 0, 1) := by decide +kernel
theorem dX11_cut_92 : decode cX11_cut 92 = .ok (.getfield 106, 3) := by decide +kernel
theorem dX11_cut_95 : decode cX11_cut 95 = .ok (.bipush 54, 2) := by decide +kernel
theorem dX11_cut_97 : decode cX11_cut 97 = .ok (.iastore, 1) := by decide +kernel
theorem dX11_cut_98 : decode cX11_cut 98 = .ok (.return_, 1) := by decide +kernel
theorem b_X11_cut_0 {h : Nat} {L : LVs} {st : List AV} {S : ST} {Q : Option AV → ST → Prop} (k : o_al L st S (fun L st S => o_c L st S (fun L st S => o_puti L st S (fun L st S => o_c L st S (fun L st S => o_is L st S (fun L st S => V MX11_cut h 7 L st S Q) 1) (nI 0)) 11 4) (nI 0)) 0) : V MX11_cut h 0 L st S Q :=
  v_aload_n dX11_cut_0 rfl (fun L st S k => v_iconst dX11_cut_1 (by decide) (fun L st S k => v_puti dX11_cut_2 rfl iX11 tyX11_ok nmX11 LY_11 rfl (by decide) rfl fl_X11_106 rfl rfl (fun L st S k => v_iconst dX11_cut_5 (by decide) (fun L st S k => v_istore_n dX11_cut_6 rfl (by decide) (fun L st S k => k) k) k) k) k) k
theorem b_X11_cut_7 {h : Nat} {L : LVs} {st : List AV} {S : ST} {Q : Option AV → ST → Prop} (k : o_il L st S (fun L st S => o_al L st S (fun L st S => o_get L st S (fun L st S => t_2 L st S (fun x y => y ≤ x) (fun L st S => V MX11_cut h 87 L st S Q) (fun L st S => V MX11_cut h 15 L st S Q)) 11 1 (0, 0, 0)) 0) 1) : V MX11_cut h 7 L st S Q :=
  v_iload_n dX11_cut_7 rfl (fun L st S k => v_aload_n dX11_cut_8 rfl (fun L st S k => v_get dX11_cut_9 rfl iX11 LY_11 rfl (by decide) rfl fl_X11_102 (fun L st S k => w_icmp_ge dX11_cut_12 (by decide) rfl k) k) k) k
theorem b_X11_cut_15 {h : Nat} {L : LVs} {st : List AV} {S : ST} {Q : Option AV → ST → Prop} (k : o_al L st S (fun L st S => o_get L st S (fun L st S => o_il L st S (fun L st S => o_iald L st S (fun L st S => o_is L st S (fun L st S => o_il L st S (fun L st S => o_c L st S (fun L st S => t_2 L st S (fun x y => x = y) (fun L st S => V MX11_cut h 28 L st S Q) (fun L st S => V MX11_cut h 34 L st S Q)) (nI 32)) 2) 2)) 1) 11 0 (3, 40, 0)) 0) : V MX11_cut h 15 L st S Q :=
  v_aload_n dX11_cut_15 rfl (fun L st S k => v_get dX11_cut_16 rfl iX11 LY_11 rfl (by decide) rfl fl_X11_7 (fun L st S k => v_iload_n dX11_cut_19 rfl (fun L st S k => v_iaload dX11_cut_20 (fun L st S k => v_istore_n dX11_cut_21 rfl (by decide) (fun L st S k => v_iload_n dX11_cut_22 rfl (fun L st S k => v_bipush dX11_cut_23 (by decide) (fun L st S k => w_icmp_ne dX11_cut_25 (by decide) rfl k) k) k) k) k) k) k) k
theorem b_X11_cut_28 {h : Nat} {L : LVs} {st : List AV} {S : ST} {Q : Option AV → ST → Prop} (k : o_il L st S (fun L st S => o_c L st S (fun L st S => o_iadd L st S (fun L st S => V MX11_cut h 83 L st S Q)) (nI 1)) 1) : V MX11_cut h 28 L st S Q :=
  v_iload_n dX11_cut_28 rfl (fun L st S k => v_iconst dX11_cut_29 (by decide) (fun L st S k => v_iadd dX11_cut_30 (fun L st S k => v_goto dX11_cut_31 (by decide) k) k) k) k
theorem b_X11_cut_34 {h : Nat} {L : LVs} {st : List AV} {S : ST} {Q : Option AV → ST → Prop} (k : o_il L st S (fun L st S => V MX11_cut h 35 L st S Q) 2) : V MX11_cut h 34 L st S Q :=
  v_iload_n dX11_cut_34 rfl (fun L st S k => k) k
theorem k_X11_cut_35 {h : Nat} {L : LVs} {st : List AV} {S : ST} {Q Q' : Option AV → ST → Prop} {a0 : AV} (hC : Ct MX11_isLetter h [a0] S Q') (k : ∀ (r : Option AV) (S' : ST), Q' r S' → V MX11_cut (h + 1) 38 L (r.toList ++ st) S' Q) (hw : wid st ≤ 8) : V MX11_cut (h + 1) 35 L (a0 :: st) S Q :=
  v_callS (M' := MX11_isLetter) (As := [a0]) dX11_cut_35 ml_X11_125 sm_X11_isLetter in_X11 cd_X11_isLetter ⟨rfl, np_X11_isLetter⟩ (by decide) hw hC k
theorem b_X11_cut_38 {h : Nat} {L : LVs} {st : List AV} {S : ST} {Q : Option AV → ST → Prop} (k : t_1 L st S (fun x => x = nI 0) (fun L st S => V MX11_cut h 49 L st S Q) (fun L st S => V MX11_cut h 41 L st S Q)) : V MX11_cut h 38 L st S Q :=
  w_if_eq dX11_cut_38 (by decide) rfl k
theorem b_X11_cut_41 {h : Nat} {L : LVs} {st : List AV} {S : ST} {Q : Option AV → ST → Prop} (k : o_al L st S (fun L st S => o_il L st S (fun L st S => V MX11_cut h 43 L st S Q) 1) 0) : V MX11_cut h 41 L st S Q :=
  v_aload_n dX11_cut_41 rfl (fun L st S k => v_iload_n dX11_cut_42 rfl (fun L st S k => k) k) k
theorem k_X11_cut_43 {h : Nat} {L : LVs} {st : List AV} {S : ST} {Q Q' : Option AV → ST → Prop} {j : Nat} {a0 : AV} (hC : Ct MX11_letters h [vR 11 j, a0] S Q') (k : ∀ (r : Option AV) (S' : ST), Q' r S' → V MX11_cut (h + 1) 46 L (r.toList ++ st) S' Q) (hj : j < NI 11) (hw : wid st ≤ 8) : V MX11_cut (h + 1) 43 L (a0 :: vR 11 j :: st) S Q :=
  v_callV (M' := MX11_letters) (c := 11) (As := [a0]) dX11_cut_43 ml_X11_157 im_X11_letters se_X11_letters in_X11 cd_X11_letters rfl LY_11 np_X11_letters (by decide) hw hj hC k
theorem b_X11_cut_46 {h : Nat} {L : LVs} {st : List AV} {S : ST} {Q : Option AV → ST → Prop} (k : V MX11_cut h 83 L st S Q) : V MX11_cut h 46 L st S Q :=
  v_goto dX11_cut_46 (by decide) k
theorem b_X11_cut_49 {h : Nat} {L : LVs} {st : List AV} {S : ST} {Q : Option AV → ST → Prop} (k : o_il L st S (fun L st S => V MX11_cut h 50 L st S Q) 2) : V MX11_cut h 49 L st S Q :=
  v_iload_n dX11_cut_49 rfl (fun L st S k => k) k
theorem k_X11_cut_50 {h : Nat} {L : LVs} {st : List AV} {S : ST} {Q Q' : Option AV → ST → Prop} {a0 : AV} (hC : Ct MX11_isDigit h [a0] S Q') (k : ∀ (r : Option AV) (S' : ST), Q' r S' → V MX11_cut (h + 1) 53 L (r.toList ++ st) S' Q) (hw : wid st ≤ 8) : V MX11_cut (h + 1) 50 L (a0 :: st) S Q :=
  v_callS (M' := MX11_isDigit) (As := [a0]) dX11_cut_50 ml_X11_141 sm_X11_isDigit in_X11 cd_X11_isDigit ⟨rfl, np_X11_isDigit⟩ (by decide) hw hC k
theorem b_X11_cut_53 {h : Nat} {L : LVs} {st : List AV} {S : ST} {Q : Option AV → ST → Prop} (k : t_1 L st S (fun x => x = nI 0) (fun L st S => V MX11_cut h 64 L st S Q) (fun L st S => V MX11_cut h 56 L st S Q)) : V MX11_cut h 53 L st S Q :=
  w_if_eq dX11_cut_53 (by decide) rfl k
theorem b_X11_cut_56 {h : Nat} {L : LVs} {st : List AV} {S : ST} {Q : Option AV → ST → Prop} (k : o_al L st S (fun L st S => o_il L st S (fun L st S => V MX11_cut h 58 L st S Q) 1) 0) : V MX11_cut h 56 L st S Q :=
  v_aload_n dX11_cut_56 rfl (fun L st S k => v_iload_n dX11_cut_57 rfl (fun L st S k => k) k) k
theorem k_X11_cut_58 {h : Nat} {L : LVs} {st : List AV} {S : ST} {Q Q' : Option AV → ST → Prop} {j : Nat} {a0 : AV} (hC : Ct MX11_digits h [vR 11 j, a0] S Q') (k : ∀ (r : Option AV) (S' : ST), Q' r S' → V MX11_cut (h + 1) 61 L (r.toList ++ st) S' Q) (hj : j < NI 11) (hw : wid st ≤ 8) : V MX11_cut (h + 1) 58 L (a0 :: vR 11 j :: st) S Q :=
  v_callV (M' := MX11_digits) (c := 11) (As := [a0]) dX11_cut_58 ml_X11_160 im_X11_digits se_X11_digits in_X11 cd_X11_digits rfl LY_11 np_X11_digits (by decide) hw hj hC k
theorem b_X11_cut_61 {h : Nat} {L : LVs} {st : List AV} {S : ST} {Q : Option AV → ST → Prop} (k : V MX11_cut h 83 L st S Q) : V MX11_cut h 61 L st S Q :=
  v_goto dX11_cut_61 (by decide) k
theorem b_X11_cut_64 {h : Nat} {L : LVs} {st : List AV} {S : ST} {Q : Option AV → ST → Prop} (k : o_il L st S (fun L st S => o_c L st S (fun L st S => t_2 L st S (fun x y => x = y) (fun L st S => V MX11_cut h 70 L st S Q) (fun L st S => V MX11_cut h 78 L st S Q)) (nI 39)) 2) : V MX11_cut h 64 L st S Q :=
  v_iload_n dX11_cut_64 rfl (fun L st S k => v_bipush dX11_cut_65 (by decide) (fun L st S k => w_icmp_ne dX11_cut_67 (by decide) rfl k) k) k
theorem b_X11_cut_70 {h : Nat} {L : LVs} {st : List AV} {S : ST} {Q : Option AV → ST → Prop} (k : o_al L st S (fun L st S => o_il L st S (fun L st S => V MX11_cut h 72 L st S Q) 1) 0) : V MX11_cut h 70 L st S Q :=
  v_aload_n dX11_cut_70 rfl (fun L st S k => v_iload_n dX11_cut_71 rfl (fun L st S k => k) k) k
theorem k_X11_cut_72 {h : Nat} {L : LVs} {st : List AV} {S : ST} {Q Q' : Option AV → ST → Prop} {j : Nat} {a0 : AV} (hC : Ct MX11_quoted h [vR 11 j, a0] S Q') (k : ∀ (r : Option AV) (S' : ST), Q' r S' → V MX11_cut (h + 1) 75 L (r.toList ++ st) S' Q) (hj : j < NI 11) (hw : wid st ≤ 8) : V MX11_cut (h + 1) 72 L (a0 :: vR 11 j :: st) S Q :=
  v_callV (M' := MX11_quoted) (c := 11) (As := [a0]) dX11_cut_72 ml_X11_163 im_X11_quoted se_X11_quoted in_X11 cd_X11_quoted rfl LY_11 np_X11_quoted (by decide) hw hj hC k
theorem b_X11_cut_75 {h : Nat} {L : LVs} {st : List AV} {S : ST} {Q : Option AV → ST → Prop} (k : V MX11_cut h 83 L st S Q) : V MX11_cut h 75 L st S Q :=
  v_goto dX11_cut_75 (by decide) k
theorem b_X11_cut_78 {h : Nat} {L : LVs} {st : List AV} {S : ST} {Q : Option AV → ST → Prop} (k : o_al L st S (fun L st S => o_il L st S (fun L st S => V MX11_cut h 80 L st S Q) 1) 0) : V MX11_cut h 78 L st S Q :=
  v_aload_n dX11_cut_78 rfl (fun L st S k => v_iload_n dX11_cut_79 rfl (fun L st S k => k) k) k
theorem k_X11_cut_80 {h : Nat} {L : LVs} {st : List AV} {S : ST} {Q Q' : Option AV → ST → Prop} {j : Nat} {a0 : AV} (hC : Ct MX11_single h [vR 11 j, a0] S Q') (k : ∀ (r : Option AV) (S' : ST), Q' r S' → V MX11_cut (h + 1) 83 L (r.toList ++ st) S' Q) (hj : j < NI 11) (hw : wid st ≤ 8) : V MX11_cut (h + 1) 80 L (a0 :: vR 11 j :: st) S Q :=
  v_callV (M' := MX11_single) (c := 11) (As := [a0]) dX11_cut_80 ml_X11_166 im_X11_single se_X11_single in_X11 cd_X11_single rfl LY_11 np_X11_single (by decide) hw hj hC k
theorem b_X11_cut_83 {h : Nat} {L : LVs} {st : List AV} {S : ST} {Q : Option AV → ST → Prop} (k : o_is L st S (fun L st S => V MX11_cut h 7 L st S Q) 1) : V MX11_cut h 83 L st S Q :=
  v_istore_n dX11_cut_83 rfl (by decide) (fun L st S k => v_goto dX11_cut_84 (by decide) k) k
theorem b_X11_cut_87 {h : Nat} {L : LVs} {st : List AV} {S : ST} {Q : Option AV → ST → Prop} (k : o_al L st S (fun L st S => o_get L st S (fun L st S => o_al L st S (fun L st S => o_get L st S (fun L st S => o_c L st S (fun L st S => o_iast L st S (fun L st S => t_vr st S Q)) (nI 54)) 11 4 (0, 0, 0)) 0) 11 2 (3, 41, 0)) 0) : V MX11_cut h 87 L st S Q :=
  v_aload_n dX11_cut_87 rfl (fun L st S k => v_get dX11_cut_88 rfl iX11 LY_11 rfl (by decide) rfl fl_X11_13 (fun L st S k => v_aload_n dX11_cut_91 rfl (fun L st S k => v_get dX11_cut_92 rfl iX11 LY_11 rfl (by decide) rfl fl_X11_106 (fun L st S k => v_bipush dX11_cut_95 (by decide) (fun L st S k => v_iastore dX11_cut_97 (fun L st S k => w_vr dX11_cut_98 rfl k) k) k) k) k) k) k
-- QueryForgeModel.is(I)Z
theorem dX11_is_0 : decode cX11_is 0 = .ok (.aload_n 0, 1) := by decide +kernel
theorem dX11_is_1 : decode cX11_is 1 = .ok (.getfield 169, 3) := by decide +kernel
theorem dX11_is_4 : decode cX11_is 4 = .ok (.ifCond .ge 20, 3) := by decide +kernel
theorem dX11_is_7 : decode cX11_is 7 = .ok (.aload_n 0, 1) := by decide +kernel
theorem dX11_is_8 : decode cX11_is 8 = .ok (.getfield 13, 3) := by decide +kernel
theorem dX11_is_11 : decode cX11_is 11 = .ok (.aload_n 0, 1) := by decide +kernel
theorem dX11_is_12 : decode cX11_is 12 = .ok (.getfield 172, 3) := by decide +kernel
theorem dX11_is_15 : decode cX11_is 15 = .ok (.iaload, 1) := by decide +kernel
theorem dX11_is_16 : decode cX11_is 16 = .ok (.iload_n 1, 1) := by decide +kernel
theorem dX11_is_17 : decode cX11_is 17 = .ok (.if_icmp .ne 7, 3) := by decide +kernel
theorem dX11_is_20 : decode cX11_is 20 = .ok (.iconst 1, 1) := by decide +kernel
theorem dX11_is_21 : decode cX11_is 21 = .ok (.goto 4, 3) := by decide +kernel
theorem dX11_is_24 : decode cX11_is 24 = .ok (.iconst 0, 1) := by decide +kernel
theorem dX11_is_25 : decode cX11_is 25 = .ok (.ireturn, 1) := by decide +kernel
theorem b_X11_is_0 {h : Nat} {L : LVs} {st : List AV} {S : ST} {Q : Option AV → ST → Prop} (k : o_al L st S (fun L st S => o_get L st S (fun L st S => t_1 L st S (fun x => nI 0 ≤ x) (fun L st S => V MX11_is h 24 L st S Q) (fun L st S => V MX11_is h 7 L st S Q)) 11 6 (0, 0, 0)) 0) : V MX11_is h 0 L st S Q :=
  v_aload_n dX11_is_0 rfl (fun L st S k => v_get dX11_is_1 rfl iX11 LY_11 rfl (by decide) rfl fl_X11_169 (fun L st S k => w_if_ge dX11_is_4 (by decide) rfl k) k) k
theorem b_X11_is_7 {h : Nat} {L : LVs} {st : List AV} {S : ST} {Q : Option AV → ST → Prop} (k : o_al L st S (fun L st S => o_get L st S (fun L st S => o_al L st S (fun L st S => o_get L st S (fun L st S => o_iald L st S (fun L st S => o_il L st S (fun L st S => t_2 L st S (fun x y => x = y) (fun L st S => V MX11_is h 20 L st S Q) (fun L st S => V MX11_is h 24 L st S Q)) 1)) 11 5 (0, 0, 0)) 0) 11 2 (3, 41, 0)) 0) : V MX11_is h 7 L st S Q :=
  v_aload_n dX11_is_7 rfl (fun L st S k => v_get dX11_is_8 rfl iX11 LY_11 rfl (by decide) rfl fl_X11_13 (fun L st S k => v_aload_n dX11_is_11 rfl (fun L st S k => v_get dX11_is_12 rfl iX11 LY_11 rfl (by decide) rfl fl_X11_172 (fun L st S k => v_iaload dX11_is_15 (fun L st S k => v_iload_n dX11_is_16 rfl (fun L st S k => w_icmp_ne dX11_is_17 (by decide) rfl k) k) k) k) k) k) k
theorem b_X11_is_20 {h : Nat} {L : LVs} {st : List AV} {S : ST} {Q : Option AV → ST → Prop} (k : o_c L st S (fun L st S => V MX11_is h 25 L st S Q) (nI 1)) : V MX11_is h 20 L st S Q :=
  v_iconst dX11_is_20 (by decide) (fun L st S k => v_goto dX11_is_21 (by decide) k) k
theorem b_X11_is_24 {h : Nat} {L : LVs} {st : List AV} {S : ST} {Q : Option AV → ST → Prop} (k : o_c L st S (fun L st S => V MX11_is h 25 L st S Q) (nI 0)) : V MX11_is h 24 L st S Q :=
  v_iconst dX11_is_24 (by decide) (fun L st S k => k) k
theorem b_X11_is_25 {h : Nat} {L : LVs} {st : List AV} {S : ST} {Q : Option AV → ST → Prop} (k : t_zr st S Q) : V MX11_is h 25 L st S Q :=
  w_zr dX11_is_25 rfl k
-- QueryForgeModel.take(I)J
theorem dX11_take_0 : decode cX11_take 0 = .ok (.aload_n 0, 1) := by decide +kernel
theorem dX11_take_1 : decode cX11_take 1 = .ok (.getfield 169, 3) := by decide +kernel
theorem dX11_take_4 : decode cX11_take 4 = .ok (.ifCond .ge 24, 3) := by decide +kernel
theorem dX11_take_7 : decode cX11_take 7 = .ok (.aload_n 0, 1) := by decide +kernel
theorem dX11_take_8 : decode cX11_take 8 = .ok (.getfield 13, 3) := by decide +kernel
theorem dX11_take_11 : decode cX11_take 11 = .ok (.aload_n 0, 1) := by decide +kernel
theorem dX11_take_12 : decode cX11_take 12 = .ok (.getfield 172, 3) := by decide +kernel
theorem dX11_take_15 : decode cX11_take 15 = .ok (.iaload, 1) := by decide +kernel
theorem dX11_take_16 : decode cX11_take 16 = .ok (.iload_n 1, 1) := by decide +kernel
theorem dX11_take_17 : decode cX11_take 17 = .ok (.if_icmp .eq 11, 3) := by decide +kernel
theorem dX11_take_20 : decode cX11_take 20 = .ok (.aload_n 0, 1) := by decide +kernel
theorem dX11_take_21 : decode cX11_take 21 = .ok (.aload_n 0, 1) := by decide +kernel
theorem dX11_take_22 : decode cX11_take 22 = .ok (.getfield 172, 3) := by decide +kernel
theorem dX11_take_25 : decode cX11_take 25 = .ok (.putfield 169, 3) := by decide +kernel
theorem dX11_take_28 : decode cX11_take 28 = .ok (.aload_n 0, 1) := by decide +kernel
theorem dX11_take_29 : decode cX11_take 29 = .ok (.getfield 16, 3) := by decide +kernel
theorem dX11_take_32 : decode cX11_take 32 = .ok (.aload_n 0, 1) := by decide +kernel
theorem dX11_take_33 : decode cX11_take 33 = .ok (.getfield 172, 3) := by decide +kernel
theorem dX11_take_36 : decode cX11_take 36 = .ok (.laload, 1) := by decide +kernel
theorem dX11_take_37 : decode cX11_take 37 = .ok (.lstore_n 2, 1) := by decide +kernel
theorem dX11_take_38 : decode cX11_take 38 = .ok (.aload_n 0, 1) := by decide +kernel
theorem dX11_take_39 : decode cX11_take 39 = .ok (.dup, 1) := by decide +kernel
theorem dX11_take_40 : decode cX11_take 40 = .ok (.getfield 172, 3) := by decide +kernel
theorem dX11_take_43 : decode cX11_take 43 = .ok (.aload_n 0, 1) := by decide +kernel
theorem dX11_take_44 : decode cX11_take 44 = .ok (.getfield 169, 3) := by decide +kernel
theorem dX11_take_47 : decode cX11_take 47 = .ok (.ifCond .ge 7, 3) := by decide +kernel
theorem dX11_take_50 : decode cX11_take 50 = .ok (.iconst 1, 1) := by decide +kernel
theorem dX11_take_51 : decode cX11_take 51 = .ok (.goto 4, 3) := by decide +kernel
theorem dX11_take_54 : decode cX11_take 54 = .ok (.iconst 0, 1) := by decide +kernel
theorem dX11_take_55 : decode cX11_take 55 = .ok (.iadd, 1) := by decide +kernel
theorem dX11_take_56 : decode cX11_take 56 = .ok (.putfield 172, 3) := by decide +kernel
theorem dX11_take_59 : decode cX11_take 59 = .ok (.lload_n 2, 1) := by decide +kernel
theorem dX11_take_60 : decode cX11_take 60 = .ok (.lreturn, 1) := by decide +kernel
theorem b_X11_take_0 {h : Nat} {L : LVs} {st : List AV} {S : ST} {Q : Option AV → ST → Prop} (k : o_al L st S (fun L st S => o_get L st S (fun L st S => t_1 L st S (fun x => nI 0 ≤ x) (fun L st S => V MX11_take h 28 L st S Q) (fun L st S => V MX11_take h 7 L st S Q)) 11 6 (0, 0, 0)) 0) : V MX11_take h 0 L st S Q :=
  v_aload_n dX11_take_0 rfl (fun L st S k => v_get dX11_take_1 rfl iX11 LY_11 rfl (by decide) rfl fl_X11_169 (fun L st S k => w_if_ge dX11_take_4 (by decide) rfl k) k) k
theorem b_X11_take_7 {h : Nat} {L : LVs} {st : List AV} {S : ST} {Q : Option AV → ST → Prop} (k : o_al L st S (fun L st S => o_get L st S (fun L st S => o_al L st S (fun L st S => o_get L st S (fun L st S => o_iald L st S (fun L st S => o_il L st S (fun L st S => t_2 L st S (fun x y => x = y) (fun L st S => V MX11_take h 28 L st S Q) (fun L st S => V MX11_take h 20 L st S Q)) 1)) 11 5 (0, 0, 0)) 0) 11 2 (3, 41, 0)) 0) : V MX11_take h 7 L st S Q :=
  v_aload_n dX11_take_7 rfl (fun L st S k => v_get dX11_take_8 rfl iX11 LY_11 rfl (by decide) rfl fl_X11_13 (fun L st S k => v_aload_n dX11_take_11 rfl (fun L st S k => v_get dX11_take_12 rfl iX11 LY_11 rfl (by decide) rfl fl_X11_172 (fun L st S k => v_iaload dX11_take_15 (fun L st S k => v_iload_n dX11_take_16 rfl (fun L st S k => w_icmp_eq dX11_take_17 (by decide) rfl k) k) k) k) k) k) k
theorem b_X11_take_20 {h : Nat} {L : LVs} {st : List AV} {S : ST} {Q : Option AV → ST → Prop} (k : o_al L st S (fun L st S => o_al L st S (fun L st S => o_get L st S (fun L st S => o_puti L st S (fun L st S => V MX11_take h 28 L st S Q) 11 6) 11 5 (0, 0, 0)) 0) 0) : V MX11_take h 20 L st S Q :=
  v_aload_n dX11_take_20 rfl (fun L st S k => v_aload_n dX11_take_21 rfl (fun L st S k => v_get dX11_take_22 rfl iX11 LY_11 rfl (by decide) rfl fl_X11_172 (fun L st S k => v_puti dX11_take_25 rfl iX11 tyX11_ok nmX11 LY_11 rfl (by decide) rfl fl_X11_169 rfl rfl (fun L st S k => k) k) k) k) k
theorem b_X11_take_28 {h : Nat} {L : LVs} {st : List AV} {S : ST} {Q : Option AV → ST → Prop} (k : o_al L st S (fun L st S => o_get L st S (fun L st S => o_al L st S (fun L st S => o_get L st S (fun L st S => o_lald L st S (fun L st S => o_ls L st S (fun L st S => o_al L st S (fun L st S => o_dup L st S (fun L st S => o_get L st S (fun L st S => o_al L st S (fun L st S => o_get L st S (fun L st S => t_1 L st S (fun x => nI 0 ≤ x) (fun L st S => V MX11_take h 54 L st S Q) (fun L st S => V MX11_take h 50 L st S Q)) 11 6 (0, 0, 0)) 0) 11 5 (0, 0, 0))) 0) 2)) 11 5 (0, 0, 0)) 0) 11 3 (3, 42, 0)) 0) : V MX11_take h 28 L st S Q :=
  v_aload_n dX11_take_28 rfl (fun L st S k => v_get dX11_take_29 rfl iX11 LY_11 rfl (by decide) rfl fl_X11_16 (fun L st S k => v_aload_n dX11_take_32 rfl (fun L st S k => v_get dX11_take_33 rfl iX11 LY_11 rfl (by decide) rfl fl_X11_172 (fun L st S k => v_laload dX11_take_36 (fun L st S k => v_lstore_n dX11_take_37 rfl (by decide) (fun L st S k => v_aload_n dX11_take_38 rfl (fun L st S k => v_dup dX11_take_39 (fun L st S k => v_get dX11_take_40 rfl iX11 LY_11 rfl (by decide) rfl fl_X11_172 (fun L st S k => v_aload_n dX11_take_43 rfl (fun L st S k => v_get dX11_take_44 rfl iX11 LY_11 rfl (by decide) rfl fl_X11_169 (fun L st S k => w_if_ge dX11_take_47 (by decide) rfl k) k) k) k) k) k) k) k) k) k) k) k
theorem b_X11_take_50 {h : Nat} {L : LVs} {st : List AV} {S : ST} {Q : Option AV → ST → Prop} (k : o_c L st S (fun L st S => V MX11_take h 55 L st S Q) (nI 1)) : V MX11_take h 50 L st S Q :=
  v_iconst dX11_take_50 (by decide) (fun L st S k => v_goto dX11_take_51 (by decide) k) k
theorem b_X11_take_54 {h : Nat} {L : LVs} {st : List AV} {S : ST} {Q : Option AV → ST → Prop} (k : o_c L st S (fun L st S => V MX11_take h 55 L st S Q) (nI 0)) : V MX11_take h 54 L st S Q :=
  v_iconst dX11_take_54 (by decide) (fun L st S k => k) k
theorem b_X11_take_55 {h : Nat} {L : LVs} {st : List AV} {S : ST} {Q : Option AV → ST → Prop} (k : o_iadd L st S (fun L st S => o_puti L st S (fun L st S => o_ll L st S (fun L st S => t_lr st S Q) 2) 11 5)) : V MX11_take h 55 L st S Q :=
  v_iadd dX11_take_55 (fun L st S k => v_puti dX11_take_56 rfl iX11 tyX11_ok nmX11 LY_11 rfl (by decide) rfl fl_X11_172 rfl rfl (fun L st S k => v_lload_n dX11_take_59 rfl (fun L st S k => w_lr dX11_take_60 rfl k) k) k) k
-- QueryForgeModel.knot(IIIJ)I
theorem dX11_knot_0 : decode cX11_knot 0 = .ok (.aload_n 0, 1) := by decide +kernel
theorem dX11_knot_1 : decode cX11_knot 1 = .ok (.getfield 20, 3) := by decide +kernel
theorem dX11_knot_4 : decode cX11_knot 4 = .ok (.aload_n 0, 1) := by decide +kernel
theorem dX11_knot_5 : decode cX11_knot 5 = .ok (.getfield 175, 3) := by decide +kernel
theorem dX11_knot_8 : decode cX11_knot 8 = .ok (.iload_n 1, 1) := by decide +kernel
theorem dX11_knot_9 : decode cX11_knot 9 = .ok (.iastore, 1) := by decide +kernel
theorem dX11_knot_10 : decode cX11_knot 10 = .ok (.aload_n 0, 1) := by decide +kernel
theorem dX11_knot_11 : decode cX11_knot 11 = .ok (.getfield 23, 3) := by decide +kernel
theorem dX11_knot_14 : decode cX11_knot 14 = .ok (.aload_n 0, 1) := by decide +kernel
theorem dX11_knot_15 : decode cX11_knot 15 = .ok (.getfield 175, 3) := by decide +kernel
theorem dX11_knot_18 : decode cX11_knot 18 = .ok (.iload_n 2, 1) := by decide +kernel
theorem dX11_knot_19 : decode cX11_knot 19 = .ok (.iastore, 1) := by decide +kernel
theorem dX11_knot_20 : decode cX11_knot 20 = .ok (.aload_n 0, 1) := by decide +kernel
theorem dX11_knot_21 : decode cX11_knot 21 = .ok (.getfield 26, 3) := by decide +kernel
theorem dX11_knot_24 : decode cX11_knot 24 = .ok (.aload_n 0, 1) := by decide +kernel
theorem dX11_knot_25 : decode cX11_knot 25 = .ok (.getfield 175, 3) := by decide +kernel
theorem dX11_knot_28 : decode cX11_knot 28 = .ok (.iload_n 3, 1) := by decide +kernel
theorem dX11_knot_29 : decode cX11_knot 29 = .ok (.iastore, 1) := by decide +kernel
theorem dX11_knot_30 : decode cX11_knot 30 = .ok (.aload_n 0, 1) := by decide +kernel
theorem dX11_knot_31 : decode cX11_knot 31 = .ok (.getfield 29, 3) := by decide +kernel
theorem dX11_knot_34 : decode cX11_knot 34 = .ok (.aload_n 0, 1) := by decide +kernel
theorem dX11_knot_35 : decode cX11_knot 35 = .ok (.getfield 175, 3) := by decide +kernel
theorem dX11_knot_38 : decode cX11_knot 38 = .ok (.lload 4, 2) := by decide +kernel
theorem dX11_knot_40 : decode cX11_knot 40 = .ok (.lastore, 1) := by decide +kernel
theorem dX11_knot_41 : decode cX11_knot 41 = .ok (.aload_n 0, 1) := by decide +kernel
theorem dX11_knot_42 : decode cX11_knot 42 = .ok (.getfield 32, 3) := by decide +kernel
theorem dX11_knot_45 : decode cX11_knot 45 = .ok (.aload_n 0, 1) := by decide +kernel
theorem dX11_knot_46 : decode cX11_knot 46 = .ok (.getfield 175, 3) := by decide +kernel
theorem dX11_knot_49 : decode cX11_knot 49 = .ok (.lconst 0, 1) := by decide +kernel
theorem dX11_knot_50 : decode cX11_knot 50 = .ok (.lastore, 1) := by decide +kernel
theorem dX11_knot_51 : decode cX11_knot 51 = .ok (.aload_n 0, 1) := by decide +kernel
theorem dX11_knot_52 : decode cX11_knot 52 = .ok (.dup, 1) := by decide +kernel
theorem dX11_knot_53 : decode cX11_knot 53 = .ok (.getfield 175, 3) := by decide +kernel
theorem dX11_knot_56 : decode cX11_knot 56 = .ok (.iconst 1, 1) := by decide +kernel
theorem dX11_knot_57 : decode cX11_knot 57 = .ok (.iadd, 1) := by decide +kernel
theorem dX11_knot_58 : decode cX11_knot 58 = .ok (.putfield 175, 3) := by decide +kernel
theorem dX11_knot_61 : decode cX11_knot 61 = .ok (.aload_n 0, 1) := by decide +kernel
theorem dX11_knot_62 : decode cX11_knot 62 = .ok (.getfield 175, 3) := by decide +kernel
theorem dX11_knot_65 : decode cX11_knot 65 = .ok (.iconst 1, 1) := by decide +kernel
theorem dX11_knot_66 : decode cX11_knot 66 = .ok (.isub, 1) := by decide +kernel
theorem dX11_knot_67 : decode cX11_knot 67 = .ok (.ireturn, 1) := by decide +kernel
theorem b_X11_knot_0 {h : Nat} {L : LVs} {st : List AV} {S : ST} {Q : Option AV → ST → Prop} (k : o_al L st S (fun L st S => o_get L st S (fun L st S => o_al L st S (fun L st S => o_get L st S (fun L st S => o_il L st S (fun L st S => o_iast L st S (fun L st S => o_al L st S (fun L st S => o_get L st S (fun L st S => o_al L st S (fun L st S => o_get L st S (fun L st S => o_il L st S (fun L st S => o_iast L st S (fun L st S => o_al L st S (fun L st S => o_get L st S (fun L st S => o_al L st S (fun L st S => o_get L st S (fun L st S => o_il L st S (fun L st S => o_iast L st S (fun L st S => o_al L st S (fun L st S => o_get L st S (fun L st S => o_al L st S (fun L st S => o_get L st S (fun L st S => o_ll L st S (fun L st S => o_last L st S (fun L st S => o_al L st S (fun L st S => o_get L st S (fun L st S => o_al L st S (fun L st S => o_get L st S (fun L st S => o_lc L st S (fun L st S => o_last L st S (fun L st S => o_al L st S (fun L st S => o_dup L st S (fun L st S => o_get L st S (fun L st S => o_c L st S (fun L st S => o_iadd L st S (fun L st S => o_puti L st S (fun L st S => o_al L st S (fun L st S => o_get L st S (fun L st S => o_c L st S (fun L st S => o_isub L st S (fun L st S => t_ir st S Q)) (nI 1)) 11 15 (0, 0, 0)) 0) 11 15)) (nI 1)) 11 15 (0, 0, 0))) 0)) (lN 0)) 11 15 (0, 0, 0)) 0) 11 12 (3, 47, 0)) 0)) 4) 11 15 (0, 0, 0)) 0) 11 11 (3, 46, 0)) 0)) 3) 11 15 (0, 0, 0)) 0) 11 10 (3, 45, 0)) 0)) 2) 11 15 (0, 0, 0)) 0) 11 9 (3, 44, 0)) 0)) 1) 11 15 (0, 0, 0)) 0) 11 8 (3, 43, 0)) 0) : V MX11_knot h 0 L st S Q :=
  v_aload_n dX11_knot_0 rfl (fun L st S k => v_get dX11_knot_1 rfl iX11 LY_11 rfl (by decide) rfl fl_X11_20 (fun L st S k => v_aload_n dX11_knot_4 rfl (fun L st S k => v_get dX11_knot_5 rfl iX11 LY_11 rfl (by decide) rfl fl_X11_175 (fun L st S k => v_iload_n dX11_knot_8 rfl (fun L st S k => v_iastore dX11_knot_9 (fun L st S k => v_aload_n dX11_knot_10 rfl (fun L st S k => v_get dX11_knot_11 rfl iX11 LY_11 rfl (by decide) rfl fl_X11_23 (fun L st S k => v_aload_n dX11_knot_14 rfl (fun L st S k => v_get dX11_knot_15 rfl iX11 LY_11 rfl (by decide) rfl fl_X11_175 (fun L st S k => v_iload_n dX11_knot_18 rfl (fun L st S k => v_iastore dX11_knot_19 (fun L st S k => v_aload_n dX11_knot_20 rfl (fun L st S k => v_get dX11_knot_21 rfl iX11 LY_11 rfl (by decide) rfl fl_X11_26 (fun L st S k => v_aload_n dX11_knot_24 rfl (fun L st S k => v_get dX11_knot_25 rfl iX11 LY_11 rfl (by decide) rfl fl_X11_175 (fun L st S k => v_iload_n dX11_knot_28 rfl (fun L st S k => v_iastore dX11_knot_29 (fun L st S k => v_aload_n dX11_knot_30 rfl (fun L st S k => v_get dX11_knot_31 rfl iX11 LY_11 rfl (by decide) rfl fl_X11_29 (fun L st S k => v_aload_n dX11_knot_34 rfl (fun L st S k => v_get dX11_knot_35 rfl iX11 LY_11 rfl (by decide) rfl fl_X11_175 (fun L st S k => v_lload dX11_knot_38 (fun L st S k => v_lastore dX11_knot_40 (fun L st S k => v_aload_n dX11_knot_41 rfl (fun L st S k => v_get dX11_knot_42 rfl iX11 LY_11 rfl (by decide) rfl fl_X11_32 (fun L st S k => v_aload_n dX11_knot_45 rfl (fun L st S k => v_get dX11_knot_46 rfl iX11 LY_11 rfl (by decide) rfl fl_X11_175 (fun L st S k => v_lconst dX11_knot_49 (by decide) (fun L st S k => v_lastore dX11_knot_50 (fun L st S k => v_aload_n dX11_knot_51 rfl (fun L st S k => v_dup dX11_knot_52 (fun L st S k => v_get dX11_knot_53 rfl iX11 LY_11 rfl (by decide) rfl fl_X11_175 (fun L st S k => v_iconst dX11_knot_56 (by decide) (fun L st S k => v_iadd dX11_knot_57 (fun L st S k => v_puti dX11_knot_58 rfl iX11 tyX11_ok nmX11 LY_11 rfl (by decide) rfl fl_X11_175 rfl rfl (fun L st S k => v_aload_n dX11_knot_61 rfl (fun L st S k => v_get dX11_knot_62 rfl iX11 LY_11 rfl (by decide) rfl fl_X11_175 (fun L st S k => v_iconst dX11_knot_65 (by decide) (fun L st S k => v_isub dX11_knot_66 (fun L st S k => w_ir dX11_knot_67 rfl k) k) k) k) k) k) k) k) k) k) k) k) k) k) k) k) k) k) k) k) k) k) k) k) k) k) k) k) k) k) k) k) k) k) k) k) k) k) k) k) k
-- QueryForgeModel.opens()V
theorem dX11_opens_0 : decode cX11_opens 0 = .ok (.aload_n 0, 1) := by decide +kernel
theorem dX11_opens_1 : decode cX11_opens 1 = .ok (.getfield 178, 3) := by decide +kernel
theorem dX11_opens_4 : decode cX11_opens 4 = .ok (.bipush 20, 2) := by decide +kernel
theorem dX11_opens_6 : decode cX11_opens 6 = .ok (.if_icmp .ne 18, 3) := by decide +kernel
theorem dX11_opens_9 : decode cX11_opens 9 = .ok (.aload_n 0, 1) := by decide +kernel
theorem dX11_opens_10 : decode cX11_opens 10 = .ok (.getfield 169, 3) := by decide +kernel
theorem dX11_opens_13 : decode cX11_opens 13 = .ok (.ifCond .ge 11, 3) := by decide +kernel
theorem dX11_opens_16 : decode cX11_opens 16 = .ok (.aload_n 0, 1) := by decide +kernel
theorem dX11_opens_17 : decode cX11_opens 17 = .ok (.aload_n 0, 1) := by decide +kernel
theorem dX11_opens_18 : decode cX11_opens 18 = .ok (.getfield 172, 3) := by decide +kernel
theorem dX11_opens_21 : decode cX11_opens 21 = .ok (.putfield 169, 3) := by decide +kernel
theorem dX11_opens_24 : decode cX11_opens 24 = .ok (.aload_n 0, 1) := by decide +kernel
theorem dX11_opens_25 : decode cX11_opens 25 = .ok (.dup, 1) := by decide +kernel
theorem dX11_opens_26 : decode cX11_opens 26 = .ok (.getfield 178, 3) := by decide +kernel
theorem dX11_opens_29 : decode cX11_opens 29 = .ok (.iconst 1, 1) := by decide +kernel
theorem dX11_opens_30 : decode cX11_opens 30 = .ok (.iadd, 1) := by decide +kernel
theorem dX11_opens_31 : decode cX11_opens 31 = .ok (.putfield 178, 3) := by decide +kernel
theorem dX11_opens_34 : decode cX11_opens 34 = .ok (.return_, 1) := by decide +kernel
theorem b_X11_opens_0 {h : Nat} {L : LVs} {st : List AV} {S : ST} {Q : Option AV → ST → Prop} (k : o_al L st S (fun L st S => o_get L st S (fun L st S => o_c L st S (fun L st S => t_2 L st S (fun x y => x = y) (fun L st S => V MX11_opens h 9 L st S Q) (fun L st S => V MX11_opens h 24 L st S Q)) (nI 20)) 11 7 (0, 0, 0)) 0) : V MX11_opens h 0 L st S Q :=
  v_aload_n dX11_opens_0 rfl (fun L st S k => v_get dX11_opens_1 rfl iX11 LY_11 rfl (by decide) rfl fl_X11_178 (fun L st S k => v_bipush dX11_opens_4 (by decide) (fun L st S k => w_icmp_ne dX11_opens_6 (by decide) rfl k) k) k) k
theorem b_X11_opens_9 {h : Nat} {L : LVs} {st : List AV} {S : ST} {Q : Option AV → ST → Prop} (k : o_al L st S (fun L st S => o_get L st S (fun L st S => t_1 L st S (fun x => nI 0 ≤ x) (fun L st S => V MX11_opens h 24 L st S Q) (fun L st S => V MX11_opens h 16 L st S Q)) 11 6 (0, 0, 0)) 0) : V MX11_opens h 9 L st S Q :=
  v_aload_n dX11_opens_9 rfl (fun L st S k => v_get dX11_opens_10 rfl iX11 LY_11 rfl (by decide) rfl fl_X11_169 (fun L st S k => w_if_ge dX11_opens_13 (by decide) rfl k) k) k
theorem b_X11_opens_16 {h : Nat} {L : LVs} {st : List AV} {S : ST} {Q : Option AV → ST → Prop} (k : o_al L st S (fun L st S => o_al L st S (fun L st S => o_get L st S (fun L st S => o_puti L st S (fun L st S => V MX11_opens h 24 L st S Q) 11 6) 11 5 (0, 0, 0)) 0) 0) : V MX11_opens h 16 L st S Q :=
  v_aload_n dX11_opens_16 rfl (fun L st S k => v_aload_n dX11_opens_17 rfl (fun L st S k => v_get dX11_opens_18 rfl iX11 LY_11 rfl (by decide) rfl fl_X11_172 (fun L st S k => v_puti dX11_opens_21 rfl iX11 tyX11_ok nmX11 LY_11 rfl (by decide) rfl fl_X11_169 rfl rfl (fun L st S k => k) k) k) k) k
theorem b_X11_opens_24 {h : Nat} {L : LVs} {st : List AV} {S : ST} {Q : Option AV → ST → Prop} (k : o_al L st S (fun L st S => o_dup L st S (fun L st S => o_get L st S (fun L st S => o_c L st S (fun L st S => o_iadd L st S (fun L st S => o_puti L st S (fun L st S => t_vr st S Q) 11 7)) (nI 1)) 11 7 (0, 0, 0))) 0) : V MX11_opens h 24 L st S Q :=
  v_aload_n dX11_opens_24 rfl (fun L st S k => v_dup dX11_opens_25 (fun L st S k => v_get dX11_opens_26 rfl iX11 LY_11 rfl (by decide) rfl fl_X11_178 (fun L st S k => v_iconst dX11_opens_29 (by decide) (fun L st S k => v_iadd dX11_opens_30 (fun L st S k => v_puti dX11_opens_31 rfl iX11 tyX11_ok nmX11 LY_11 rfl (by decide) rfl fl_X11_178 rfl rfl (fun L st S k => w_vr dX11_opens_34 rfl k) k) k) k) k) k) k
-- QueryForgeModel.place()I
theorem dX11_place_0 : decode cX11_place 0 = .ok (.aload_n 0, 1) := by decide +kernel
theorem dX11_place_1 : decode cX11_place 1 = .ok (.bipush 50, 2) := by decide +kernel
theorem dX11_place_3 : decode cX11_place 3 = .ok (.invokevirtual 181, 3) := by decide +kernel
theorem dX11_place_6 : decode cX11_place 6 = .ok (.lstore_n 1, 1) := by decide +kernel
theorem dX11_place_7 : decode cX11_place 7 = .ok (.aload_n 0, 1) := by decide +kernel
theorem dX11_place_8 : decode cX11_place 8 = .ok (.bipush 61, 2) := by decide +kernel
theorem dX11_place_10 : decode cX11_place 10 = .ok (.iconst (-1), 1) := by decide +kernel
theorem dX11_place_11 : decode cX11_place 11 = .ok (.iconst (-1), 1) := by decide +kernel
theorem dX11_place_12 : decode cX11_place 12 = .ok (.lload_n 1, 1) := by decide +kernel
theorem dX11_place_13 : decode cX11_place 13 = .ok (.invokevirtual 185, 3) := by decide +kernel
theorem dX11_place_16 : decode cX11_place 16 = .ok (.istore_n 3, 1) := by decide +kernel
theorem dX11_place_17 : decode cX11_place 17 = .ok (.aload_n 0, 1) := by decide +kernel
theorem dX11_place_18 : decode cX11_place 18 = .ok (.bipush 35, 2) := by decide +kernel
theorem dX11_place_20 : decode cX11_place 20 = .ok (.invokevirtual 189, 3) := by decide +kernel
theorem dX11_place_23 : decode cX11_place 23 = .ok (.ifCond .eq 32, 3) := by decide +kernel
theorem dX11_place_26 : decode cX11_place 26 = .ok (.aload_n 0, 1) := by decide +kernel
theorem dX11_place_27 : decode cX11_place 27 = .ok (.dup, 1) := by decide +kernel
theorem dX11_place_28 : decode cX11_place 28 = .ok (.getfield 172, 3) := by decide +kernel
theorem dX11_place_31 : decode cX11_place 31 = .ok (.iconst 1, 1) := by decide +kernel
theorem dX11_place_32 : decode cX11_place 32 = .ok (.iadd, 1) := by decide +kernel
theorem dX11_place_33 : decode cX11_place 33 = .ok (.putfield 172, 3) := by decide +kernel
theorem dX11_place_36 : decode cX11_place 36 = .ok (.aload_n 0, 1) := by decide +kernel
theorem dX11_place_37 : decode cX11_place 37 = .ok (.getfield 32, 3) := by decide +kernel
theorem dX11_place_40 : decode cX11_place 40 = .ok (.iload_n 3, 1) := by decide +kernel
theorem dX11_place_41 : decode cX11_place 41 = .ok (.lload_n 1, 1) := by decide +kernel
theorem dX11_place_42 : decode cX11_place 42 = .ok (.lastore, 1) := by decide +kernel
theorem dX11_place_43 : decode cX11_place 43 = .ok (.aload_n 0, 1) := by decide +kernel
theorem dX11_place_44 : decode cX11_place 44 = .ok (.getfield 29, 3) := by decide +kernel
theorem dX11_place_47 : decode cX11_place 47 = .ok (.iload_n 3, 1) := by decide +kernel
theorem dX11_place_48 : decode cX11_place 48 = .ok (.aload_n 0, 1) := by decide +kernel
theorem dX11_place_49 : decode cX11_place 49 = .ok (.bipush 50, 2) := by decide +kernel
theorem dX11_place_51 : decode cX11_place 51 = .ok (.invokevirtual 181, 3) := by decide +kernel
theorem dX11_place_54 : decode cX11_place 54 = .ok (.lastore, 1) := by decide +kernel
theorem dX11_place_55 : decode cX11_place 55 = .ok (.iload_n 3, 1) := by decide +kernel
theorem dX11_place_56 : decode cX11_place 56 = .ok (.ireturn, 1) := by decide +kernel
theorem b_X11_place_0 {h : Nat} {L : LVs} {st : List AV} {S : ST} {Q : Option AV → ST → Prop} (k : o_al L st S (fun L st S => o_c L st S (fun L st S => V MX11_place h 3 L st S Q) (nI 50)) 0) : V MX11_place h 0 L st S Q :=
  v_aload_n dX11_place_0 rfl (fun L st S k => v_bipush dX11_place_1 (by decide) (fun L st S k => k) k) k
theorem k_X11_place_3 {h : Nat} {L : LVs} {st : List AV} {S : ST} {Q Q' : Option AV → ST → Prop} {j : Nat} {a0 : AV} (hC : Ct MX11_take h [vR 11 j, a0] S Q') (k : ∀ (r : Option AV) (S' : ST), Q' r S' → V MX11_place (h + 1) 6 L (r.toList ++ st) S' Q) (hj : j < NI 11) (hw : wid st ≤ 8) : V MX11_place (h + 1) 3 L (a0 :: vR 11 j :: st) S Q :=
  v_callV (M' := MX11_take) (c := 11) (As := [a0]) dX11_place_3 ml_X11_181 im_X11_take se_X11_take in_X11 cd_X11_take rfl LY_11 np_X11_take (by decide) hw hj hC k
theorem b_X11_place_6 {h : Nat} {L : LVs} {st : List AV} {S : ST} {Q : Option AV → ST → Prop} (k : o_ls L st S (fun L st S => o_al L st S (fun L st S => o_c L st S (fun L st S => o_c L st S (fun L st S => o_c L st S (fun L st S => o_ll L st S (fun L st S => V MX11_place h 13 L st S Q) 1) (-1)) (-1)) (nI 61)) 0) 1) : V MX11_place h 6 L st S Q :=
  v_lstore_n dX11_place_6 rfl (by decide) (fun L st S k => v_aload_n dX11_place_7 rfl (fun L st S k => v_bipush dX11_place_8 (by decide) (fun L st S k => v_iconst dX11_place_10 (by decide) (fun L st S k => v_iconst dX11_place_11 (by decide) (fun L st S k => v_lload_n dX11_place_12 rfl (fun L st S k => k) k) k) k) k) k) k
theorem k_X11_place_13 {h : Nat} {L : LVs} {st : List AV} {S : ST} {Q Q' : Option AV → ST → Prop} {j : Nat} {a0 a1 a2 a3 : AV} (hC : Ct MX11_knot h [vR 11 j, a0, a1, a2, a3] S Q') (k : ∀ (r : Option AV) (S' : ST), Q' r S' → V MX11_place (h + 1) 16 L (r.toList ++ st) S' Q) (hj : j < NI 11) (hw : wid st ≤ 8) : V MX11_place (h + 1) 13 L (a3 :: a2 :: a1 :: a0 :: vR 11 j :: st) S Q :=
  v_callV (M' := MX11_knot) (c := 11) (As := [a0, a1, a2, a3]) dX11_place_13 ml_X11_185 im_X11_knot se_X11_knot in_X11 cd_X11_knot rfl LY_11 np_X11_knot (by decide) hw hj hC k
theorem b_X11_place_16 {h : Nat} {L : LVs} {st : List AV} {S : ST} {Q : Option AV → ST → Prop} (k : o_is L st S (fun L st S => o_al L st S (fun L st S => o_c L st S (fun L st S => V MX11_place h 20 L st S Q) (nI 35)) 0) 3) : V MX11_place h 16 L st S Q :=
  v_istore_n dX11_place_16 rfl (by decide) (fun L st S k => v_aload_n dX11_place_17 rfl (fun L st S k => v_bipush dX11_place_18 (by decide) (fun L st S k => k) k) k) k
theorem k_X11_place_20 {h : Nat} {L : LVs} {st : List AV} {S : ST} {Q Q' : Option AV → ST → Prop} {j : Nat} {a0 : AV} (hC : Ct MX11_is h [vR 11 j, a0] S Q') (k : ∀ (r : Option AV) (S' : ST), Q' r S' → V MX11_place (h + 1) 23 L (r.toList ++ st) S' Q) (hj : j < NI 11) (hw : wid st ≤ 8) : V MX11_place (h + 1) 20 L (a0 :: vR 11 j :: st) S Q :=
  v_callV (M' := MX11_is) (c := 11) (As := [a0]) dX11_place_20 ml_X11_189 im_X11_is se_X11_is in_X11 cd_X11_is rfl LY_11 np_X11_is (by decide) hw hj hC k
theorem b_X11_place_23 {h : Nat} {L : LVs} {st : List AV} {S : ST} {Q : Option AV → ST → Prop} (k : t_1 L st S (fun x => x = nI 0) (fun L st S => V MX11_place h 55 L st S Q) (fun L st S => V MX11_place h 26 L st S Q)) : V MX11_place h 23 L st S Q :=
  w_if_eq dX11_place_23 (by decide) rfl k
theorem b_X11_place_26 {h : Nat} {L : LVs} {st : List AV} {S : ST} {Q : Option AV → ST → Prop} (k : o_al L st S (fun L st S => o_dup L st S (fun L st S => o_get L st S (fun L st S => o_c L st S (fun L st S => o_iadd L st S (fun L st S => o_puti L st S (fun L st S => o_al L st S (fun L st S => o_get L st S (fun L st S => o_il L st S (fun L st S => o_ll L st S (fun L st S => o_last L st S (fun L st S => o_al L st S (fun L st S => o_get L st S (fun L st S => o_il L st S (fun L st S => o_al L st S (fun L st S => o_c L st S (fun L st S => V MX11_place h 51 L st S Q) (nI 50)) 0) 3) 11 11 (3, 46, 0)) 0)) 1) 3) 11 12 (3, 47, 0)) 0) 11 5)) (nI 1)) 11 5 (0, 0, 0))) 0) : V MX11_place h 26 L st S Q :=
  v_aload_n dX11_place_26 rfl (fun L st S k => v_dup dX11_place_27 (fun L st S k => v_get dX11_place_28 rfl iX11 LY_11 rfl (by decide) rfl fl_X11_172 (fun L st S k => v_iconst dX11_place_31 (by decide) (fun L st S k => v_iadd dX11_place_32 (fun L st S k => v_puti dX11_place_33 rfl iX11 tyX11_ok nmX11 LY_11 rfl (by decide) rfl fl_X11_172 rfl rfl (fun L st S k => v_aload_n dX11_place_36 rfl (fun L st S k => v_get dX11_place_37 rfl iX11 LY_11 rfl (by decide) rfl fl_X11_32 (fun L st S k => v_iload_n dX11_place_40 rfl (fun L st S k => v_lload_n dX11_place_41 rfl (fun L st S k => v_lastore dX11_place_42 (fun L st S k => v_aload_n dX11_place_43 rfl (fun L st S k => v_get dX11_place_44 rfl iX11 LY_11 rfl (by decide) rfl fl_X11_29 (fun L st S k => v_iload_n dX11_place_47 rfl (fun L st S k => v_aload_n dX11_place_48 rfl (fun L st S k => v_bipush dX11_place_49 (by decide) (fun L st S k => k) k) k) k) k) k) k) k) k) k) k) k) k) k) k) k) k
theorem k_X11_place_51 {h : Nat} {L : LVs} {st : List AV} {S : ST} {Q Q' : Option AV → ST → Prop} {j : Nat} {a0 : AV} (hC : Ct MX11_take h [vR 11 j, a0] S Q') (k : ∀ (r : Option AV) (S' : ST), Q' r S' → V MX11_place (h + 1) 54 L (r.toList ++ st) S' Q) (hj : j < NI 11) (hw : wid st ≤ 8) : V MX11_place (h + 1) 51 L (a0 :: vR 11 j :: st) S Q :=
  v_callV (M' := MX11_take) (c := 11) (As := [a0]) dX11_place_51 ml_X11_181 im_X11_take se_X11_take in_X11 cd_X11_take rfl LY_11 np_X11_take (by decide) hw hj hC k
theorem b_X11_place_54 {h : Nat} {L : LVs} {st : List AV} {S : ST} {Q : Option AV → ST → Prop} (k : o_last L st S (fun L st S => V MX11_place h 55 L st S Q)) : V MX11_place h 54 L st S Q :=
  v_lastore dX11_place_54 (fun L st S k => k) k
theorem b_X11_place_55 {h : Nat} {L : LVs} {st : List AV} {S : ST} {Q : Option AV → ST → Prop} (k : o_il L st S (fun L st S => t_ir st S Q) 3) : V MX11_place h 55 L st S Q :=
  v_iload_n dX11_place_55 rfl (fun L st S k => w_ir dX11_place_56 rfl k) k
-- QueryForgeModel.factor()I
theorem dX11_factor_0 : decode cX11_factor 0 = .ok (.aload_n 0, 1) := by decide +kernel
theorem dX11_factor_1 : decode cX11_factor 1 = .ok (.getfield 13, 3) := by decide +kernel
theorem dX11_factor_4 : decode cX11_factor 4 = .ok (.aload_n 0, 1) := by decide +kernel
theorem dX11_factor_5 : decode cX11_factor 5 = .ok (.getfield 172, 3) := by decide +kernel
theorem dX11_factor_8 : decode cX11_factor 8 = .ok (.iaload, 1) := by decide +kernel
theorem dX11_factor_9 : decode cX11_factor 9 = .ok (.istore_n 1, 1) := by decide +kernel
theorem dX11_factor_10 : decode cX11_factor 10 = .ok (.iload_n 1, 1) := by decide +kernel
theorem dX11_factor_11 : decode cX11_factor 11 = .ok (.bipush 51, 2) := by decide +kernel
theorem dX11_factor_13 : decode cX11_factor 13 = .ok (.if_icmp .eq 15, 3) := by decide +kernel
theorem dX11_factor_16 : decode cX11_factor 16 = .ok (.iload_n 1, 1) := by decide +kernel
theorem dX11_factor_17 : decode cX11_factor 17 = .ok (.bipush 52, 2) := by decide +kernel
theorem dX11_factor_19 : decode cX11_factor 19 = .ok (.if_icmp .eq 9, 3) := by decide +kernel
theorem dX11_factor_22 : decode cX11_factor 22 = .ok (.iload_n 1, 1) := by decide +kernel
theorem dX11_factor_23 : decode cX11_factor 23 = .ok (.bipush 13, 2) := by decide +kernel
theorem dX11_factor_25 : decode cX11_factor 25 = .ok (.if_icmp .ne 16, 3) := by decide +kernel
theorem dX11_factor_28 : decode cX11_factor 28 = .ok (.aload_n 0, 1) := by decide +kernel
theorem dX11_factor_29 : decode cX11_factor 29 = .ok (.iload_n 1, 1) := by decide +kernel
theorem dX11_factor_30 : decode cX11_factor 30 = .ok (.iconst (-1), 1) := by decide +kernel
theorem dX11_factor_31 : decode cX11_factor 31 = .ok (.iconst (-1), 1) := by decide +kernel
theorem dX11_factor_32 : decode cX11_factor 32 = .ok (.aload_n 0, 1) := by decide +kernel
theorem dX11_factor_33 : decode cX11_factor 33 = .ok (.iload_n 1, 1) := by decide +kernel
theorem dX11_factor_34 : decode cX11_factor 34 = .ok (.invokevirtual 181, 3) := by decide +kernel
theorem dX11_factor_37 : decode cX11_factor 37 = .ok (.invokevirtual 185, 3) := by decide +kernel
theorem dX11_factor_40 : decode cX11_factor 40 = .ok (.ireturn, 1) := by decide +kernel
theorem dX11_factor_41 : decode cX11_factor 41 = .ok (.iload_n 1, 1) := by decide +kernel
theorem dX11_factor_42 : decode cX11_factor 42 = .ok (.bipush 50, 2) := by decide +kernel
theorem dX11_factor_44 : decode cX11_factor 44 = .ok (.if_icmp .ne 8, 3) := by decide +kernel
theorem dX11_factor_47 : decode cX11_factor 47 = .ok (.aload_n 0, 1) := by decide +kernel
theorem dX11_factor_48 : decode cX11_factor 48 = .ok (.invokevirtual 192, 3) := by decide +kernel
theorem dX11_factor_51 : decode cX11_factor 51 = .ok (.ireturn, 1) := by decide +kernel
theorem dX11_factor_52 : decode cX11_factor 52 = .ok (.iload_n 1, 1) := by decide +kernel
theorem dX11_factor_53 : decode cX11_factor 53 = .ok (.bipush 30, 2) := by decide +kernel
theorem dX11_factor_55 : decode cX11_factor 55 = .ok (.if_icmp .ne 40, 3) := by decide +kernel
theorem dX11_factor_58 : decode cX11_factor 58 = .ok (.aload_n 0, 1) := by decide +kernel
theorem dX11_factor_59 : decode cX11_factor 59 = .ok (.invokevirtual 195, 3) := by decide +kernel
theorem dX11_factor_62 : decode cX11_factor 62 = .ok (.aload_n 0, 1) := by decide +kernel
theorem dX11_factor_63 : decode cX11_factor 63 = .ok (.bipush 30, 2) := by decide +kernel
theorem dX11_factor_65 : decode cX11_factor 65 = .ok (.invokevirtual 181, 3) := by decide +kernel
theorem dX11_factor_68 : decode cX11_factor 68 = .ok (.lstore_n 2, 1) := by decide +kernel
theorem dX11_factor_69 : decode cX11_factor 69 = .ok (.aload_n 0, 1) := by decide +kernel
theorem dX11_factor_70 : decode cX11_factor 70 = .ok (.invokevirtual 198, 3) := by decide +kernel
theorem dX11_factor_73 : decode cX11_factor 73 = .ok (.istore 4, 2) := by decide +kernel
theorem dX11_factor_75 : decode cX11_factor 75 = .ok (.aload_n 0, 1) := by decide +kernel
theorem dX11_factor_76 : decode cX11_factor 76 = .ok (.bipush 31, 2) := by decide +kernel
theorem dX11_factor_78 : decode cX11_factor 78 = .ok (.invokevirtual 181, 3) := by decide +kernel
theorem dX11_factor_81 : decode cX11_factor 81 = .ok (.lstore_n 2, 1) := by decide +kernel
theorem dX11_factor_82 : decode cX11_factor 82 = .ok (.aload_n 0, 1) := by decide +kernel
theorem dX11_factor_83 : decode cX11_factor 83 = .ok (.dup, 1) := by decide +kernel
theorem dX11_factor_84 : decode cX11_factor 84 = .ok (.getfield 178, 3) := by decide +kernel
theorem dX11_factor_87 : decode cX11_factor 87 = .ok (.iconst 1, 1) := by decide +kernel
theorem dX11_factor_88 : decode cX11_factor 88 = .ok (.isub, 1) := by decide +kernel
theorem dX11_factor_89 : decode cX11_factor 89 = .ok (.putfield 178, 3) := by decide +kernel
theorem dX11_factor_92 : decode cX11_factor 92 = .ok (.iload 4, 2) := by decide +kernel
theorem dX11_factor_94 : decode cX11_factor 94 = .ok (.ireturn, 1) := by decide +kernel
theorem dX11_factor_95 : decode cX11_factor 95 = .ok (.iload_n 1, 1) := by decide +kernel
theorem dX11_factor_96 : decode cX11_factor 96 = .ok (.bipush 37, 2) := by decide +kernel
theorem dX11_factor_98 : decode cX11_factor 98 = .ok (.if_icmp .ne 52, 3) := by decide +kernel
theorem dX11_factor_101 : decode cX11_factor 101 = .ok (.aload_n 0, 1) := by decide +kernel
theorem dX11_factor_102 : decode cX11_factor 102 = .ok (.invokevirtual 195, 3) := by decide +kernel
theorem dX11_factor_105 : decode cX11_factor 105 = .ok (.aload_n 0, 1) := by decide +kernel
theorem dX11_factor_106 : decode cX11_factor 106 = .ok (.bipush 37, 2) := by decide +kernel
theorem dX11_factor_108 : decode cX11_factor 108 = .ok (.invokevirtual 181, 3) := by decide +kernel
theorem dX11_factor_111 : decode cX11_factor 111 = .ok (.lstore_n 2, 1) := by decide +kernel
theorem dX11_factor_112 : decode cX11_factor 112 = .ok (.aload_n 0, 1) := by decide +kernel
theorem dX11_factor_113 : decode cX11_factor 113 = .ok (.getfield 169, 3) := by decide +kernel
theorem dX11_factor_116 : decode cX11_factor 116 = .ok (.ifCond .ge 10, 3) := by decide +kernel
theorem dX11_factor_119 : decode cX11_factor 119 = .ok (.aload_n 0, 1) := by decide +kernel
theorem dX11_factor_120 : decode cX11_factor 120 = .ok (.invokevirtual 201, 3) := by decide +kernel
theorem dX11_factor_123 : decode cX11_factor 123 = .ok (.goto 4, 3) := by decide +kernel
theorem dX11_factor_126 : decode cX11_factor 126 = .ok (.iconst 0, 1) := by decide +kernel
theorem dX11_factor_127 : decode cX11_factor 127 = .ok (.istore 4, 2) := by decide +kernel
theorem dX11_factor_129 : decode cX11_factor 129 = .ok (.aload_n 0, 1) := by decide +kernel
theorem dX11_factor_130 : decode cX11_factor 130 = .ok (.dup, 1) := by decide +kernel
theorem dX11_factor_131 : decode cX11_factor 131 = .ok (.getfield 178, 3) := by decide +kernel
theorem dX11_factor_134 : decode cX11_factor 134 = .ok (.iconst 1, 1) := by decide +kernel
theorem dX11_factor_135 : decode cX11_factor 135 = .ok (.isub, 1) := by decide +kernel
theorem dX11_factor_136 : decode cX11_factor 136 = .ok (.putfield 178, 3) := by decide +kernel
theorem dX11_factor_139 : decode cX11_factor 139 = .ok (.aload_n 0, 1) := by decide +kernel
theorem dX11_factor_140 : decode cX11_factor 140 = .ok (.bipush 60, 2) := by decide +kernel
theorem dX11_factor_142 : decode cX11_factor 142 = .ok (.iload 4, 2) := by decide +kernel
theorem dX11_factor_144 : decode cX11_factor 144 = .ok (.iconst (-1), 1) := by decide +kernel
theorem dX11_factor_145 : decode cX11_factor 145 = .ok (.lconst 0, 1) := by decide +kernel
theorem dX11_factor_146 : decode cX11_factor 146 = .ok (.invokevirtual 185, 3) := by decide +kernel
theorem dX11_factor_149 : decode cX11_factor 149 = .ok (.ireturn, 1) := by decide +kernel
theorem dX11_factor_150 : decode cX11_factor 150 = .ok (.aload_n 0, 1) := by decide +kernel
theorem dX11_factor_151 : decode cX11_factor 151 = .ok (.aload_n 0, 1) := by decide +kernel
theorem dX11_factor_152 : decode cX11_factor 152 = .ok (.getfield 169, 3) := by decide +kernel
theorem dX11_factor_155 : decode cX11_factor 155 = .ok (.ifCond .ge 10, 3) := by decide +kernel
theorem dX11_factor_158 : decode cX11_factor 158 = .ok (.aload_n 0, 1) := by decide +kernel
theorem dX11_factor_159 : decode cX11_factor 159 = .ok (.getfield 172, 3) := by decide +kernel
theorem dX11_factor_162 : decode cX11_factor 162 = .ok (.goto 7, 3) := by decide +kernel
theorem dX11_factor_165 : decode cX11_factor 165 = .ok (.aload_n 0, 1) := by decide +kernel
theorem dX11_factor_166 : decode cX11_factor 166 = .ok (.getfield 169, 3) := by decide +kernel
theorem dX11_factor_169 : decode cX11_factor 169 = .ok (.putfield 169, 3) := by decide +kernel
theorem dX11_factor_172 : decode cX11_factor 172 = .ok (.iconst 0, 1) := by decide +kernel
theorem dX11_factor_173 : decode cX11_factor 173 = .ok (.ireturn, 1) := by decide +kernel
theorem b_X11_factor_0 {h : Nat} {L : LVs} {st : List AV} {S : ST} {Q : Option AV → ST → Prop} (k : o_al L st S (fun L st S => o_get L st S (fun L st S => o_al L st S (fun L st S => o_get L st S (fun L st S => o_iald L st S (fun L st S => o_is L st S (fun L st S => o_il L st S (fun L st S => o_c L st S (fun L st S => t_2 L st S (fun x y => x = y) (fun L st S => V MX11_factor h 28 L st S Q) (fun L st S => V MX11_factor h 16 L st S Q)) (nI 51)) 1) 1)) 11 5 (0, 0, 0)) 0) 11 2 (3, 41, 0)) 0) : V MX11_factor h 0 L st S Q :=
  v_aload_n dX11_factor_0 rfl (fun L st S k => v_get dX11_factor_1 rfl iX11 LY_11 rfl (by decide) rfl fl_X11_13 (fun L st S k => v_aload_n dX11_factor_4 rfl (fun L st S k => v_get dX11_factor_5 rfl iX11 LY_11 rfl (by decide) rfl fl_X11_172 (fun L st S k => v_iaload dX11_factor_8 (fun L st S k => v_istore_n dX11_factor_9 rfl (by decide) (fun L st S k => v_iload_n dX11_factor_10 rfl (fun L st S k => v_bipush dX11_factor_11 (by decide) (fun L st S k => w_icmp_eq dX11_factor_13 (by decide) rfl k) k) k) k) k) k) k) k) k
theorem b_X11_factor_16 {h : Nat} {L : LVs} {st : List AV} {S : ST} {Q : Option AV → ST → Prop} (k : o_il L st S (fun L st S => o_c L st S (fun L st S => t_2 L st S (fun x y => x = y) (fun L st S => V MX11_factor h 28 L st S Q) (fun L st S => V MX11_factor h 22 L st S Q)) (nI 52)) 1) : V MX11_factor h 16 L st S Q :=
  v_iload_n dX11_factor_16 rfl (fun L st S k => v_bipush dX11_factor_17 (by decide) (fun L st S k => w_icmp_eq dX11_factor_19 (by decide) rfl k) k) k
theorem b_X11_factor_22 {h : Nat} {L : LVs} {st : List AV} {S : ST} {Q : Option AV → ST → Prop} (k : o_il L st S (fun L st S => o_c L st S (fun L st S => t_2 L st S (fun x y => x = y) (fun L st S => V MX11_factor h 28 L st S Q) (fun L st S => V MX11_factor h 41 L st S Q)) (nI 13)) 1) : V MX11_factor h 22 L st S Q :=
  v_iload_n dX11_factor_22 rfl (fun L st S k => v_bipush dX11_factor_23 (by decide) (fun L st S k => w_icmp_ne dX11_factor_25 (by decide) rfl k) k) k
theorem b_X11_factor_28 {h : Nat} {L : LVs} {st : List AV} {S : ST} {Q : Option AV → ST → Prop} (k : o_al L st S (fun L st S => o_il L st S (fun L st S => o_c L st S (fun L st S => o_c L st S (fun L st S => o_al L st S (fun L st S => o_il L st S (fun L st S => V MX11_factor h 34 L st S Q) 1) 0) (-1)) (-1)) 1) 0) : V MX11_factor h 28 L st S Q :=
  v_aload_n dX11_factor_28 rfl (fun L st S k => v_iload_n dX11_factor_29 rfl (fun L st S k => v_iconst dX11_factor_30 (by decide) (fun L st S k => v_iconst dX11_factor_31 (by decide) (fun L st S k => v_aload_n dX11_factor_32 rfl (fun L st S k => v_iload_n dX11_factor_33 rfl (fun L st S k => k) k) k) k) k) k) k
theorem k_X11_factor_34 {h : Nat} {L : LVs} {st : List AV} {S : ST} {Q Q' : Option AV → ST → Prop} {j : Nat} {a0 : AV} (hC : Ct MX11_take h [vR 11 j, a0] S Q') (k : ∀ (r : Option AV) (S' : ST), Q' r S' → V MX11_factor (h + 1) 37 L (r.toList ++ st) S' Q) (hj : j < NI 11) (hw : wid st ≤ 8) : V MX11_factor (h + 1) 34 L (a0 :: vR 11 j :: st) S Q :=
  v_callV (M' := MX11_take) (c := 11) (As := [a0]) dX11_factor_34 ml_X11_181 im_X11_take se_X11_take in_X11 cd_X11_take rfl LY_11 np_X11_take (by decide) hw hj hC k
theorem k_X11_factor_37 {h : Nat} {L : LVs} {st : List AV} {S : ST} {Q Q' : Option AV → ST → Prop} {j : Nat} {a0 a1 a2 a3 : AV} (hC : Ct MX11_knot h [vR 11 j, a0, a1, a2, a3] S Q') (k : ∀ (r : Option AV) (S' : ST), Q' r S' → V MX11_factor (h + 1) 40 L (r.toList ++ st) S' Q) (hj : j < NI 11) (hw : wid st ≤ 8) : V MX11_factor (h + 1) 37 L (a3 :: a2 :: a1 :: a0 :: vR 11 j :: st) S Q :=
  v_callV (M' := MX11_knot) (c := 11) (As := [a0, a1, a2, a3]) dX11_factor_37 ml_X11_185 im_X11_knot se_X11_knot in_X11 cd_X11_knot rfl LY_11 np_X11_knot (by decide) hw hj hC k
theorem b_X11_factor_40 {h : Nat} {L : LVs} {st : List AV} {S : ST} {Q : Option AV → ST → Prop} (k : t_ir st S Q) : V MX11_factor h 40 L st S Q :=
  w_ir dX11_factor_40 rfl k
theorem b_X11_factor_41 {h : Nat} {L : LVs} {st : List AV} {S : ST} {Q : Option AV → ST → Prop} (k : o_il L st S (fun L st S => o_c L st S (fun L st S => t_2 L st S (fun x y => x = y) (fun L st S => V MX11_factor h 47 L st S Q) (fun L st S => V MX11_factor h 52 L st S Q)) (nI 50)) 1) : V MX11_factor h 41 L st S Q :=
  v_iload_n dX11_factor_41 rfl (fun L st S k => v_bipush dX11_factor_42 (by decide) (fun L st S k => w_icmp_ne dX11_factor_44 (by decide) rfl k) k) k
theorem b_X11_factor_47 {h : Nat} {L : LVs} {st : List AV} {S : ST} {Q : Option AV → ST → Prop} (k : o_al L st S (fun L st S => V MX11_factor h 48 L st S Q) 0) : V MX11_factor h 47 L st S Q :=
  v_aload_n dX11_factor_47 rfl (fun L st S k => k) k
theorem k_X11_factor_48 {h : Nat} {L : LVs} {st : List AV} {S : ST} {Q Q' : Option AV → ST → Prop} {j : Nat} (hC : Ct MX11_place h [vR 11 j] S Q') (k : ∀ (r : Option AV) (S' : ST), Q' r S' → V MX11_factor (h + 1) 51 L (r.toList ++ st) S' Q) (hj : j < NI 11) (hw : wid st ≤ 8) : V MX11_factor (h + 1) 48 L (vR 11 j :: st) S Q :=
  v_callV (M' := MX11_place) (c := 11) (As := []) dX11_factor_48 ml_X11_192 im_X11_place se_X11_place in_X11 cd_X11_place rfl LY_11 np_X11_place (by decide) hw hj hC k
theorem b_X11_factor_51 {h : Nat} {L : LVs} {st : List AV} {S : ST} {Q : Option AV → ST → Prop} (k : t_ir st S Q) : V MX11_factor h 51 L st S Q :=
  w_ir dX11_factor_51 rfl k
theorem b_X11_factor_52 {h : Nat} {L : LVs} {st : List AV} {S : ST} {Q : Option AV → ST → Prop} (k : o_il L st S (fun L st S => o_c L st S (fun L st S => t_2 L st S (fun x y => x = y) (fun L st S => V MX11_factor h 58 L st S Q) (fun L st S => V MX11_factor h 95 L st S Q)) (nI 30)) 1) : V MX11_factor h 52 L st S Q :=
  v_iload_n dX11_factor_52 rfl (fun L st S k => v_bipush dX11_factor_53 (by decide) (fun L st S k => w_icmp_ne dX11_factor_55 (by decide) rfl k) k) k
theorem b_X11_factor_58 {h : Nat} {L : LVs} {st : List AV} {S : ST} {Q : Option AV → ST → Prop} (k : o_al L st S (fun L st S => V MX11_factor h 59 L st S Q) 0) : V MX11_factor h 58 L st S Q :=
  v_aload_n dX11_factor_58 rfl (fun L st S k => k) k
theorem k_X11_factor_59 {h : Nat} {L : LVs} {st : List AV} {S : ST} {Q Q' : Option AV → ST → Prop} {j : Nat} (hC : Ct MX11_opens h [vR 11 j] S Q') (k : ∀ (r : Option AV) (S' : ST), Q' r S' → V MX11_factor (h + 1) 62 L (r.toList ++ st) S' Q) (hj : j < NI 11) (hw : wid st ≤ 8) : V MX11_factor (h + 1) 59 L (vR 11 j :: st) S Q :=
  v_callV (M' := MX11_opens) (c := 11) (As := []) dX11_factor_59 ml_X11_195 im_X11_opens se_X11_opens in_X11 cd_X11_opens rfl LY_11 np_X11_opens (by decide) hw hj hC k
theorem b_X11_factor_62 {h : Nat} {L : LVs} {st : List AV} {S : ST} {Q : Option AV → ST → Prop} (k : o_al L st S (fun L st S => o_c L st S (fun L st S => V MX11_factor h 65 L st S Q) (nI 30)) 0) : V MX11_factor h 62 L st S Q :=
  v_aload_n dX11_factor_62 rfl (fun L st S k => v_bipush dX11_factor_63 (by decide) (fun L st S k => k) k) k
theorem k_X11_factor_65 {h : Nat} {L : LVs} {st : List AV} {S : ST} {Q Q' : Option AV → ST → Prop} {j : Nat} {a0 : AV} (hC : Ct MX11_take h [vR 11 j, a0] S Q') (k : ∀ (r : Option AV) (S' : ST), Q' r S' → V MX11_factor (h + 1) 68 L (r.toList ++ st) S' Q) (hj : j < NI 11) (hw : wid st ≤ 8) : V MX11_factor (h + 1) 65 L (a0 :: vR 11 j :: st) S Q :=
  v_callV (M' := MX11_take) (c := 11) (As := [a0]) dX11_factor_65 ml_X11_181 im_X11_take se_X11_take in_X11 cd_X11_take rfl LY_11 np_X11_take (by decide) hw hj hC k
theorem b_X11_factor_68 {h : Nat} {L : LVs} {st : List AV} {S : ST} {Q : Option AV → ST → Prop} (k : o_ls L st S (fun L st S => o_al L st S (fun L st S => V MX11_factor h 70 L st S Q) 0) 2) : V MX11_factor h 68 L st S Q :=
  v_lstore_n dX11_factor_68 rfl (by decide) (fun L st S k => v_aload_n dX11_factor_69 rfl (fun L st S k => k) k) k
theorem k_X11_factor_70 {h : Nat} {L : LVs} {st : List AV} {S : ST} {Q Q' : Option AV → ST → Prop} {j : Nat} (hC : Ct MX11_expression h [vR 11 j] S Q') (k : ∀ (r : Option AV) (S' : ST), Q' r S' → V MX11_factor (h + 1) 73 L (r.toList ++ st) S' Q) (hj : j < NI 11) (hw : wid st ≤ 8) : V MX11_factor (h + 1) 70 L (vR 11 j :: st) S Q :=
  v_callV (M' := MX11_expression) (c := 11) (As := []) dX11_factor_70 ml_X11_198 im_X11_expression se_X11_expression in_X11 cd_X11_expression rfl LY_11 np_X11_expression (by decide) hw hj hC k
theorem b_X11_factor_73 {h : Nat} {L : LVs} {st : List AV} {S : ST} {Q : Option AV → ST → Prop} (k : o_is L st S (fun L st S => o_al L st S (fun L st S => o_c L st S (fun L st S => V MX11_factor h 78 L st S Q) (nI 31)) 0) 4) : V MX11_factor h 73 L st S Q :=
  v_istore dX11_factor_73 (by decide) (fun L st S k => v_aload_n dX11_factor_75 rfl (fun L st S k => v_bipush dX11_factor_76 (by decide) (fun L st S k => k) k) k) k
theorem k_X11_factor_78 {h : Nat} {L : LVs} {st : List AV} {S : ST} {Q Q' : Option AV → ST → Prop} {j : Nat} {a0 : AV} (hC : Ct MX11_take h [vR 11 j, a0] S Q') (k : ∀ (r : Option AV) (S' : ST), Q' r S' → V MX11_factor (h + 1) 81 L (r.toList ++ st) S' Q) (hj : j < NI 11) (hw : wid st ≤ 8) : V MX11_factor (h + 1) 78 L (a0 :: vR 11 j :: st) S Q :=
  v_callV (M' := MX11_take) (c := 11) (As := [a0]) dX11_factor_78 ml_X11_181 im_X11_take se_X11_take in_X11 cd_X11_take rfl LY_11 np_X11_take (by decide) hw hj hC k
theorem b_X11_factor_81 {h : Nat} {L : LVs} {st : List AV} {S : ST} {Q : Option AV → ST → Prop} (k : o_ls L st S (fun L st S => o_al L st S (fun L st S => o_dup L st S (fun L st S => o_get L st S (fun L st S => o_c L st S (fun L st S => o_isub L st S (fun L st S => o_puti L st S (fun L st S => o_il L st S (fun L st S => t_ir st S Q) 4) 11 7)) (nI 1)) 11 7 (0, 0, 0))) 0) 2) : V MX11_factor h 81 L st S Q :=
  v_lstore_n dX11_factor_81 rfl (by decide) (fun L st S k => v_aload_n dX11_factor_82 rfl (fun L st S k => v_dup dX11_factor_83 (fun L st S k => v_get dX11_factor_84 rfl iX11 LY_11 rfl (by decide) rfl fl_X11_178 (fun L st S k => v_iconst dX11_factor_87 (by decide) (fun L st S k => v_isub dX11_factor_88 (fun L st S k => v_puti dX11_factor_89 rfl iX11 tyX11_ok nmX11 LY_11 rfl (by decide) rfl fl_X11_178 rfl rfl (fun L st S k => v_iload dX11_factor_92 (fun L st S k => w_ir dX11_factor_94 rfl k) k) k) k) k) k) k) k) k
theorem b_X11_factor_95 {h : Nat} {L : LVs} {st : List AV} {S : ST} {Q : Option AV → ST → Prop} (k : o_il L st S (fun L st S => o_c L st S (fun L st S => t_2 L st S (fun x y => x = y) (fun L st S => V MX11_factor h 101 L st S Q) (fun L st S => V MX11_factor h 150 L st S Q)) (nI 37)) 1) : V MX11_factor h 95 L st S Q :=
  v_iload_n dX11_factor_95 rfl (fun L st S k => v_bipush dX11_factor_96 (by decide) (fun L st S k => w_icmp_ne dX11_factor_98 (by decide) rfl k) k) k
theorem b_X11_factor_101 {h : Nat} {L : LVs} {st : List AV} {S : ST} {Q : Option AV → ST → Prop} (k : o_al L st S (fun L st S => V MX11_factor h 102 L st S Q) 0) : V MX11_factor h 101 L st S Q :=
  v_aload_n dX11_factor_101 rfl (fun L st S k => k) k
theorem k_X11_factor_102 {h : Nat} {L : LVs} {st : List AV} {S : ST} {Q Q' : Option AV → ST → Prop} {j : Nat} (hC : Ct MX11_opens h [vR 11 j] S Q') (k : ∀ (r : Option AV) (S' : ST), Q' r S' → V MX11_factor (h + 1) 105 L (r.toList ++ st) S' Q) (hj : j < NI 11) (hw : wid st ≤ 8) : V MX11_factor (h + 1) 102 L (vR 11 j :: st) S Q :=
  v_callV (M' := MX11_opens) (c := 11) (As := []) dX11_factor_102 ml_X11_195 im_X11_opens se_X11_opens in_X11 cd_X11_opens rfl LY_11 np_X11_opens (by decide) hw hj hC k
theorem b_X11_factor_105 {h : Nat} {L : LVs} {st : List AV} {S : ST} {Q : Option AV → ST → Prop} (k : o_al L st S (fun L st S => o_c L st S (fun L st S => V MX11_factor h 108 L st S Q) (nI 37)) 0) : V MX11_factor h 105 L st S Q :=
  v_aload_n dX11_factor_105 rfl (fun L st S k => v_bipush dX11_factor_106 (by decide) (fun L st S k => k) k) k
theorem k_X11_factor_108 {h : Nat} {L : LVs} {st : List AV} {S : ST} {Q Q' : Option AV → ST → Prop} {j : Nat} {a0 : AV} (hC : Ct MX11_take h [vR 11 j, a0] S Q') (k : ∀ (r : Option AV) (S' : ST), Q' r S' → V MX11_factor (h + 1) 111 L (r.toList ++ st) S' Q) (hj : j < NI 11) (hw : wid st ≤ 8) : V MX11_factor (h + 1) 108 L (a0 :: vR 11 j :: st) S Q :=
  v_callV (M' := MX11_take) (c := 11) (As := [a0]) dX11_factor_108 ml_X11_181 im_X11_take se_X11_take in_X11 cd_X11_take rfl LY_11 np_X11_take (by decide) hw hj hC k
theorem b_X11_factor_111 {h : Nat} {L : LVs} {st : List AV} {S : ST} {Q : Option AV → ST → Prop} (k : o_ls L st S (fun L st S => o_al L st S (fun L st S => o_get L st S (fun L st S => t_1 L st S (fun x => nI 0 ≤ x) (fun L st S => V MX11_factor h 126 L st S Q) (fun L st S => V MX11_factor h 119 L st S Q)) 11 6 (0, 0, 0)) 0) 2) : V MX11_factor h 111 L st S Q :=
  v_lstore_n dX11_factor_111 rfl (by decide) (fun L st S k => v_aload_n dX11_factor_112 rfl (fun L st S k => v_get dX11_factor_113 rfl iX11 LY_11 rfl (by decide) rfl fl_X11_169 (fun L st S k => w_if_ge dX11_factor_116 (by decide) rfl k) k) k) k
theorem b_X11_factor_119 {h : Nat} {L : LVs} {st : List AV} {S : ST} {Q : Option AV → ST → Prop} (k : o_al L st S (fun L st S => V MX11_factor h 120 L st S Q) 0) : V MX11_factor h 119 L st S Q :=
  v_aload_n dX11_factor_119 rfl (fun L st S k => k) k
theorem k_X11_factor_120 {h : Nat} {L : LVs} {st : List AV} {S : ST} {Q Q' : Option AV → ST → Prop} {j : Nat} (hC : Ct MX11_factor h [vR 11 j] S Q') (k : ∀ (r : Option AV) (S' : ST), Q' r S' → V MX11_factor (h + 1) 123 L (r.toList ++ st) S' Q) (hj : j < NI 11) (hw : wid st ≤ 8) : V MX11_factor (h + 1) 120 L (vR 11 j :: st) S Q :=
  v_callV (M' := MX11_factor) (c := 11) (As := []) dX11_factor_120 ml_X11_201 im_X11_factor se_X11_factor in_X11 cd_X11_factor rfl LY_11 np_X11_factor (by decide) hw hj hC k
theorem b_X11_factor_123 {h : Nat} {L : LVs} {st : List AV} {S : ST} {Q : Option AV → ST → Prop} (k : V MX11_factor h 127 L st S Q) : V MX11_factor h 123 L st S Q :=
  v_goto dX11_factor_123 (by decide) k
theorem b_X11_factor_126 {h : Nat} {L : LVs} {st : List AV} {S : ST} {Q : Option AV → ST → Prop} (k : o_c L st S (fun L st S => V MX11_factor h 127 L st S Q) (nI 0)) : V MX11_factor h 126 L st S Q :=
  v_iconst dX11_factor_126 (by decide) (fun L st S k => k) k
theorem b_X11_factor_127 {h : Nat} {L : LVs} {st : List AV} {S : ST} {Q : Option AV → ST → Prop} (k : o_is L st S (fun L st S => o_al L st S (fun L st S => o_dup L st S (fun L st S => o_get L st S (fun L st S => o_c L st S (fun L st S => o_isub L st S (fun L st S => o_puti L st S (fun L st S => o_al L st S (fun L st S => o_c L st S (fun L st S => o_il L st S (fun L st S => o_c L st S (fun L st S => o_lc L st S (fun L st S => V MX11_factor h 146 L st S Q) (lN 0)) (-1)) 4) (nI 60)) 0) 11 7)) (nI 1)) 11 7 (0, 0, 0))) 0) 4) : V MX11_factor h 127 L st S Q :=
  v_istore dX11_factor_127 (by decide) (fun L st S k => v_aload_n dX11_factor_129 rfl (fun L st S k => v_dup dX11_factor_130 (fun L st S k => v_get dX11_factor_131 rfl iX11 LY_11 rfl (by decide) rfl fl_X11_178 (fun L st S k => v_iconst dX11_factor_134 (by decide) (fun L st S k => v_isub dX11_factor_135 (fun L st S k => v_puti dX11_factor_136 rfl iX11 tyX11_ok nmX11 LY_11 rfl (by decide) rfl fl_X11_178 rfl rfl (fun L st S k => v_aload_n dX11_factor_139 rfl (fun L st S k => v_bipush dX11_factor_140 (by decide) (fun L st S k => v_iload dX11_factor_142 (fun L st S k => v_iconst dX11_factor_144 (by decide) (fun L st S k => v_lconst dX11_factor_145 (by decide) (fun L st S k => k) k) k) k) k) k) k) k) k) k) k) k) k
theorem k_X11_factor_146 {h : Nat} {L : LVs} {st : List AV} {S : ST} {Q Q' : Option AV → ST → Prop} {j : Nat} {a0 a1 a2 a3 : AV} (hC : Ct MX11_knot h [vR 11 j, a0, a1, a2, a3] S Q') (k : ∀ (r : Option AV) (S' : ST), Q' r S' → V MX11_factor (h + 1) 149 L (r.toList ++ st) S' Q) (hj : j < NI 11) (hw : wid st ≤ 8) : V MX11_factor (h + 1) 146 L (a3 :: a2 :: a1 :: a0 :: vR 11 j :: st) S Q :=
  v_callV (M' := MX11_knot) (c := 11) (As := [a0, a1, a2, a3]) dX11_factor_146 ml_X11_185 im_X11_knot se_X11_knot in_X11 cd_X11_knot rfl LY_11 np_X11_knot (by decide) hw hj hC k
theorem b_X11_factor_149 {h : Nat} {L : LVs} {st : List AV} {S : ST} {Q : Option AV → ST → Prop} (k : t_ir st S Q) : V MX11_factor h 149 L st S Q :=
  w_ir dX11_factor_149 rfl k
theorem b_X11_factor_150 {h : Nat} {L : LVs} {st : List AV} {S : ST} {Q : Option AV → ST → Prop} (k : o_al L st S (fun L st S => o_al L st S (fun L st S => o_get L st S (fun L st S => t_1 L st S (fun x => nI 0 ≤ x) (fun L st S => V MX11_factor h 165 L st S Q) (fun L st S => V MX11_factor h 158 L st S Q)) 11 6 (0, 0, 0)) 0) 0) : V MX11_factor h 150 L st S Q :=
  v_aload_n dX11_factor_150 rfl (fun L st S k => v_aload_n dX11_factor_151 rfl (fun L st S k => v_get dX11_factor_152 rfl iX11 LY_11 rfl (by decide) rfl fl_X11_169 (fun L st S k => w_if_ge dX11_factor_155 (by decide) rfl k) k) k) k
theorem b_X11_factor_158 {h : Nat} {L : LVs} {st : List AV} {S : ST} {Q : Option AV → ST → Prop} (k : o_al L st S (fun L st S => o_get L st S (fun L st S => V MX11_factor h 169 L st S Q) 11 5 (0, 0, 0)) 0) : V MX11_factor h 158 L st S Q :=
  v_aload_n dX11_factor_158 rfl (fun L st S k => v_get dX11_factor_159 rfl iX11 LY_11 rfl (by decide) rfl fl_X11_172 (fun L st S k => v_goto dX11_factor_162 (by decide) k) k) k
theorem b_X11_factor_165 {h : Nat} {L : LVs} {st : List AV} {S : ST} {Q : Option AV → ST → Prop} (k : o_al L st S (fun L st S => o_get L st S (fun L st S => V MX11_factor h 169 L st S Q) 11 6 (0, 0, 0)) 0) : V MX11_factor h 165 L st S Q :=
  v_aload_n dX11_factor_165 rfl (fun L st S k => v_get dX11_factor_166 rfl iX11 LY_11 rfl (by decide) rfl fl_X11_169 (fun L st S k => k) k) k
theorem b_X11_factor_169 {h : Nat} {L : LVs} {st : List AV} {S : ST} {Q : Option AV → ST → Prop} (k : o_puti L st S (fun L st S => o_c L st S (fun L st S => t_ir st S Q) (nI 0)) 11 6) : V MX11_factor h 169 L st S Q :=
  v_puti dX11_factor_169 rfl iX11 tyX11_ok nmX11 LY_11 rfl (by decide) rfl fl_X11_169 rfl rfl (fun L st S k => v_iconst dX11_factor_172 (by decide) (fun L st S k => w_ir dX11_factor_173 rfl k) k) k
-- QueryForgeModel.term()I
theorem dX11_term_0 : decode cX11_term 0 = .ok (.aload_n 0, 1) := by decide +kernel
theorem dX11_term_1 : decode cX11_term 1 = .ok (.getfield 169, 3) := by decide +kernel
theorem dX11_term_4 : decode cX11_term 4 = .ok (.ifCond .ge 10, 3) := by decide +kernel
theorem dX11_term_7 : decode cX11_term 7 = .ok (.aload_n 0, 1) := by decide +kernel
theorem dX11_term_8 : decode cX11_term 8 = .ok (.invokevirtual 201, 3) := by decide +kernel
theorem dX11_term_11 : decode cX11_term 11 = .ok (.goto 4, 3) := by decide +kernel
theorem dX11_term_14 : decode cX11_term 14 = .ok (.iconst 0, 1) := by decide +kernel
theorem dX11_term_15 : decode cX11_term 15 = .ok (.istore_n 1, 1) := by decide +kernel
theorem dX11_term_16 : decode cX11_term 16 = .ok (.aload_n 0, 1) := by decide +kernel
theorem dX11_term_17 : decode cX11_term 17 = .ok (.bipush 38, 2) := by decide +kernel
theorem dX11_term_19 : decode cX11_term 19 = .ok (.invokevirtual 189, 3) := by decide +kernel
theorem dX11_term_22 : decode cX11_term 22 = .ok (.ifCond .ne 12, 3) := by decide +kernel
theorem dX11_term_25 : decode cX11_term 25 = .ok (.aload_n 0, 1) := by decide +kernel
theorem dX11_term_26 : decode cX11_term 26 = .ok (.bipush 39, 2) := by decide +kernel
theorem dX11_term_28 : decode cX11_term 28 = .ok (.invokevirtual 189, 3) := by decide +kernel
theorem dX11_term_31 : decode cX11_term 31 = .ok (.ifCond .eq 51, 3) := by decide +kernel
theorem dX11_term_34 : decode cX11_term 34 = .ok (.aload_n 0, 1) := by decide +kernel
theorem dX11_term_35 : decode cX11_term 35 = .ok (.getfield 13, 3) := by decide +kernel
theorem dX11_term_38 : decode cX11_term 38 = .ok (.aload_n 0, 1) := by decide +kernel
theorem dX11_term_39 : decode cX11_term 39 = .ok (.getfield 172, 3) := by decide +kernel
theorem dX11_term_42 : decode cX11_term 42 = .ok (.iaload, 1) := by decide +kernel
theorem dX11_term_43 : decode cX11_term 43 = .ok (.istore_n 2, 1) := by decide +kernel
theorem dX11_term_44 : decode cX11_term 44 = .ok (.aload_n 0, 1) := by decide +kernel
theorem dX11_term_45 : decode cX11_term 45 = .ok (.dup, 1) := by decide +kernel
theorem dX11_term_46 : decode cX11_term 46 = .ok (.getfield 172, 3) := by decide +kernel
theorem dX11_term_49 : decode cX11_term 49 = .ok (.iconst 1, 1) := by decide +kernel
theorem dX11_term_50 : decode cX11_term 50 = .ok (.iadd, 1) := by decide +kernel
theorem dX11_term_51 : decode cX11_term 51 = .ok (.putfield 172, 3) := by decide +kernel
theorem dX11_term_54 : decode cX11_term 54 = .ok (.aload_n 0, 1) := by decide +kernel
theorem dX11_term_55 : decode cX11_term 55 = .ok (.invokevirtual 201, 3) := by decide +kernel
theorem dX11_term_58 : decode cX11_term 58 = .ok (.istore_n 3, 1) := by decide +kernel
theorem dX11_term_59 : decode cX11_term 59 = .ok (.aload_n 0, 1) := by decide +kernel
theorem dX11_term_60 : decode cX11_term 60 = .ok (.getfield 169, 3) := by decide +kernel
theorem dX11_term_63 : decode cX11_term 63 = .ok (.ifCond .ge 14, 3) := by decide +kernel
theorem dX11_term_66 : decode cX11_term 66 = .ok (.aload_n 0, 1) := by decide +kernel
theorem dX11_term_67 : decode cX11_term 67 = .ok (.iload_n 2, 1) := by decide +kernel
theorem dX11_term_68 : decode cX11_term 68 = .ok (.iload_n 1, 1) := by decide +kernel
theorem dX11_term_69 : decode cX11_term 69 = .ok (.iload_n 3, 1) := by decide +kernel
theorem dX11_term_70 : decode cX11_term 70 = .ok (.lconst 0, 1) := by decide +kernel
theorem dX11_term_71 : decode cX11_term 71 = .ok (.invokevirtual 185, 3) := by decide +kernel
theorem dX11_term_74 : decode cX11_term 74 = .ok (.goto 4, 3) := by decide +kernel
theorem dX11_term_77 : decode cX11_term 77 = .ok (.iconst 0, 1) := by decide +kernel
theorem dX11_term_78 : decode cX11_term 78 = .ok (.istore_n 1, 1) := by decide +kernel
theorem dX11_term_79 : decode cX11_term 79 = .ok (.goto (-63), 3) := by decide +kernel
theorem dX11_term_82 : decode cX11_term 82 = .ok (.iload_n 1, 1) := by decide +kernel
theorem dX11_term_83 : decode cX11_term 83 = .ok (.ireturn, 1) := by decide +kernel
theorem b_X11_term_0 {h : Nat} {L : LVs} {st : List AV} {S : ST} {Q : Option AV → ST → Prop} (k : o_al L st S (fun L st S => o_get L st S (fun L st S => t_1 L st S (fun x => nI 0 ≤ x) (fun L st S => V MX11_term h 14 L st S Q) (fun L st S => V MX11_term h 7 L st S Q)) 11 6 (0, 0, 0)) 0) : V MX11_term h 0 L st S Q :=
  v_aload_n dX11_term_0 rfl (fun L st S k => v_get dX11_term_1 rfl iX11 LY_11 rfl (by decide) rfl fl_X11_169 (fun L st S k => w_if_ge dX11_term_4 (by decide) rfl k) k) k
theorem b_X11_term_7 {h : Nat} {L : LVs} {st : List AV} {S : ST} {Q : Option AV → ST → Prop} (k : o_al L st S (fun L st S => V MX11_term h 8 L st S Q) 0) : V MX11_term h 7 L st S Q :=
  v_aload_n dX11_term_7 rfl (fun L st S k => k) k
theorem k_X11_term_8 {h : Nat} {L : LVs} {st : List AV} {S : ST} {Q Q' : Option AV → ST → Prop} {j : Nat} (hC : Ct MX11_factor h [vR 11 j] S Q') (k : ∀ (r : Option AV) (S' : ST), Q' r S' → V MX11_term (h + 1) 11 L (r.toList ++ st) S' Q) (hj : j < NI 11) (hw : wid st ≤ 8) : V MX11_term (h + 1) 8 L (vR 11 j :: st) S Q :=
  v_callV (M' := MX11_factor) (c := 11) (As := []) dX11_term_8 ml_X11_201 im_X11_factor se_X11_factor in_X11 cd_X11_factor rfl LY_11 np_X11_factor (by decide) hw hj hC k
theorem b_X11_term_11 {h : Nat} {L : LVs} {st : List AV} {S : ST} {Q : Option AV → ST → Prop} (k : V MX11_term h 15 L st S Q) : V MX11_term h 11 L st S Q :=
  v_goto dX11_term_11 (by decide) k
theorem b_X11_term_14 {h : Nat} {L : LVs} {st : List AV} {S : ST} {Q : Option AV → ST → Prop} (k : o_c L st S (fun L st S => V MX11_term h 15 L st S Q) (nI 0)) : V MX11_term h 14 L st S Q :=
  v_iconst dX11_term_14 (by decide) (fun L st S k => k) k
theorem b_X11_term_15 {h : Nat} {L : LVs} {st : List AV} {S : ST} {Q : Option AV → ST → Prop} (k : o_is L st S (fun L st S => V MX11_term h 16 L st S Q) 1) : V MX11_term h 15 L st S Q :=
  v_istore_n dX11_term_15 rfl (by decide) (fun L st S k => k) k
theorem b_X11_term_16 {h : Nat} {L : LVs} {st : List AV} {S : ST} {Q : Option AV → ST → Prop} (k : o_al L st S (fun L st S => o_c L st S (fun L st S => V MX11_term h 19 L st S Q) (nI 38)) 0) : V MX11_term h 16 L st S Q :=
  v_aload_n dX11_term_16 rfl (fun L st S k => v_bipush dX11_term_17 (by decide) (fun L st S k => k) k) k
theorem k_X11_term_19 {h : Nat} {L : LVs} {st : List AV} {S : ST} {Q Q' : Option AV → ST → Prop} {j : Nat} {a0 : AV} (hC : Ct MX11_is h [vR 11 j, a0] S Q') (k : ∀ (r : Option AV) (S' : ST), Q' r S' → V MX11_term (h + 1) 22 L (r.toList ++ st) S' Q) (hj : j < NI 11) (hw : wid st ≤ 8) : V MX11_term (h + 1) 19 L (a0 :: vR 11 j :: st) S Q :=
  v_callV (M' := MX11_is) (c := 11) (As := [a0]) dX11_term_19 ml_X11_189 im_X11_is se_X11_is in_X11 cd_X11_is rfl LY_11 np_X11_is (by decide) hw hj hC k
theorem b_X11_term_22 {h : Nat} {L : LVs} {st : List AV} {S : ST} {Q : Option AV → ST → Prop} (k : t_1 L st S (fun x => x = nI 0) (fun L st S => V MX11_term h 25 L st S Q) (fun L st S => V MX11_term h 34 L st S Q)) : V MX11_term h 22 L st S Q :=
  w_if_ne dX11_term_22 (by decide) rfl k
theorem b_X11_term_25 {h : Nat} {L : LVs} {st : List AV} {S : ST} {Q : Option AV → ST → Prop} (k : o_al L st S (fun L st S => o_c L st S (fun L st S => V MX11_term h 28 L st S Q) (nI 39)) 0) : V MX11_term h 25 L st S Q :=
  v_aload_n dX11_term_25 rfl (fun L st S k => v_bipush dX11_term_26 (by decide) (fun L st S k => k) k) k
theorem k_X11_term_28 {h : Nat} {L : LVs} {st : List AV} {S : ST} {Q Q' : Option AV → ST → Prop} {j : Nat} {a0 : AV} (hC : Ct MX11_is h [vR 11 j, a0] S Q') (k : ∀ (r : Option AV) (S' : ST), Q' r S' → V MX11_term (h + 1) 31 L (r.toList ++ st) S' Q) (hj : j < NI 11) (hw : wid st ≤ 8) : V MX11_term (h + 1) 28 L (a0 :: vR 11 j :: st) S Q :=
  v_callV (M' := MX11_is) (c := 11) (As := [a0]) dX11_term_28 ml_X11_189 im_X11_is se_X11_is in_X11 cd_X11_is rfl LY_11 np_X11_is (by decide) hw hj hC k
theorem b_X11_term_31 {h : Nat} {L : LVs} {st : List AV} {S : ST} {Q : Option AV → ST → Prop} (k : t_1 L st S (fun x => x = nI 0) (fun L st S => V MX11_term h 82 L st S Q) (fun L st S => V MX11_term h 34 L st S Q)) : V MX11_term h 31 L st S Q :=
  w_if_eq dX11_term_31 (by decide) rfl k
theorem b_X11_term_34 {h : Nat} {L : LVs} {st : List AV} {S : ST} {Q : Option AV → ST → Prop} (k : o_al L st S (fun L st S => o_get L st S (fun L st S => o_al L st S (fun L st S => o_get L st S (fun L st S => o_iald L st S (fun L st S => o_is L st S (fun L st S => o_al L st S (fun L st S => o_dup L st S (fun L st S => o_get L st S (fun L st S => o_c L st S (fun L st S => o_iadd L st S (fun L st S => o_puti L st S (fun L st S => o_al L st S (fun L st S => V MX11_term h 55 L st S Q) 0) 11 5)) (nI 1)) 11 5 (0, 0, 0))) 0) 2)) 11 5 (0, 0, 0)) 0) 11 2 (3, 41, 0)) 0) : V MX11_term h 34 L st S Q :=
  v_aload_n dX11_term_34 rfl (fun L st S k => v_get dX11_term_35 rfl iX11 LY_11 rfl (by decide) rfl fl_X11_13 (fun L st S k => v_aload_n dX11_term_38 rfl (fun L st S k => v_get dX11_term_39 rfl iX11 LY_11 rfl (by decide) rfl fl_X11_172 (fun L st S k => v_iaload dX11_term_42 (fun L st S k => v_istore_n dX11_term_43 rfl (by decide) (fun L st S k => v_aload_n dX11_term_44 rfl (fun L st S k => v_dup dX11_term_45 (fun L st S k => v_get dX11_term_46 rfl iX11 LY_11 rfl (by decide) rfl fl_X11_172 (fun L st S k => v_iconst dX11_term_49 (by decide) (fun L st S k => v_iadd dX11_term_50 (fun L st S k => v_puti dX11_term_51 rfl iX11 tyX11_ok nmX11 LY_11 rfl (by decide) rfl fl_X11_172 rfl rfl (fun L st S k => v_aload_n dX11_term_54 rfl (fun L st S k => k) k) k) k) k) k) k) k) k) k) k) k) k) k
theorem k_X11_term_55 {h : Nat} {L : LVs} {st : List AV} {S : ST} {Q Q' : Option AV → ST → Prop} {j : Nat} (hC : Ct MX11_factor h [vR 11 j] S Q') (k : ∀ (r : Option AV) (S' : ST), Q' r S' → V MX11_term (h + 1) 58 L (r.toList ++ st) S' Q) (hj : j < NI 11) (hw : wid st ≤ 8) : V MX11_term (h + 1) 55 L (vR 11 j :: st) S Q :=
  v_callV (M' := MX11_factor) (c := 11) (As := []) dX11_term_55 ml_X11_201 im_X11_factor se_X11_factor in_X11 cd_X11_factor rfl LY_11 np_X11_factor (by decide) hw hj hC k
theorem b_X11_term_58 {h : Nat} {L : LVs} {st : List AV} {S : ST} {Q : Option AV → ST → Prop} (k : o_is L st S (fun L st S => o_al L st S (fun L st S => o_get L st S (fun L st S => t_1 L st S (fun x => nI 0 ≤ x) (fun L st S => V MX11_term h 77 L st S Q) (fun L st S => V MX11_term h 66 L st S Q)) 11 6 (0, 0, 0)) 0) 3) : V MX11_term h 58 L st S Q :=
  v_istore_n dX11_term_58 rfl (by decide) (fun L st S k => v_aload_n dX11_term_59 rfl (fun L st S k => v_get dX11_term_60 rfl iX11 LY_11 rfl (by decide) rfl fl_X11_169 (fun L st S k => w_if_ge dX11_term_63 (by decide) rfl k) k) k) k
theorem b_X11_term_66 {h : Nat} {L : LVs} {st : List AV} {S : ST} {Q : Option AV → ST → Prop} (k : o_al L st S (fun L st S => o_il L st S (fun L st S => o_il L st S (fun L st S => o_il L st S (fun L st S => o_lc L st S (fun L st S => V MX11_term h 71 L st S Q) (lN 0)) 3) 1) 2) 0) : V MX11_term h 66 L st S Q :=
  v_aload_n dX11_term_66 rfl (fun L st S k => v_iload_n dX11_term_67 rfl (fun L st S k => v_iload_n dX11_term_68 rfl (fun L st S k => v_iload_n dX11_term_69 rfl (fun L st S k => v_lconst dX11_term_70 (by decide) (fun L st S k => k) k) k) k) k) k
theorem k_X11_term_71 {h : Nat} {L : LVs} {st : List AV} {S : ST} {Q Q' : Option AV → ST → Prop} {j : Nat} {a0 a1 a2 a3 : AV} (hC : Ct MX11_knot h [vR 11 j, a0, a1, a2, a3] S Q') (k : ∀ (r : Option AV) (S' : ST), Q' r S' → V MX11_term (h + 1) 74 L (r.toList ++ st) S' Q) (hj : j < NI 11) (hw : wid st ≤ 8) : V MX11_term (h + 1) 71 L (a3 :: a2 :: a1 :: a0 :: vR 11 j :: st) S Q :=
  v_callV (M' := MX11_knot) (c := 11) (As := [a0, a1, a2, a3]) dX11_term_71 ml_X11_185 im_X11_knot se_X11_knot in_X11 cd_X11_knot rfl LY_11 np_X11_knot (by decide) hw hj hC k
theorem b_X11_term_74 {h : Nat} {L : LVs} {st : List AV} {S : ST} {Q : Option AV → ST → Prop} (k : V MX11_term h 78 L st S Q) : V MX11_term h 74 L st S Q :=
  v_goto dX11_term_74 (by decide) k
theorem b_X11_term_77 {h : Nat} {L : LVs} {st : List AV} {S : ST} {Q : Option AV → ST → Prop} (k : o_c L st S (fun L st S => V MX11_term h 78 L st S Q) (nI 0)) : V MX11_term h 77 L st S Q :=
  v_iconst dX11_term_77 (by decide) (fun L st S k => k) k
theorem b_X11_term_78 {h : Nat} {L : LVs} {st : List AV} {S : ST} {Q : Option AV → ST → Prop} (k : o_is L st S (fun L st S => V MX11_term h 16 L st S Q) 1) : V MX11_term h 78 L st S Q :=
  v_istore_n dX11_term_78 rfl (by decide) (fun L st S k => v_goto dX11_term_79 (by decide) k) k
theorem b_X11_term_82 {h : Nat} {L : LVs} {st : List AV} {S : ST} {Q : Option AV → ST → Prop} (k : o_il L st S (fun L st S => t_ir st S Q) 1) : V MX11_term h 82 L st S Q :=
  v_iload_n dX11_term_82 rfl (fun L st S k => w_ir dX11_term_83 rfl k) k
-- QueryForgeModel.expression()I
theorem dX11_expression_0 : decode cX11_expression 0 = .ok (.aload_n 0, 1) := by decide +kernel
theorem dX11_expression_1 : decode cX11_expression 1 = .ok (.invokevirtual 204, 3) := by decide +kernel
theorem dX11_expression_4 : decode cX11_expression 4 = .ok (.istore_n 1, 1) := by decide +kernel
theorem dX11_expression_5 : decode cX11_expression 5 = .ok (.aload_n 0, 1) := by decide +kernel
theorem dX11_expression_6 : decode cX11_expression 6 = .ok (.bipush 36, 2) := by decide +kernel
theorem dX11_expression_8 : decode cX11_expression 8 = .ok (.invokevirtual 189, 3) := by decide +kernel
theorem dX11_expression_11 : decode cX11_expression 11 = .ok (.ifCond .ne 12, 3) := by decide +kernel
theorem dX11_expression_14 : decode cX11_expression 14 = .ok (.aload_n 0, 1) := by decide +kernel
theorem dX11_expression_15 : decode cX11_expression 15 = .ok (.bipush 37, 2) := by decide +kernel
theorem dX11_expression_17 : decode cX11_expression 17 = .ok (.invokevirtual 189, 3) := by decide +kernel
theorem dX11_expression_20 : decode cX11_expression 20 = .ok (.ifCond .eq 51, 3) := by decide +kernel
theorem dX11_expression_23 : decode cX11_expression 23 = .ok (.aload_n 0, 1) := by decide +kernel
theorem dX11_expression_24 : decode cX11_expression 24 = .ok (.getfield 13, 3) := by decide +kernel
theorem dX11_expression_27 : decode cX11_expression 27 = .ok (.aload_n 0, 1) := by decide +kernel
theorem dX11_expression_28 : decode cX11_expression 28 = .ok (.getfield 172, 3) := by decide +kernel
theorem dX11_expression_31 : decode cX11_expression 31 = .ok (.iaload, 1) := by decide +kernel
theorem dX11_expression_32 : decode cX11_expression 32 = .ok (.istore_n 2, 1) := by decide +kernel
theorem dX11_expression_33 : decode cX11_expression 33 = .ok (.aload_n 0, 1) := by decide +kernel
theorem dX11_expression_34 : decode cX11_expression 34 = .ok (.dup, 1) := by decide +kernel
theorem dX11_expression_35 : decode cX11_expression 35 = .ok (.getfield 172, 3) := by decide +kernel
theorem dX11_expression_38 : decode cX11_expression 38 = .ok (.iconst 1, 1) := by decide +kernel
theorem dX11_expression_39 : decode cX11_expression 39 = .ok (.iadd, 1) := by decide +kernel
theorem dX11_expression_40 : decode cX11_expression 40 = .ok (.putfield 172, 3) := by decide +kernel
theorem dX11_expression_43 : decode cX11_expression 43 = .ok (.aload_n 0, 1) := by decide +kernel
theorem dX11_expression_44 : decode cX11_expression 44 = .ok (.invokevirtual 204, 3) := by decide +kernel
theorem dX11_expression_47 : decode cX11_expression 47 = .ok (.istore_n 3, 1) := by decide +kernel
theorem dX11_expression_48 : decode cX11_expression 48 = .ok (.aload_n 0, 1) := by decide +kernel
theorem dX11_expression_49 : decode cX11_expression 49 = .ok (.getfield 169, 3) := by decide +kernel
theorem dX11_expression_52 : decode cX11_expression 52 = .ok (.ifCond .ge 14, 3) := by decide +kernel
theorem dX11_expression_55 : decode cX11_expression 55 = .ok (.aload_n 0, 1) := by decide +kernel
theorem dX11_expression_56 : decode cX11_expression 56 = .ok (.iload_n 2, 1) := by decide +kernel
theorem dX11_expression_57 : decode cX11_expression 57 = .ok (.iload_n 1, 1) := by decide +kernel
theorem dX11_expression_58 : decode cX11_expression 58 = .ok (.iload_n 3, 1) := by decide +kernel
theorem dX11_expression_59 : decode cX11_expression 59 = .ok (.lconst 0, 1) := by decide +kernel
theorem dX11_expression_60 : decode cX11_expression 60 = .ok (.invokevirtual 185, 3) := by decide +kernel
theorem dX11_expression_63 : decode cX11_expression 63 = .ok (.goto 4, 3) := by decide +kernel
theorem dX11_expression_66 : decode cX11_expression 66 = .ok (.iconst 0, 1) := by decide +kernel
theorem dX11_expression_67 : decode cX11_expression 67 = .ok (.istore_n 1, 1) := by decide +kernel
theorem dX11_expression_68 : decode cX11_expression 68 = .ok (.goto (-63), 3) := by decide +kernel
theorem dX11_expression_71 : decode cX11_expression 71 = .ok (.iload_n 1, 1) := by decide +kernel
theorem dX11_expression_72 : decode cX11_expression 72 = .ok (.ireturn, 1) := by decide +kernel
theorem b_X11_expression_0 {h : Nat} {L : LVs} {st : List AV} {S : ST} {Q : Option AV → ST → Prop} (k : o_al L st S (fun L st S => V MX11_expression h 1 L st S Q) 0) : V MX11_expression h 0 L st S Q :=
  v_aload_n dX11_expression_0 rfl (fun L st S k => k) k
theorem k_X11_expression_1 {h : Nat} {L : LVs} {st : List AV} {S : ST} {Q Q' : Option AV → ST → Prop} {j : Nat} (hC : Ct MX11_term h [vR 11 j] S Q') (k : ∀ (r : Option AV) (S' : ST), Q' r S' → V MX11_expression (h + 1) 4 L (r.toList ++ st) S' Q) (hj : j < NI 11) (hw : wid st ≤ 8) : V MX11_expression (h + 1) 1 L (vR 11 j :: st) S Q :=
  v_callV (M' := MX11_term) (c := 11) (As := []) dX11_expression_1 ml_X11_204 im_X11_term se_X11_term in_X11 cd_X11_term rfl LY_11 np_X11_term (by decide) hw hj hC k
theorem b_X11_expression_4 {h : Nat} {L : LVs} {st : List AV} {S : ST} {Q : Option AV → ST → Prop} (k : o_is L st S (fun L st S => V MX11_expression h 5 L st S Q) 1) : V MX11_expression h 4 L st S Q :=
  v_istore_n dX11_expression_4 rfl (by decide) (fun L st S k => k) k
theorem b_X11_expression_5 {h : Nat} {L : LVs} {st : List AV} {S : ST} {Q : Option AV → ST → Prop} (k : o_al L st S (fun L st S => o_c L st S (fun L st S => V MX11_expression h 8 L st S Q) (nI 36)) 0) : V MX11_expression h 5 L st S Q :=
  v_aload_n dX11_expression_5 rfl (fun L st S k => v_bipush dX11_expression_6 (by decide) (fun L st S k => k) k) k
theorem k_X11_expression_8 {h : Nat} {L : LVs} {st : List AV} {S : ST} {Q Q' : Option AV → ST → Prop} {j : Nat} {a0 : AV} (hC : Ct MX11_is h [vR 11 j, a0] S Q') (k : ∀ (r : Option AV) (S' : ST), Q' r S' → V MX11_expression (h + 1) 11 L (r.toList ++ st) S' Q) (hj : j < NI 11) (hw : wid st ≤ 8) : V MX11_expression (h + 1) 8 L (a0 :: vR 11 j :: st) S Q :=
  v_callV (M' := MX11_is) (c := 11) (As := [a0]) dX11_expression_8 ml_X11_189 im_X11_is se_X11_is in_X11 cd_X11_is rfl LY_11 np_X11_is (by decide) hw hj hC k
theorem b_X11_expression_11 {h : Nat} {L : LVs} {st : List AV} {S : ST} {Q : Option AV → ST → Prop} (k : t_1 L st S (fun x => x = nI 0) (fun L st S => V MX11_expression h 14 L st S Q) (fun L st S => V MX11_expression h 23 L st S Q)) : V MX11_expression h 11 L st S Q :=
  w_if_ne dX11_expression_11 (by decide) rfl k
theorem b_X11_expression_14 {h : Nat} {L : LVs} {st : List AV} {S : ST} {Q : Option AV → ST → Prop} (k : o_al L st S (fun L st S => o_c L st S (fun L st S => V MX11_expression h 17 L st S Q) (nI 37)) 0) : V MX11_expression h 14 L st S Q :=
  v_aload_n dX11_expression_14 rfl (fun L st S k => v_bipush dX11_expression_15 (by decide) (fun L st S k => k) k) k
theorem k_X11_expression_17 {h : Nat} {L : LVs} {st : List AV} {S : ST} {Q Q' : Option AV → ST → Prop} {j : Nat} {a0 : AV} (hC : Ct MX11_is h [vR 11 j, a0] S Q') (k : ∀ (r : Option AV) (S' : ST), Q' r S' → V MX11_expression (h + 1) 20 L (r.toList ++ st) S' Q) (hj : j < NI 11) (hw : wid st ≤ 8) : V MX11_expression (h + 1) 17 L (a0 :: vR 11 j :: st) S Q :=
  v_callV (M' := MX11_is) (c := 11) (As := [a0]) dX11_expression_17 ml_X11_189 im_X11_is se_X11_is in_X11 cd_X11_is rfl LY_11 np_X11_is (by decide) hw hj hC k
theorem b_X11_expression_20 {h : Nat} {L : LVs} {st : List AV} {S : ST} {Q : Option AV → ST → Prop} (k : t_1 L st S (fun x => x = nI 0) (fun L st S => V MX11_expression h 71 L st S Q) (fun L st S => V MX11_expression h 23 L st S Q)) : V MX11_expression h 20 L st S Q :=
  w_if_eq dX11_expression_20 (by decide) rfl k
theorem b_X11_expression_23 {h : Nat} {L : LVs} {st : List AV} {S : ST} {Q : Option AV → ST → Prop} (k : o_al L st S (fun L st S => o_get L st S (fun L st S => o_al L st S (fun L st S => o_get L st S (fun L st S => o_iald L st S (fun L st S => o_is L st S (fun L st S => o_al L st S (fun L st S => o_dup L st S (fun L st S => o_get L st S (fun L st S => o_c L st S (fun L st S => o_iadd L st S (fun L st S => o_puti L st S (fun L st S => o_al L st S (fun L st S => V MX11_expression h 44 L st S Q) 0) 11 5)) (nI 1)) 11 5 (0, 0, 0))) 0) 2)) 11 5 (0, 0, 0)) 0) 11 2 (3, 41, 0)) 0) : V MX11_expression h 23 L st S Q :=
  v_aload_n dX11_expression_23 rfl (fun L st S k => v_get dX11_expression_24 rfl iX11 LY_11 rfl (by decide) rfl fl_X11_13 (fun L st S k => v_aload_n dX11_expression_27 rfl (fun L st S k => v_get dX11_expression_28 rfl iX11 LY_11 rfl (by decide) rfl fl_X11_172 (fun L st S k => v_iaload dX11_expression_31 (fun L st S k => v_istore_n dX11_expression_32 rfl (by decide) (fun L st S k => v_aload_n dX11_expression_33 rfl (fun L st S k => v_dup dX11_expression_34 (fun L st S k => v_get dX11_expression_35 rfl iX11 LY_11 rfl (by decide) rfl fl_X11_172 (fun L st S k => v_iconst dX11_expression_38 (by decide) (fun L st S k => v_iadd dX11_expression_39 (fun L st S k => v_puti dX11_expression_40 rfl iX11 tyX11_ok nmX11 LY_11 rfl (by decide) rfl fl_X11_172 rfl rfl (fun L st S k => v_aload_n dX11_expression_43 rfl (fun L st S k => k) k) k) k) k) k) k) k) k) k) k) k) k) k
theorem k_X11_expression_44 {h : Nat} {L : LVs} {st : List AV} {S : ST} {Q Q' : Option AV → ST → Prop} {j : Nat} (hC : Ct MX11_term h [vR 11 j] S Q') (k : ∀ (r : Option AV) (S' : ST), Q' r S' → V MX11_expression (h + 1) 47 L (r.toList ++ st) S' Q) (hj : j < NI 11) (hw : wid st ≤ 8) : V MX11_expression (h + 1) 44 L (vR 11 j :: st) S Q :=
  v_callV (M' := MX11_term) (c := 11) (As := []) dX11_expression_44 ml_X11_204 im_X11_term se_X11_term in_X11 cd_X11_term rfl LY_11 np_X11_term (by decide) hw hj hC k
theorem b_X11_expression_47 {h : Nat} {L : LVs} {st : List AV} {S : ST} {Q : Option AV → ST → Prop} (k : o_is L st S (fun L st S => o_al L st S (fun L st S => o_get L st S (fun L st S => t_1 L st S (fun x => nI 0 ≤ x) (fun L st S => V MX11_expression h 66 L st S Q) (fun L st S => V MX11_expression h 55 L st S Q)) 11 6 (0, 0, 0)) 0) 3) : V MX11_expression h 47 L st S Q :=
  v_istore_n dX11_expression_47 rfl (by decide) (fun L st S k => v_aload_n dX11_expression_48 rfl (fun L st S k => v_get dX11_expression_49 rfl iX11 LY_11 rfl (by decide) rfl fl_X11_169 (fun L st S k => w_if_ge dX11_expression_52 (by decide) rfl k) k) k) k
theorem b_X11_expression_55 {h : Nat} {L : LVs} {st : List AV} {S : ST} {Q : Option AV → ST → Prop} (k : o_al L st S (fun L st S => o_il L st S (fun L st S => o_il L st S (fun L st S => o_il L st S (fun L st S => o_lc L st S (fun L st S => V MX11_expression h 60 L st S Q) (lN 0)) 3) 1) 2) 0) : V MX11_expression h 55 L st S Q :=
  v_aload_n dX11_expression_55 rfl (fun L st S k => v_iload_n dX11_expression_56 rfl (fun L st S k => v_iload_n dX11_expression_57 rfl (fun L st S k => v_iload_n dX11_expression_58 rfl (fun L st S k => v_lconst dX11_expression_59 (by decide) (fun L st S k => k) k) k) k) k) k
theorem k_X11_expression_60 {h : Nat} {L : LVs} {st : List AV} {S : ST} {Q Q' : Option AV → ST → Prop} {j : Nat} {a0 a1 a2 a3 : AV} (hC : Ct MX11_knot h [vR 11 j, a0, a1, a2, a3] S Q') (k : ∀ (r : Option AV) (S' : ST), Q' r S' → V MX11_expression (h + 1) 63 L (r.toList ++ st) S' Q) (hj : j < NI 11) (hw : wid st ≤ 8) : V MX11_expression (h + 1) 60 L (a3 :: a2 :: a1 :: a0 :: vR 11 j :: st) S Q :=
  v_callV (M' := MX11_knot) (c := 11) (As := [a0, a1, a2, a3]) dX11_expression_60 ml_X11_185 im_X11_knot se_X11_knot in_X11 cd_X11_knot rfl LY_11 np_X11_knot (by decide) hw hj hC k
theorem b_X11_expression_63 {h : Nat} {L : LVs} {st : List AV} {S : ST} {Q : Option AV → ST → Prop} (k : V MX11_expression h 67 L st S Q) : V MX11_expression h 63 L st S Q :=
  v_goto dX11_expression_63 (by decide) k
theorem b_X11_expression_66 {h : Nat} {L : LVs} {st : List AV} {S : ST} {Q : Option AV → ST → Prop} (k : o_c L st S (fun L st S => V MX11_expression h 67 L st S Q) (nI 0)) : V MX11_expression h 66 L st S Q :=
  v_iconst dX11_expression_66 (by decide) (fun L st S k => k) k
theorem b_X11_expression_67 {h : Nat} {L : LVs} {st : List AV} {S : ST} {Q : Option AV → ST → Prop} (k : o_is L st S (fun L st S => V MX11_expression h 5 L st S Q) 1) : V MX11_expression h 67 L st S Q :=
  v_istore_n dX11_expression_67 rfl (by decide) (fun L st S k => v_goto dX11_expression_68 (by decide) k) k
theorem b_X11_expression_71 {h : Nat} {L : LVs} {st : List AV} {S : ST} {Q : Option AV → ST → Prop} (k : o_il L st S (fun L st S => t_ir st S Q) 1) : V MX11_expression h 71 L st S Q :=
  v_iload_n dX11_expression_71 rfl (fun L st S k => w_ir dX11_expression_72 rfl k) k
-- QueryForgeModel.singleCondition()I
theorem dX11_singleCondition_0 : decode cX11_singleCondition 0 = .ok (.aload_n 0, 1) := by decide +kernel
theorem dX11_singleCondition_1 : decode cX11_singleCondition 1 = .ok (.bipush 17, 2) := by decide +kernel
theorem dX11_singleCondition_3 : decode cX11_singleCondition 3 = .ok (.invokevirtual 189, 3) := by decide +kernel
theorem dX11_singleCondition_6 : decode cX11_singleCondition 6 = .ok (.ifCond .eq 61, 3) := by decide +kernel
theorem dX11_singleCondition_9 : decode cX11_singleCondition 9 = .ok (.aload_n 0, 1) := by decide +kernel
theorem dX11_singleCondition_10 : decode cX11_singleCondition 10 = .ok (.invokevirtual 195, 3) := by decide +kernel
theorem dX11_singleCondition_13 : decode cX11_singleCondition 13 = .ok (.aload_n 0, 1) := by decide +kernel
theorem dX11_singleCondition_14 : decode cX11_singleCondition 14 = .ok (.bipush 17, 2) := by decide +kernel
theorem dX11_singleCondition_16 : decode cX11_singleCondition 16 = .ok (.invokevirtual 181, 3) := by decide +kernel
theorem dX11_singleCondition_19 : decode cX11_singleCondition 19 = .ok (.lstore_n 1, 1) := by decide +kernel
theorem dX11_singleCondition_20 : decode cX11_singleCondition 20 = .ok (.aload_n 0, 1) := by decide +kernel
theorem dX11_singleCondition_21 : decode cX11_singleCondition 21 = .ok (.getfield 169, 3) := by decide +kernel
theorem dX11_singleCondition_24 : decode cX11_singleCondition 24 = .ok (.ifCond .ge 10, 3) := by decide +kernel
theorem dX11_singleCondition_27 : decode cX11_singleCondition 27 = .ok (.aload_n 0, 1) := by decide +kernel
theorem dX11_singleCondition_28 : decode cX11_singleCondition 28 = .ok (.invokevirtual 207, 3) := by decide +kernel
theorem dX11_singleCondition_31 : decode cX11_singleCondition 31 = .ok (.goto 4, 3) := by decide +kernel
theorem dX11_singleCondition_34 : decode cX11_singleCondition 34 = .ok (.iconst 0, 1) := by decide +kernel
theorem dX11_singleCondition_35 : decode cX11_singleCondition 35 = .ok (.istore_n 3, 1) := by decide +kernel
theorem dX11_singleCondition_36 : decode cX11_singleCondition 36 = .ok (.aload_n 0, 1) := by decide +kernel
theorem dX11_singleCondition_37 : decode cX11_singleCondition 37 = .ok (.dup, 1) := by decide +kernel
theorem dX11_singleCondition_38 : decode cX11_singleCondition 38 = .ok (.getfield 178, 3) := by decide +kernel
theorem dX11_singleCondition_41 : decode cX11_singleCondition 41 = .ok (.iconst 1, 1) := by decide +kernel
theorem dX11_singleCondition_42 : decode cX11_singleCondition 42 = .ok (.isub, 1) := by decide +kernel
theorem dX11_singleCondition_43 : decode cX11_singleCondition 43 = .ok (.putfield 178, 3) := by decide +kernel
theorem dX11_singleCondition_46 : decode cX11_singleCondition 46 = .ok (.aload_n 0, 1) := by decide +kernel
theorem dX11_singleCondition_47 : decode cX11_singleCondition 47 = .ok (.getfield 169, 3) := by decide +kernel
theorem dX11_singleCondition_50 : decode cX11_singleCondition 50 = .ok (.ifCond .ge 15, 3) := by decide +kernel
theorem dX11_singleCondition_53 : decode cX11_singleCondition 53 = .ok (.aload_n 0, 1) := by decide +kernel
theorem dX11_singleCondition_54 : decode cX11_singleCondition 54 = .ok (.bipush 17, 2) := by decide +kernel
theorem dX11_singleCondition_56 : decode cX11_singleCondition 56 = .ok (.iload_n 3, 1) := by decide +kernel
theorem dX11_singleCondition_57 : decode cX11_singleCondition 57 = .ok (.iconst (-1), 1) := by decide +kernel
theorem dX11_singleCondition_58 : decode cX11_singleCondition 58 = .ok (.lconst 0, 1) := by decide +kernel
theorem dX11_singleCondition_59 : decode cX11_singleCondition 59 = .ok (.invokevirtual 185, 3) := by decide +kernel
theorem dX11_singleCondition_62 : decode cX11_singleCondition 62 = .ok (.goto 4, 3) := by decide +kernel
theorem dX11_singleCondition_65 : decode cX11_singleCondition 65 = .ok (.iconst 0, 1) := by decide +kernel
theorem dX11_singleCondition_66 : decode cX11_singleCondition 66 = .ok (.ireturn, 1) := by decide +kernel
theorem dX11_singleCondition_67 : decode cX11_singleCondition 67 = .ok (.aload_n 0, 1) := by decide +kernel
theorem dX11_singleCondition_68 : decode cX11_singleCondition 68 = .ok (.bipush 32, 2) := by decide +kernel
theorem dX11_singleCondition_70 : decode cX11_singleCondition 70 = .ok (.invokevirtual 189, 3) := by decide +kernel
theorem dX11_singleCondition_73 : decode cX11_singleCondition 73 = .ok (.ifCond .eq 49, 3) := by decide +kernel
theorem dX11_singleCondition_76 : decode cX11_singleCondition 76 = .ok (.aload_n 0, 1) := by decide +kernel
theorem dX11_singleCondition_77 : decode cX11_singleCondition 77 = .ok (.invokevirtual 195, 3) := by decide +kernel
theorem dX11_singleCondition_80 : decode cX11_singleCondition 80 = .ok (.aload_n 0, 1) := by decide +kernel
theorem dX11_singleCondition_81 : decode cX11_singleCondition 81 = .ok (.bipush 32, 2) := by decide +kernel
theorem dX11_singleCondition_83 : decode cX11_singleCondition 83 = .ok (.invokevirtual 181, 3) := by decide +kernel
theorem dX11_singleCondition_86 : decode cX11_singleCondition 86 = .ok (.lstore_n 1, 1) := by decide +kernel
theorem dX11_singleCondition_87 : decode cX11_singleCondition 87 = .ok (.aload_n 0, 1) := by decide +kernel
theorem dX11_singleCondition_88 : decode cX11_singleCondition 88 = .ok (.getfield 169, 3) := by decide +kernel
theorem dX11_singleCondition_91 : decode cX11_singleCondition 91 = .ok (.ifCond .ge 10, 3) := by decide +kernel
theorem dX11_singleCondition_94 : decode cX11_singleCondition 94 = .ok (.aload_n 0, 1) := by decide +kernel
theorem dX11_singleCondition_95 : decode cX11_singleCondition 95 = .ok (.invokevirtual 210, 3) := by decide +kernel
theorem dX11_singleCondition_98 : decode cX11_singleCondition 98 = .ok (.goto 4, 3) := by decide +kernel
theorem dX11_singleCondition_101 : decode cX11_singleCondition 101 = .ok (.iconst 0, 1) := by decide +kernel
theorem dX11_singleCondition_102 : decode cX11_singleCondition 102 = .ok (.istore_n 3, 1) := by decide +kernel
theorem dX11_singleCondition_103 : decode cX11_singleCondition 103 = .ok (.aload_n 0, 1) := by decide +kernel
theorem dX11_singleCondition_104 : decode cX11_singleCondition 104 = .ok (.bipush 33, 2) := by decide +kernel
theorem dX11_singleCondition_106 : decode cX11_singleCondition 106 = .ok (.invokevirtual 181, 3) := by decide +kernel
theorem dX11_singleCondition_109 : decode cX11_singleCondition 109 = .ok (.lstore_n 1, 1) := by decide +kernel
theorem dX11_singleCondition_110 : decode cX11_singleCondition 110 = .ok (.aload_n 0, 1) := by decide +kernel
theorem dX11_singleCondition_111 : decode cX11_singleCondition 111 = .ok (.dup, 1) := by decide +kernel
theorem dX11_singleCondition_112 : decode cX11_singleCondition 112 = .ok (.getfield 178, 3) := by decide +kernel
theorem dX11_singleCondition_115 : decode cX11_singleCondition 115 = .ok (.iconst 1, 1) := by decide +kernel
theorem dX11_singleCondition_116 : decode cX11_singleCondition 116 = .ok (.isub, 1) := by decide +kernel
theorem dX11_singleCondition_117 : decode cX11_singleCondition 117 = .ok (.putfield 178, 3) := by decide +kernel
theorem dX11_singleCondition_120 : decode cX11_singleCondition 120 = .ok (.iload_n 3, 1) := by decide +kernel
theorem dX11_singleCondition_121 : decode cX11_singleCondition 121 = .ok (.ireturn, 1) := by decide +kernel
theorem dX11_singleCondition_122 : decode cX11_singleCondition 122 = .ok (.aload_n 0, 1) := by decide +kernel
theorem dX11_singleCondition_123 : decode cX11_singleCondition 123 = .ok (.invokevirtual 198, 3) := by decide +kernel
theorem dX11_singleCondition_126 : decode cX11_singleCondition 126 = .ok (.istore_n 1, 1) := by decide +kernel
theorem dX11_singleCondition_127 : decode cX11_singleCondition 127 = .ok (.aload_n 0, 1) := by decide +kernel
theorem dX11_singleCondition_128 : decode cX11_singleCondition 128 = .ok (.bipush 14, 2) := by decide +kernel
theorem dX11_singleCondition_130 : decode cX11_singleCondition 130 = .ok (.invokevirtual 189, 3) := by decide +kernel
theorem dX11_singleCondition_133 : decode cX11_singleCondition 133 = .ok (.ifCond .eq 41, 3) := by decide +kernel
theorem dX11_singleCondition_136 : decode cX11_singleCondition 136 = .ok (.aload_n 0, 1) := by decide +kernel
theorem dX11_singleCondition_137 : decode cX11_singleCondition 137 = .ok (.dup, 1) := by decide +kernel
theorem dX11_singleCondition_138 : decode cX11_singleCondition 138 = .ok (.getfield 172, 3) := by decide +kernel
theorem dX11_singleCondition_141 : decode cX11_singleCondition 141 = .ok (.iconst 1, 1) := by decide +kernel
theorem dX11_singleCondition_142 : decode cX11_singleCondition 142 = .ok (.iadd, 1) := by decide +kernel
theorem dX11_singleCondition_143 : decode cX11_singleCondition 143 = .ok (.putfield 172, 3) := by decide +kernel
theorem dX11_singleCondition_146 : decode cX11_singleCondition 146 = .ok (.aload_n 0, 1) := by decide +kernel
theorem dX11_singleCondition_147 : decode cX11_singleCondition 147 = .ok (.bipush 13, 2) := by decide +kernel
theorem dX11_singleCondition_149 : decode cX11_singleCondition 149 = .ok (.invokevirtual 181, 3) := by decide +kernel
theorem dX11_singleCondition_152 : decode cX11_singleCondition 152 = .ok (.lstore_n 2, 1) := by decide +kernel
theorem dX11_singleCondition_153 : decode cX11_singleCondition 153 = .ok (.aload_n 0, 1) := by decide +kernel
theorem dX11_singleCondition_154 : decode cX11_singleCondition 154 = .ok (.getfield 169, 3) := by decide +kernel
theorem dX11_singleCondition_157 : decode cX11_singleCondition 157 = .ok (.ifCond .ge 15, 3) := by decide +kernel
theorem dX11_singleCondition_160 : decode cX11_singleCondition 160 = .ok (.aload_n 0, 1) := by decide +kernel
theorem dX11_singleCondition_161 : decode cX11_singleCondition 161 = .ok (.bipush 14, 2) := by decide +kernel
theorem dX11_singleCondition_163 : decode cX11_singleCondition 163 = .ok (.iload_n 1, 1) := by decide +kernel
theorem dX11_singleCondition_164 : decode cX11_singleCondition 164 = .ok (.iconst (-1), 1) := by decide +kernel
theorem dX11_singleCondition_165 : decode cX11_singleCondition 165 = .ok (.lconst 0, 1) := by decide +kernel
theorem dX11_singleCondition_166 : decode cX11_singleCondition 166 = .ok (.invokevirtual 185, 3) := by decide +kernel
theorem dX11_singleCondition_169 : decode cX11_singleCondition 169 = .ok (.goto 4, 3) := by decide +kernel
theorem dX11_singleCondition_172 : decode cX11_singleCondition 172 = .ok (.iconst 0, 1) := by decide +kernel
theorem dX11_singleCondition_173 : decode cX11_singleCondition 173 = .ok (.ireturn, 1) := by decide +kernel
theorem dX11_singleCondition_174 : decode cX11_singleCondition 174 = .ok (.aload_n 0, 1) := by decide +kernel
theorem dX11_singleCondition_175 : decode cX11_singleCondition 175 = .ok (.getfield 13, 3) := by decide +kernel
theorem dX11_singleCondition_178 : decode cX11_singleCondition 178 = .ok (.aload_n 0, 1) := by decide +kernel
theorem dX11_singleCondition_179 : decode cX11_singleCondition 179 = .ok (.getfield 172, 3) := by decide +kernel
theorem dX11_singleCondition_182 : decode cX11_singleCondition 182 = .ok (.iaload, 1) := by decide +kernel
theorem dX11_singleCondition_183 : decode cX11_singleCondition 183 = .ok (.istore_n 2, 1) := by decide +kernel
theorem dX11_singleCondition_184 : decode cX11_singleCondition 184 = .ok (.aload_n 0, 1) := by decide +kernel
theorem dX11_singleCondition_185 : decode cX11_singleCondition 185 = .ok (.getfield 169, 3) := by decide +kernel
theorem dX11_singleCondition_188 : decode cX11_singleCondition 188 = .ok (.ifCond .ge 15, 3) := by decide +kernel
theorem dX11_singleCondition_191 : decode cX11_singleCondition 191 = .ok (.iload_n 2, 1) := by decide +kernel
theorem dX11_singleCondition_192 : decode cX11_singleCondition 192 = .ok (.bipush 40, 2) := by decide +kernel
theorem dX11_singleCondition_194 : decode cX11_singleCondition 194 = .ok (.if_icmp .lt 9, 3) := by decide +kernel
theorem dX11_singleCondition_197 : decode cX11_singleCondition 197 = .ok (.iload_n 2, 1) := by decide +kernel
theorem dX11_singleCondition_198 : decode cX11_singleCondition 198 = .ok (.bipush 45, 2) := by decide +kernel
theorem dX11_singleCondition_200 : decode cX11_singleCondition 200 = .ok (.if_icmp .le 27, 3) := by decide +kernel
theorem dX11_singleCondition_203 : decode cX11_singleCondition 203 = .ok (.aload_n 0, 1) := by decide +kernel
theorem dX11_singleCondition_204 : decode cX11_singleCondition 204 = .ok (.aload_n 0, 1) := by decide +kernel
theorem dX11_singleCondition_205 : decode cX11_singleCondition 205 = .ok (.getfield 169, 3) := by decide +kernel
theorem dX11_singleCondition_208 : decode cX11_singleCondition 208 = .ok (.ifCond .ge 10, 3) := by decide +kernel
theorem dX11_singleCondition_211 : decode cX11_singleCondition 211 = .ok (.aload_n 0, 1) := by decide +kernel
theorem dX11_singleCondition_212 : decode cX11_singleCondition 212 = .ok (.getfield 172, 3) := by decide +kernel
theorem dX11_singleCondition_215 : decode cX11_singleCondition 215 = .ok (.goto 7, 3) := by decide +kernel
theorem dX11_singleCondition_218 : decode cX11_singleCondition 218 = .ok (.aload_n 0, 1) := by decide +kernel
theorem dX11_singleCondition_219 : decode cX11_singleCondition 219 = .ok (.getfield 169, 3) := by decide +kernel
theorem dX11_singleCondition_222 : decode cX11_singleCondition 222 = .ok (.putfield 169, 3) := by decide +kernel
theorem dX11_singleCondition_225 : decode cX11_singleCondition 225 = .ok (.iconst 0, 1) := by decide +kernel
theorem dX11_singleCondition_226 : decode cX11_singleCondition 226 = .ok (.ireturn, 1) := by decide +kernel
theorem dX11_singleCondition_227 : decode cX11_singleCondition 227 = .ok (.aload_n 0, 1) := by decide +kernel
theorem dX11_singleCondition_228 : decode cX11_singleCondition 228 = .ok (.dup, 1) := by decide +kernel
theorem dX11_singleCondition_229 : decode cX11_singleCondition 229 = .ok (.getfield 172, 3) := by decide +kernel
theorem dX11_singleCondition_232 : decode cX11_singleCondition 232 = .ok (.iconst 1, 1) := by decide +kernel
theorem dX11_singleCondition_233 : decode cX11_singleCondition 233 = .ok (.iadd, 1) := by decide +kernel
theorem dX11_singleCondition_234 : decode cX11_singleCondition 234 = .ok (.putfield 172, 3) := by decide +kernel
theorem dX11_singleCondition_237 : decode cX11_singleCondition 237 = .ok (.aload_n 0, 1) := by decide +kernel
theorem dX11_singleCondition_238 : decode cX11_singleCondition 238 = .ok (.invokevirtual 198, 3) := by decide +kernel
theorem dX11_singleCondition_241 : decode cX11_singleCondition 241 = .ok (.istore_n 3, 1) := by decide +kernel
theorem dX11_singleCondition_242 : decode cX11_singleCondition 242 = .ok (.aload_n 0, 1) := by decide +kernel
theorem dX11_singleCondition_243 : decode cX11_singleCondition 243 = .ok (.getfield 169, 3) := by decide +kernel
theorem dX11_singleCondition_246 : decode cX11_singleCondition 246 = .ok (.ifCond .ge 14, 3) := by decide +kernel
theorem dX11_singleCondition_249 : decode cX11_singleCondition 249 = .ok (.aload_n 0, 1) := by decide +kernel
theorem dX11_singleCondition_250 : decode cX11_singleCondition 250 = .ok (.iload_n 2, 1) := by decide +kernel
theorem dX11_singleCondition_251 : decode cX11_singleCondition 251 = .ok (.iload_n 1, 1) := by decide +kernel
theorem dX11_singleCondition_252 : decode cX11_singleCondition 252 = .ok (.iload_n 3, 1) := by decide +kernel
theorem dX11_singleCondition_253 : decode cX11_singleCondition 253 = .ok (.lconst 0, 1) := by decide +kernel
theorem dX11_singleCondition_254 : decode cX11_singleCondition 254 = .ok (.invokevirtual 185, 3) := by decide +kernel
theorem dX11_singleCondition_257 : decode cX11_singleCondition 257 = .ok (.goto 4, 3) := by decide +kernel
theorem dX11_singleCondition_260 : decode cX11_singleCondition 260 = .ok (.iconst 0, 1) := by decide +kernel
theorem dX11_singleCondition_261 : decode cX11_singleCondition 261 = .ok (.ireturn, 1) := by decide +kernel
theorem b_X11_singleCondition_0 {h : Nat} {L : LVs} {st : List AV} {S : ST} {Q : Option AV → ST → Prop} (k : o_al L st S (fun L st S => o_c L st S (fun L st S => V MX11_singleCondition h 3 L st S Q) (nI 17)) 0) : V MX11_singleCondition h 0 L st S Q :=
  v_aload_n dX11_singleCondition_0 rfl (fun L st S k => v_bipush dX11_singleCondition_1 (by decide) (fun L st S k => k) k) k
theorem k_X11_singleCondition_3 {h : Nat} {L : LVs} {st : List AV} {S : ST} {Q Q' : Option AV → ST → Prop} {j : Nat} {a0 : AV} (hC : Ct MX11_is h [vR 11 j, a0] S Q') (k : ∀ (r : Option AV) (S' : ST), Q' r S' → V MX11_singleCondition (h + 1) 6 L (r.toList ++ st) S' Q) (hj : j < NI 11) (hw : wid st ≤ 8) : V MX11_singleCondition (h + 1) 3 L (a0 :: vR 11 j :: st) S Q :=
  v_callV (M' := MX11_is) (c := 11) (As := [a0]) dX11_singleCondition_3 ml_X11_189 im_X11_is se_X11_is in_X11 cd_X11_is rfl LY_11 np_X11_is (by decide) hw hj hC k
theorem b_X11_singleCondition_6 {h : Nat} {L : LVs} {st : List AV} {S : ST} {Q : Option AV → ST → Prop} (k : t_1 L st S (fun x => x = nI 0) (fun L st S => V MX11_singleCondition h 67 L st S Q) (fun L st S => V MX11_singleCondition h 9 L st S Q)) : V MX11_singleCondition h 6 L st S Q :=
  w_if_eq dX11_singleCondition_6 (by decide) rfl k
theorem b_X11_singleCondition_9 {h : Nat} {L : LVs} {st : List AV} {S : ST} {Q : Option AV → ST → Prop} (k : o_al L st S (fun L st S => V MX11_singleCondition h 10 L st S Q) 0) : V MX11_singleCondition h 9 L st S Q :=
  v_aload_n dX11_singleCondition_9 rfl (fun L st S k => k) k
theorem k_X11_singleCondition_10 {h : Nat} {L : LVs} {st : List AV} {S : ST} {Q Q' : Option AV → ST → Prop} {j : Nat} (hC : Ct MX11_opens h [vR 11 j] S Q') (k : ∀ (r : Option AV) (S' : ST), Q' r S' → V MX11_singleCondition (h + 1) 13 L (r.toList ++ st) S' Q) (hj : j < NI 11) (hw : wid st ≤ 8) : V MX11_singleCondition (h + 1) 10 L (vR 11 j :: st) S Q :=
  v_callV (M' := MX11_opens) (c := 11) (As := []) dX11_singleCondition_10 ml_X11_195 im_X11_opens se_X11_opens in_X11 cd_X11_opens rfl LY_11 np_X11_opens (by decide) hw hj hC k
theorem b_X11_singleCondition_13 {h : Nat} {L : LVs} {st : List AV} {S : ST} {Q : Option AV → ST → Prop} (k : o_al L st S (fun L st S => o_c L st S (fun L st S => V MX11_singleCondition h 16 L st S Q) (nI 17)) 0) : V MX11_singleCondition h 13 L st S Q :=
  v_aload_n dX11_singleCondition_13 rfl (fun L st S k => v_bipush dX11_singleCondition_14 (by decide) (fun L st S k => k) k) k
theorem k_X11_singleCondition_16 {h : Nat} {L : LVs} {st : List AV} {S : ST} {Q Q' : Option AV → ST → Prop} {j : Nat} {a0 : AV} (hC : Ct MX11_take h [vR 11 j, a0] S Q') (k : ∀ (r : Option AV) (S' : ST), Q' r S' → V MX11_singleCondition (h + 1) 19 L (r.toList ++ st) S' Q) (hj : j < NI 11) (hw : wid st ≤ 8) : V MX11_singleCondition (h + 1) 16 L (a0 :: vR 11 j :: st) S Q :=
  v_callV (M' := MX11_take) (c := 11) (As := [a0]) dX11_singleCondition_16 ml_X11_181 im_X11_take se_X11_take in_X11 cd_X11_take rfl LY_11 np_X11_take (by decide) hw hj hC k
theorem b_X11_singleCondition_19 {h : Nat} {L : LVs} {st : List AV} {S : ST} {Q : Option AV → ST → Prop} (k : o_ls L st S (fun L st S => o_al L st S (fun L st S => o_get L st S (fun L st S => t_1 L st S (fun x => nI 0 ≤ x) (fun L st S => V MX11_singleCondition h 34 L st S Q) (fun L st S => V MX11_singleCondition h 27 L st S Q)) 11 6 (0, 0, 0)) 0) 1) : V MX11_singleCondition h 19 L st S Q :=
  v_lstore_n dX11_singleCondition_19 rfl (by decide) (fun L st S k => v_aload_n dX11_singleCondition_20 rfl (fun L st S k => v_get dX11_singleCondition_21 rfl iX11 LY_11 rfl (by decide) rfl fl_X11_169 (fun L st S k => w_if_ge dX11_singleCondition_24 (by decide) rfl k) k) k) k
theorem b_X11_singleCondition_27 {h : Nat} {L : LVs} {st : List AV} {S : ST} {Q : Option AV → ST → Prop} (k : o_al L st S (fun L st S => V MX11_singleCondition h 28 L st S Q) 0) : V MX11_singleCondition h 27 L st S Q :=
  v_aload_n dX11_singleCondition_27 rfl (fun L st S k => k) k
theorem k_X11_singleCondition_28 {h : Nat} {L : LVs} {st : List AV} {S : ST} {Q Q' : Option AV → ST → Prop} {j : Nat} (hC : Ct MX11_singleCondition h [vR 11 j] S Q') (k : ∀ (r : Option AV) (S' : ST), Q' r S' → V MX11_singleCondition (h + 1) 31 L (r.toList ++ st) S' Q) (hj : j < NI 11) (hw : wid st ≤ 8) : V MX11_singleCondition (h + 1) 28 L (vR 11 j :: st) S Q :=
  v_callV (M' := MX11_singleCondition) (c := 11) (As := []) dX11_singleCondition_28 ml_X11_207 im_X11_singleCondition se_X11_singleCondition in_X11 cd_X11_singleCondition rfl LY_11 np_X11_singleCondition (by decide) hw hj hC k
theorem b_X11_singleCondition_31 {h : Nat} {L : LVs} {st : List AV} {S : ST} {Q : Option AV → ST → Prop} (k : V MX11_singleCondition h 35 L st S Q) : V MX11_singleCondition h 31 L st S Q :=
  v_goto dX11_singleCondition_31 (by decide) k
theorem b_X11_singleCondition_34 {h : Nat} {L : LVs} {st : List AV} {S : ST} {Q : Option AV → ST → Prop} (k : o_c L st S (fun L st S => V MX11_singleCondition h 35 L st S Q) (nI 0)) : V MX11_singleCondition h 34 L st S Q :=
  v_iconst dX11_singleCondition_34 (by decide) (fun L st S k => k) k
theorem b_X11_singleCondition_35 {h : Nat} {L : LVs} {st : List AV} {S : ST} {Q : Option AV → ST → Prop} (k : o_is L st S (fun L st S => o_al L st S (fun L st S => o_dup L st S (fun L st S => o_get L st S (fun L st S => o_c L st S (fun L st S => o_isub L st S (fun L st S => o_puti L st S (fun L st S => o_al L st S (fun L st S => o_get L st S (fun L st S => t_1 L st S (fun x => nI 0 ≤ x) (fun L st S => V MX11_singleCondition h 65 L st S Q) (fun L st S => V MX11_singleCondition h 53 L st S Q)) 11 6 (0, 0, 0)) 0) 11 7)) (nI 1)) 11 7 (0, 0, 0))) 0) 3) : V MX11_singleCondition h 35 L st S Q :=
  v_istore_n dX11_singleCondition_35 rfl (by decide) (fun L st S k => v_aload_n dX11_singleCondition_36 rfl (fun L st S k => v_dup dX11_singleCondition_37 (fun L st S k => v_get dX11_singleCondition_38 rfl iX11 LY_11 rfl (by decide) rfl fl_X11_178 (fun L st S k => v_iconst dX11_singleCondition_41 (by decide) (fun L st S k => v_isub dX11_singleCondition_42 (fun L st S k => v_puti dX11_singleCondition_43 rfl iX11 tyX11_ok nmX11 LY_11 rfl (by decide) rfl fl_X11_178 rfl rfl (fun L st S k => v_aload_n dX11_singleCondition_46 rfl (fun L st S k => v_get dX11_singleCondition_47 rfl iX11 LY_11 rfl (by decide) rfl fl_X11_169 (fun L st S k => w_if_ge dX11_singleCondition_50 (by decide) rfl k) k) k) k) k) k) k) k) k) k
theorem b_X11_singleCondition_53 {h : Nat} {L : LVs} {st : List AV} {S : ST} {Q : Option AV → ST → Prop} (k : o_al L st S (fun L st S => o_c L st S (fun L st S => o_il L st S (fun L st S => o_c L st S (fun L st S => o_lc L st S (fun L st S => V MX11_singleCondition h 59 L st S Q) (lN 0)) (-1)) 3) (nI 17)) 0) : V MX11_singleCondition h 53 L st S Q :=
  v_aload_n dX11_singleCondition_53 rfl (fun L st S k => v_bipush dX11_singleCondition_54 (by decide) (fun L st S k => v_iload_n dX11_singleCondition_56 rfl (fun L st S k => v_iconst dX11_singleCondition_57 (by decide) (fun L st S k => v_lconst dX11_singleCondition_58 (by decide) (fun L st S k => k) k) k) k) k) k
theorem k_X11_singleCondition_59 {h : Nat} {L : LVs} {st : List AV} {S : ST} {Q Q' : Option AV → ST → Prop} {j : Nat} {a0 a1 a2 a3 : AV} (hC : Ct MX11_knot h [vR 11 j, a0, a1, a2, a3] S Q') (k : ∀ (r : Option AV) (S' : ST), Q' r S' → V MX11_singleCondition (h + 1) 62 L (r.toList ++ st) S' Q) (hj : j < NI 11) (hw : wid st ≤ 8) : V MX11_singleCondition (h + 1) 59 L (a3 :: a2 :: a1 :: a0 :: vR 11 j :: st) S Q :=
  v_callV (M' := MX11_knot) (c := 11) (As := [a0, a1, a2, a3]) dX11_singleCondition_59 ml_X11_185 im_X11_knot se_X11_knot in_X11 cd_X11_knot rfl LY_11 np_X11_knot (by decide) hw hj hC k
theorem b_X11_singleCondition_62 {h : Nat} {L : LVs} {st : List AV} {S : ST} {Q : Option AV → ST → Prop} (k : V MX11_singleCondition h 66 L st S Q) : V MX11_singleCondition h 62 L st S Q :=
  v_goto dX11_singleCondition_62 (by decide) k
theorem b_X11_singleCondition_65 {h : Nat} {L : LVs} {st : List AV} {S : ST} {Q : Option AV → ST → Prop} (k : o_c L st S (fun L st S => V MX11_singleCondition h 66 L st S Q) (nI 0)) : V MX11_singleCondition h 65 L st S Q :=
  v_iconst dX11_singleCondition_65 (by decide) (fun L st S k => k) k
theorem b_X11_singleCondition_66 {h : Nat} {L : LVs} {st : List AV} {S : ST} {Q : Option AV → ST → Prop} (k : t_ir st S Q) : V MX11_singleCondition h 66 L st S Q :=
  w_ir dX11_singleCondition_66 rfl k
theorem b_X11_singleCondition_67 {h : Nat} {L : LVs} {st : List AV} {S : ST} {Q : Option AV → ST → Prop} (k : o_al L st S (fun L st S => o_c L st S (fun L st S => V MX11_singleCondition h 70 L st S Q) (nI 32)) 0) : V MX11_singleCondition h 67 L st S Q :=
  v_aload_n dX11_singleCondition_67 rfl (fun L st S k => v_bipush dX11_singleCondition_68 (by decide) (fun L st S k => k) k) k
theorem k_X11_singleCondition_70 {h : Nat} {L : LVs} {st : List AV} {S : ST} {Q Q' : Option AV → ST → Prop} {j : Nat} {a0 : AV} (hC : Ct MX11_is h [vR 11 j, a0] S Q') (k : ∀ (r : Option AV) (S' : ST), Q' r S' → V MX11_singleCondition (h + 1) 73 L (r.toList ++ st) S' Q) (hj : j < NI 11) (hw : wid st ≤ 8) : V MX11_singleCondition (h + 1) 70 L (a0 :: vR 11 j :: st) S Q :=
  v_callV (M' := MX11_is) (c := 11) (As := [a0]) dX11_singleCondition_70 ml_X11_189 im_X11_is se_X11_is in_X11 cd_X11_is rfl LY_11 np_X11_is (by decide) hw hj hC k
theorem b_X11_singleCondition_73 {h : Nat} {L : LVs} {st : List AV} {S : ST} {Q : Option AV → ST → Prop} (k : t_1 L st S (fun x => x = nI 0) (fun L st S => V MX11_singleCondition h 122 L st S Q) (fun L st S => V MX11_singleCondition h 76 L st S Q)) : V MX11_singleCondition h 73 L st S Q :=
  w_if_eq dX11_singleCondition_73 (by decide) rfl k
theorem b_X11_singleCondition_76 {h : Nat} {L : LVs} {st : List AV} {S : ST} {Q : Option AV → ST → Prop} (k : o_al L st S (fun L st S => V MX11_singleCondition h 77 L st S Q) 0) : V MX11_singleCondition h 76 L st S Q :=
  v_aload_n dX11_singleCondition_76 rfl (fun L st S k => k) k
theorem k_X11_singleCondition_77 {h : Nat} {L : LVs} {st : List AV} {S : ST} {Q Q' : Option AV → ST → Prop} {j : Nat} (hC : Ct MX11_opens h [vR 11 j] S Q') (k : ∀ (r : Option AV) (S' : ST), Q' r S' → V MX11_singleCondition (h + 1) 80 L (r.toList ++ st) S' Q) (hj : j < NI 11) (hw : wid st ≤ 8) : V MX11_singleCondition (h + 1) 77 L (vR 11 j :: st) S Q :=
  v_callV (M' := MX11_opens) (c := 11) (As := []) dX11_singleCondition_77 ml_X11_195 im_X11_opens se_X11_opens in_X11 cd_X11_opens rfl LY_11 np_X11_opens (by decide) hw hj hC k
theorem b_X11_singleCondition_80 {h : Nat} {L : LVs} {st : List AV} {S : ST} {Q : Option AV → ST → Prop} (k : o_al L st S (fun L st S => o_c L st S (fun L st S => V MX11_singleCondition h 83 L st S Q) (nI 32)) 0) : V MX11_singleCondition h 80 L st S Q :=
  v_aload_n dX11_singleCondition_80 rfl (fun L st S k => v_bipush dX11_singleCondition_81 (by decide) (fun L st S k => k) k) k
theorem k_X11_singleCondition_83 {h : Nat} {L : LVs} {st : List AV} {S : ST} {Q Q' : Option AV → ST → Prop} {j : Nat} {a0 : AV} (hC : Ct MX11_take h [vR 11 j, a0] S Q') (k : ∀ (r : Option AV) (S' : ST), Q' r S' → V MX11_singleCondition (h + 1) 86 L (r.toList ++ st) S' Q) (hj : j < NI 11) (hw : wid st ≤ 8) : V MX11_singleCondition (h + 1) 83 L (a0 :: vR 11 j :: st) S Q :=
  v_callV (M' := MX11_take) (c := 11) (As := [a0]) dX11_singleCondition_83 ml_X11_181 im_X11_take se_X11_take in_X11 cd_X11_take rfl LY_11 np_X11_take (by decide) hw hj hC k
theorem b_X11_singleCondition_86 {h : Nat} {L : LVs} {st : List AV} {S : ST} {Q : Option AV → ST → Prop} (k : o_ls L st S (fun L st S => o_al L st S (fun L st S => o_get L st S (fun L st S => t_1 L st S (fun x => nI 0 ≤ x) (fun L st S => V MX11_singleCondition h 101 L st S Q) (fun L st S => V MX11_singleCondition h 94 L st S Q)) 11 6 (0, 0, 0)) 0) 1) : V MX11_singleCondition h 86 L st S Q :=
  v_lstore_n dX11_singleCondition_86 rfl (by decide) (fun L st S k => v_aload_n dX11_singleCondition_87 rfl (fun L st S k => v_get dX11_singleCondition_88 rfl iX11 LY_11 rfl (by decide) rfl fl_X11_169 (fun L st S k => w_if_ge dX11_singleCondition_91 (by decide) rfl k) k) k) k
theorem b_X11_singleCondition_94 {h : Nat} {L : LVs} {st : List AV} {S : ST} {Q : Option AV → ST → Prop} (k : o_al L st S (fun L st S => V MX11_singleCondition h 95 L st S Q) 0) : V MX11_singleCondition h 94 L st S Q :=
  v_aload_n dX11_singleCondition_94 rfl (fun L st S k => k) k
theorem k_X11_singleCondition_95 {h : Nat} {L : LVs} {st : List AV} {S : ST} {Q Q' : Option AV → ST → Prop} {j : Nat} (hC : Ct MX11_condition h [vR 11 j] S Q') (k : ∀ (r : Option AV) (S' : ST), Q' r S' → V MX11_singleCondition (h + 1) 98 L (r.toList ++ st) S' Q) (hj : j < NI 11) (hw : wid st ≤ 8) : V MX11_singleCondition (h + 1) 95 L (vR 11 j :: st) S Q :=
  v_callV (M' := MX11_condition) (c := 11) (As := []) dX11_singleCondition_95 ml_X11_210 im_X11_condition se_X11_condition in_X11 cd_X11_condition rfl LY_11 np_X11_condition (by decide) hw hj hC k
theorem b_X11_singleCondition_98 {h : Nat} {L : LVs} {st : List AV} {S : ST} {Q : Option AV → ST → Prop} (k : V MX11_singleCondition h 102 L st S Q) : V MX11_singleCondition h 98 L st S Q :=
  v_goto dX11_singleCondition_98 (by decide) k
theorem b_X11_singleCondition_101 {h : Nat} {L : LVs} {st : List AV} {S : ST} {Q : Option AV → ST → Prop} (k : o_c L st S (fun L st S => V MX11_singleCondition h 102 L st S Q) (nI 0)) : V MX11_singleCondition h 101 L st S Q :=
  v_iconst dX11_singleCondition_101 (by decide) (fun L st S k => k) k
theorem b_X11_singleCondition_102 {h : Nat} {L : LVs} {st : List AV} {S : ST} {Q : Option AV → ST → Prop} (k : o_is L st S (fun L st S => o_al L st S (fun L st S => o_c L st S (fun L st S => V MX11_singleCondition h 106 L st S Q) (nI 33)) 0) 3) : V MX11_singleCondition h 102 L st S Q :=
  v_istore_n dX11_singleCondition_102 rfl (by decide) (fun L st S k => v_aload_n dX11_singleCondition_103 rfl (fun L st S k => v_bipush dX11_singleCondition_104 (by decide) (fun L st S k => k) k) k) k
theorem k_X11_singleCondition_106 {h : Nat} {L : LVs} {st : List AV} {S : ST} {Q Q' : Option AV → ST → Prop} {j : Nat} {a0 : AV} (hC : Ct MX11_take h [vR 11 j, a0] S Q') (k : ∀ (r : Option AV) (S' : ST), Q' r S' → V MX11_singleCondition (h + 1) 109 L (r.toList ++ st) S' Q) (hj : j < NI 11) (hw : wid st ≤ 8) : V MX11_singleCondition (h + 1) 106 L (a0 :: vR 11 j :: st) S Q :=
  v_callV (M' := MX11_take) (c := 11) (As := [a0]) dX11_singleCondition_106 ml_X11_181 im_X11_take se_X11_take in_X11 cd_X11_take rfl LY_11 np_X11_take (by decide) hw hj hC k
theorem b_X11_singleCondition_109 {h : Nat} {L : LVs} {st : List AV} {S : ST} {Q : Option AV → ST → Prop} (k : o_ls L st S (fun L st S => o_al L st S (fun L st S => o_dup L st S (fun L st S => o_get L st S (fun L st S => o_c L st S (fun L st S => o_isub L st S (fun L st S => o_puti L st S (fun L st S => o_il L st S (fun L st S => t_ir st S Q) 3) 11 7)) (nI 1)) 11 7 (0, 0, 0))) 0) 1) : V MX11_singleCondition h 109 L st S Q :=
  v_lstore_n dX11_singleCondition_109 rfl (by decide) (fun L st S k => v_aload_n dX11_singleCondition_110 rfl (fun L st S k => v_dup dX11_singleCondition_111 (fun L st S k => v_get dX11_singleCondition_112 rfl iX11 LY_11 rfl (by decide) rfl fl_X11_178 (fun L st S k => v_iconst dX11_singleCondition_115 (by decide) (fun L st S k => v_isub dX11_singleCondition_116 (fun L st S k => v_puti dX11_singleCondition_117 rfl iX11 tyX11_ok nmX11 LY_11 rfl (by decide) rfl fl_X11_178 rfl rfl (fun L st S k => v_iload_n dX11_singleCondition_120 rfl (fun L st S k => w_ir dX11_singleCondition_121 rfl k) k) k) k) k) k) k) k) k
theorem b_X11_singleCondition_122 {h : Nat} {L : LVs} {st : List AV} {S : ST} {Q : Option AV → ST → Prop} (k : o_al L st S (fun L st S => V MX11_singleCondition h 123 L st S Q) 0) : V MX11_singleCondition h 122 L st S Q :=
  v_aload_n dX11_singleCondition_122 rfl (fun L st S k => k) k
theorem k_X11_singleCondition_123 {h : Nat} {L : LVs} {st : List AV} {S : ST} {Q Q' : Option AV → ST → Prop} {j : Nat} (hC : Ct MX11_expression h [vR 11 j] S Q') (k : ∀ (r : Option AV) (S' : ST), Q' r S' → V MX11_singleCondition (h + 1) 126 L (r.toList ++ st) S' Q) (hj : j < NI 11) (hw : wid st ≤ 8) : V MX11_singleCondition (h + 1) 123 L (vR 11 j :: st) S Q :=
  v_callV (M' := MX11_expression) (c := 11) (As := []) dX11_singleCondition_123 ml_X11_198 im_X11_expression se_X11_expression in_X11 cd_X11_expression rfl LY_11 np_X11_expression (by decide) hw hj hC k
theorem b_X11_singleCondition_126 {h : Nat} {L : LVs} {st : List AV} {S : ST} {Q : Option AV → ST → Prop} (k : o_is L st S (fun L st S => o_al L st S (fun L st S => o_c L st S (fun L st S => V MX11_singleCondition h 130 L st S Q) (nI 14)) 0) 1) : V MX11_singleCondition h 126 L st S Q :=
  v_istore_n dX11_singleCondition_126 rfl (by decide) (fun L st S k => v_aload_n dX11_singleCondition_127 rfl (fun L st S k => v_bipush dX11_singleCondition_128 (by decide) (fun L st S k => k) k) k) k
theorem k_X11_singleCondition_130 {h : Nat} {L : LVs} {st : List AV} {S : ST} {Q Q' : Option AV → ST → Prop} {j : Nat} {a0 : AV} (hC : Ct MX11_is h [vR 11 j, a0] S Q') (k : ∀ (r : Option AV) (S' : ST), Q' r S' → V MX11_singleCondition (h + 1) 133 L (r.toList ++ st) S' Q) (hj : j < NI 11) (hw : wid st ≤ 8) : V MX11_singleCondition (h + 1) 130 L (a0 :: vR 11 j :: st) S Q :=
  v_callV (M' := MX11_is) (c := 11) (As := [a0]) dX11_singleCondition_130 ml_X11_189 im_X11_is se_X11_is in_X11 cd_X11_is rfl LY_11 np_X11_is (by decide) hw hj hC k
theorem b_X11_singleCondition_133 {h : Nat} {L : LVs} {st : List AV} {S : ST} {Q : Option AV → ST → Prop} (k : t_1 L st S (fun x => x = nI 0) (fun L st S => V MX11_singleCondition h 174 L st S Q) (fun L st S => V MX11_singleCondition h 136 L st S Q)) : V MX11_singleCondition h 133 L st S Q :=
  w_if_eq dX11_singleCondition_133 (by decide) rfl k
theorem b_X11_singleCondition_136 {h : Nat} {L : LVs} {st : List AV} {S : ST} {Q : Option AV → ST → Prop} (k : o_al L st S (fun L st S => o_dup L st S (fun L st S => o_get L st S (fun L st S => o_c L st S (fun L st S => o_iadd L st S (fun L st S => o_puti L st S (fun L st S => o_al L st S (fun L st S => o_c L st S (fun L st S => V MX11_singleCondition h 149 L st S Q) (nI 13)) 0) 11 5)) (nI 1)) 11 5 (0, 0, 0))) 0) : V MX11_singleCondition h 136 L st S Q :=
  v_aload_n dX11_singleCondition_136 rfl (fun L st S k => v_dup dX11_singleCondition_137 (fun L st S k => v_get dX11_singleCondition_138 rfl iX11 LY_11 rfl (by decide) rfl fl_X11_172 (fun L st S k => v_iconst dX11_singleCondition_141 (by decide) (fun L st S k => v_iadd dX11_singleCondition_142 (fun L st S k => v_puti dX11_singleCondition_143 rfl iX11 tyX11_ok nmX11 LY_11 rfl (by decide) rfl fl_X11_172 rfl rfl (fun L st S k => v_aload_n dX11_singleCondition_146 rfl (fun L st S k => v_bipush dX11_singleCondition_147 (by decide) (fun L st S k => k) k) k) k) k) k) k) k) k
theorem k_X11_singleCondition_149 {h : Nat} {L : LVs} {st : List AV} {S : ST} {Q Q' : Option AV → ST → Prop} {j : Nat} {a0 : AV} (hC : Ct MX11_take h [vR 11 j, a0] S Q') (k : ∀ (r : Option AV) (S' : ST), Q' r S' → V MX11_singleCondition (h + 1) 152 L (r.toList ++ st) S' Q) (hj : j < NI 11) (hw : wid st ≤ 8) : V MX11_singleCondition (h + 1) 149 L (a0 :: vR 11 j :: st) S Q :=
  v_callV (M' := MX11_take) (c := 11) (As := [a0]) dX11_singleCondition_149 ml_X11_181 im_X11_take se_X11_take in_X11 cd_X11_take rfl LY_11 np_X11_take (by decide) hw hj hC k
theorem b_X11_singleCondition_152 {h : Nat} {L : LVs} {st : List AV} {S : ST} {Q : Option AV → ST → Prop} (k : o_ls L st S (fun L st S => o_al L st S (fun L st S => o_get L st S (fun L st S => t_1 L st S (fun x => nI 0 ≤ x) (fun L st S => V MX11_singleCondition h 172 L st S Q) (fun L st S => V MX11_singleCondition h 160 L st S Q)) 11 6 (0, 0, 0)) 0) 2) : V MX11_singleCondition h 152 L st S Q :=
  v_lstore_n dX11_singleCondition_152 rfl (by decide) (fun L st S k => v_aload_n dX11_singleCondition_153 rfl (fun L st S k => v_get dX11_singleCondition_154 rfl iX11 LY_11 rfl (by decide) rfl fl_X11_169 (fun L st S k => w_if_ge dX11_singleCondition_157 (by decide) rfl k) k) k) k
theorem b_X11_singleCondition_160 {h : Nat} {L : LVs} {st : List AV} {S : ST} {Q : Option AV → ST → Prop} (k : o_al L st S (fun L st S => o_c L st S (fun L st S => o_il L st S (fun L st S => o_c L st S (fun L st S => o_lc L st S (fun L st S => V MX11_singleCondition h 166 L st S Q) (lN 0)) (-1)) 1) (nI 14)) 0) : V MX11_singleCondition h 160 L st S Q :=
  v_aload_n dX11_singleCondition_160 rfl (fun L st S k => v_bipush dX11_singleCondition_161 (by decide) (fun L st S k => v_iload_n dX11_singleCondition_163 rfl (fun L st S k => v_iconst dX11_singleCondition_164 (by decide) (fun L st S k => v_lconst dX11_singleCondition_165 (by decide) (fun L st S k => k) k) k) k) k) k
theorem k_X11_singleCondition_166 {h : Nat} {L : LVs} {st : List AV} {S : ST} {Q Q' : Option AV → ST → Prop} {j : Nat} {a0 a1 a2 a3 : AV} (hC : Ct MX11_knot h [vR 11 j, a0, a1, a2, a3] S Q') (k : ∀ (r : Option AV) (S' : ST), Q' r S' → V MX11_singleCondition (h + 1) 169 L (r.toList ++ st) S' Q) (hj : j < NI 11) (hw : wid st ≤ 8) : V MX11_singleCondition (h + 1) 166 L (a3 :: a2 :: a1 :: a0 :: vR 11 j :: st) S Q :=
  v_callV (M' := MX11_knot) (c := 11) (As := [a0, a1, a2, a3]) dX11_singleCondition_166 ml_X11_185 im_X11_knot se_X11_knot in_X11 cd_X11_knot rfl LY_11 np_X11_knot (by decide) hw hj hC k
theorem b_X11_singleCondition_169 {h : Nat} {L : LVs} {st : List AV} {S : ST} {Q : Option AV → ST → Prop} (k : V MX11_singleCondition h 173 L st S Q) : V MX11_singleCondition h 169 L st S Q :=
  v_goto dX11_singleCondition_169 (by decide) k
theorem b_X11_singleCondition_172 {h : Nat} {L : LVs} {st : List AV} {S : ST} {Q : Option AV → ST → Prop} (k : o_c L st S (fun L st S => V MX11_singleCondition h 173 L st S Q) (nI 0)) : V MX11_singleCondition h 172 L st S Q :=
  v_iconst dX11_singleCondition_172 (by decide) (fun L st S k => k) k
theorem b_X11_singleCondition_173 {h : Nat} {L : LVs} {st : List AV} {S : ST} {Q : Option AV → ST → Prop} (k : t_ir st S Q) : V MX11_singleCondition h 173 L st S Q :=
  w_ir dX11_singleCondition_173 rfl k
theorem b_X11_singleCondition_174 {h : Nat} {L : LVs} {st : List AV} {S : ST} {Q : Option AV → ST → Prop} (k : o_al L st S (fun L st S => o_get L st S (fun L st S => o_al L st S (fun L st S => o_get L st S (fun L st S => o_iald L st S (fun L st S => o_is L st S (fun L st S => o_al L st S (fun L st S => o_get L st S (fun L st S => t_1 L st S (fun x => nI 0 ≤ x) (fun L st S => V MX11_singleCondition h 203 L st S Q) (fun L st S => V MX11_singleCondition h 191 L st S Q)) 11 6 (0, 0, 0)) 0) 2)) 11 5 (0, 0, 0)) 0) 11 2 (3, 41, 0)) 0) : V MX11_singleCondition h 174 L st S Q :=
  v_aload_n dX11_singleCondition_174 rfl (fun L st S k => v_get dX11_singleCondition_175 rfl iX11 LY_11 rfl (by decide) rfl fl_X11_13 (fun L st S k => v_aload_n dX11_singleCondition_178 rfl (fun L st S k => v_get dX11_singleCondition_179 rfl iX11 LY_11 rfl (by decide) rfl fl_X11_172 (fun L st S k => v_iaload dX11_singleCondition_182 (fun L st S k => v_istore_n dX11_singleCondition_183 rfl (by decide) (fun L st S k => v_aload_n dX11_singleCondition_184 rfl (fun L st S k => v_get dX11_singleCondition_185 rfl iX11 LY_11 rfl (by decide) rfl fl_X11_169 (fun L st S k => w_if_ge dX11_singleCondition_188 (by decide) rfl k) k) k) k) k) k) k) k) k
theorem b_X11_singleCondition_191 {h : Nat} {L : LVs} {st : List AV} {S : ST} {Q : Option AV → ST → Prop} (k : o_il L st S (fun L st S => o_c L st S (fun L st S => t_2 L st S (fun x y => x < y) (fun L st S => V MX11_singleCondition h 203 L st S Q) (fun L st S => V MX11_singleCondition h 197 L st S Q)) (nI 40)) 2) : V MX11_singleCondition h 191 L st S Q :=
  v_iload_n dX11_singleCondition_191 rfl (fun L st S k => v_bipush dX11_singleCondition_192 (by decide) (fun L st S k => w_icmp_lt dX11_singleCondition_194 (by decide) rfl k) k) k
theorem b_X11_singleCondition_197 {h : Nat} {L : LVs} {st : List AV} {S : ST} {Q : Option AV → ST → Prop} (k : o_il L st S (fun L st S => o_c L st S (fun L st S => t_2 L st S (fun x y => x ≤ y) (fun L st S => V MX11_singleCondition h 227 L st S Q) (fun L st S => V MX11_singleCondition h 203 L st S Q)) (nI 45)) 2) : V MX11_singleCondition h 197 L st S Q :=
  v_iload_n dX11_singleCondition_197 rfl (fun L st S k => v_bipush dX11_singleCondition_198 (by decide) (fun L st S k => w_icmp_le dX11_singleCondition_200 (by decide) rfl k) k) k
theorem b_X11_singleCondition_203 {h : Nat} {L : LVs} {st : List AV} {S : ST} {Q : Option AV → ST → Prop} (k : o_al L st S (fun L st S => o_al L st S (fun L st S => o_get L st S (fun L st S => t_1 L st S (fun x => nI 0 ≤ x) (fun L st S => V MX11_singleCondition h 218 L st S Q) (fun L st S => V MX11_singleCondition h 211 L st S Q)) 11 6 (0, 0, 0)) 0) 0) : V MX11_singleCondition h 203 L st S Q :=
  v_aload_n dX11_singleCondition_203 rfl (fun L st S k => v_aload_n dX11_singleCondition_204 rfl (fun L st S k => v_get dX11_singleCondition_205 rfl iX11 LY_11 rfl (by decide) rfl fl_X11_169 (fun L st S k => w_if_ge dX11_singleCondition_208 (by decide) rfl k) k) k) k
theorem b_X11_singleCondition_211 {h : Nat} {L : LVs} {st : List AV} {S : ST} {Q : Option AV → ST → Prop} (k : o_al L st S (fun L st S => o_get L st S (fun L st S => V MX11_singleCondition h 222 L st S Q) 11 5 (0, 0, 0)) 0) : V MX11_singleCondition h 211 L st S Q :=
  v_aload_n dX11_singleCondition_211 rfl (fun L st S k => v_get dX11_singleCondition_212 rfl iX11 LY_11 rfl (by decide) rfl fl_X11_172 (fun L st S k => v_goto dX11_singleCondition_215 (by decide) k) k) k
theorem b_X11_singleCondition_218 {h : Nat} {L : LVs} {st : List AV} {S : ST} {Q : Option AV → ST → Prop} (k : o_al L st S (fun L st S => o_get L st S (fun L st S => V MX11_singleCondition h 222 L st S Q) 11 6 (0, 0, 0)) 0) : V MX11_singleCondition h 218 L st S Q :=
  v_aload_n dX11_singleCondition_218 rfl (fun L st S k => v_get dX11_singleCondition_219 rfl iX11 LY_11 rfl (by decide) rfl fl_X11_169 (fun L st S k => k) k) k
theorem b_X11_singleCondition_222 {h : Nat} {L : LVs} {st : List AV} {S : ST} {Q : Option AV → ST → Prop} (k : o_puti L st S (fun L st S => o_c L st S (fun L st S => t_ir st S Q) (nI 0)) 11 6) : V MX11_singleCondition h 222 L st S Q :=
  v_puti dX11_singleCondition_222 rfl iX11 tyX11_ok nmX11 LY_11 rfl (by decide) rfl fl_X11_169 rfl rfl (fun L st S k => v_iconst dX11_singleCondition_225 (by decide) (fun L st S k => w_ir dX11_singleCondition_226 rfl k) k) k
theorem b_X11_singleCondition_227 {h : Nat} {L : LVs} {st : List AV} {S : ST} {Q : Option AV → ST → Prop} (k : o_al L st S (fun L st S => o_dup L st S (fun L st S => o_get L st S (fun L st S => o_c L st S (fun L st S => o_iadd L st S (fun L st S => o_puti L st S (fun L st S => o_al L st S (fun L st S => V MX11_singleCondition h 238 L st S Q) 0) 11 5)) (nI 1)) 11 5 (0, 0, 0))) 0) : V MX11_singleCondition h 227 L st S Q :=
  v_aload_n dX11_singleCondition_227 rfl (fun L st S k => v_dup dX11_singleCondition_228 (fun L st S k => v_get dX11_singleCondition_229 rfl iX11 LY_11 rfl (by decide) rfl fl_X11_172 (fun L st S k => v_iconst dX11_singleCondition_232 (by decide) (fun L st S k => v_iadd dX11_singleCondition_233 (fun L st S k => v_puti dX11_singleCondition_234 rfl iX11 tyX11_ok nmX11 LY_11 rfl (by decide) rfl fl_X11_172 rfl rfl (fun L st S k => v_aload_n dX11_singleCondition_237 rfl (fun L st S k => k) k) k) k) k) k) k) k
theorem k_X11_singleCondition_238 {h : Nat} {L : LVs} {st : List AV} {S : ST} {Q Q' : Option AV → ST → Prop} {j : Nat} (hC : Ct MX11_expression h [vR 11 j] S Q') (k : ∀ (r : Option AV) (S' : ST), Q' r S' → V MX11_singleCondition (h + 1) 241 L (r.toList ++ st) S' Q) (hj : j < NI 11) (hw : wid st ≤ 8) : V MX11_singleCondition (h + 1) 238 L (vR 11 j :: st) S Q :=
  v_callV (M' := MX11_expression) (c := 11) (As := []) dX11_singleCondition_238 ml_X11_198 im_X11_expression se_X11_expression in_X11 cd_X11_expression rfl LY_11 np_X11_expression (by decide) hw hj hC k
theorem b_X11_singleCondition_241 {h : Nat} {L : LVs} {st : List AV} {S : ST} {Q : Option AV → ST → Prop} (k : o_is L st S (fun L st S => o_al L st S (fun L st S => o_get L st S (fun L st S => t_1 L st S (fun x => nI 0 ≤ x) (fun L st S => V MX11_singleCondition h 260 L st S Q) (fun L st S => V MX11_singleCondition h 249 L st S Q)) 11 6 (0, 0, 0)) 0) 3) : V MX11_singleCondition h 241 L st S Q :=
  v_istore_n dX11_singleCondition_241 rfl (by decide) (fun L st S k => v_aload_n dX11_singleCondition_242 rfl (fun L st S k => v_get dX11_singleCondition_243 rfl iX11 LY_11 rfl (by decide) rfl fl_X11_169 (fun L st S k => w_if_ge dX11_singleCondition_246 (by decide) rfl k) k) k) k
theorem b_X11_singleCondition_249 {h : Nat} {L : LVs} {st : List AV} {S : ST} {Q : Option AV → ST → Prop} (k : o_al L st S (fun L st S => o_il L st S (fun L st S => o_il L st S (fun L st S => o_il L st S (fun L st S => o_lc L st S (fun L st S => V MX11_singleCondition h 254 L st S Q) (lN 0)) 3) 1) 2) 0) : V MX11_singleCondition h 249 L st S Q :=
  v_aload_n dX11_singleCondition_249 rfl (fun L st S k => v_iload_n dX11_singleCondition_250 rfl (fun L st S k => v_iload_n dX11_singleCondition_251 rfl (fun L st S k => v_iload_n dX11_singleCondition_252 rfl (fun L st S k => v_lconst dX11_singleCondition_253 (by decide) (fun L st S k => k) k) k) k) k) k
theorem k_X11_singleCondition_254 {h : Nat} {L : LVs} {st : List AV} {S : ST} {Q Q' : Option AV → ST → Prop} {j : Nat} {a0 a1 a2 a3 : AV} (hC : Ct MX11_knot h [vR 11 j, a0, a1, a2, a3] S Q') (k : ∀ (r : Option AV) (S' : ST), Q' r S' → V MX11_singleCondition (h + 1) 257 L (r.toList ++ st) S' Q) (hj : j < NI 11) (hw : wid st ≤ 8) : V MX11_singleCondition (h + 1) 254 L (a3 :: a2 :: a1 :: a0 :: vR 11 j :: st) S Q :=
  v_callV (M' := MX11_knot) (c := 11) (As := [a0, a1, a2, a3]) dX11_singleCondition_254 ml_X11_185 im_X11_knot se_X11_knot in_X11 cd_X11_knot rfl LY_11 np_X11_knot (by decide) hw hj hC k
theorem b_X11_singleCondition_257 {h : Nat} {L : LVs} {st : List AV} {S : ST} {Q : Option AV → ST → Prop} (k : V MX11_singleCondition h 261 L st S Q) : V MX11_singleCondition h 257 L st S Q :=
  v_goto dX11_singleCondition_257 (by decide) k
theorem b_X11_singleCondition_260 {h : Nat} {L : LVs} {st : List AV} {S : ST} {Q : Option AV → ST → Prop} (k : o_c L st S (fun L st S => V MX11_singleCondition h 261 L st S Q) (nI 0)) : V MX11_singleCondition h 260 L st S Q :=
  v_iconst dX11_singleCondition_260 (by decide) (fun L st S k => k) k
theorem b_X11_singleCondition_261 {h : Nat} {L : LVs} {st : List AV} {S : ST} {Q : Option AV → ST → Prop} (k : t_ir st S Q) : V MX11_singleCondition h 261 L st S Q :=
  w_ir dX11_singleCondition_261 rfl k
-- QueryForgeModel.both()I
theorem dX11_both_0 : decode cX11_both 0 = .ok (.aload_n 0, 1) := by decide +kernel
theorem dX11_both_1 : decode cX11_both 1 = .ok (.invokevirtual 207, 3) := by decide +kernel
theorem dX11_both_4 : decode cX11_both 4 = .ok (.istore_n 1, 1) := by decide +kernel
theorem dX11_both_5 : decode cX11_both 5 = .ok (.aload_n 0, 1) := by decide +kernel
theorem dX11_both_6 : decode cX11_both 6 = .ok (.bipush 15, 2) := by decide +kernel
theorem dX11_both_8 : decode cX11_both 8 = .ok (.invokevirtual 189, 3) := by decide +kernel
theorem dX11_both_11 : decode cX11_both 11 = .ok (.ifCond .eq 42, 3) := by decide +kernel
theorem dX11_both_14 : decode cX11_both 14 = .ok (.aload_n 0, 1) := by decide +kernel
theorem dX11_both_15 : decode cX11_both 15 = .ok (.dup, 1) := by decide +kernel
theorem dX11_both_16 : decode cX11_both 16 = .ok (.getfield 172, 3) := by decide +kernel
theorem dX11_both_19 : decode cX11_both 19 = .ok (.iconst 1, 1) := by decide +kernel
theorem dX11_both_20 : decode cX11_both 20 = .ok (.iadd, 1) := by decide +kernel
theorem dX11_both_21 : decode cX11_both 21 = .ok (.putfield 172, 3) := by decide +kernel
theorem dX11_both_24 : decode cX11_both 24 = .ok (.aload_n 0, 1) := by decide +kernel
theorem dX11_both_25 : decode cX11_both 25 = .ok (.invokevirtual 207, 3) := by decide +kernel
theorem dX11_both_28 : decode cX11_both 28 = .ok (.istore_n 2, 1) := by decide +kernel
theorem dX11_both_29 : decode cX11_both 29 = .ok (.aload_n 0, 1) := by decide +kernel
theorem dX11_both_30 : decode cX11_both 30 = .ok (.getfield 169, 3) := by decide +kernel
theorem dX11_both_33 : decode cX11_both 33 = .ok (.ifCond .ge 15, 3) := by decide +kernel
theorem dX11_both_36 : decode cX11_both 36 = .ok (.aload_n 0, 1) := by decide +kernel
theorem dX11_both_37 : decode cX11_both 37 = .ok (.bipush 15, 2) := by decide +kernel
theorem dX11_both_39 : decode cX11_both 39 = .ok (.iload_n 1, 1) := by decide +kernel
theorem dX11_both_40 : decode cX11_both 40 = .ok (.iload_n 2, 1) := by decide +kernel
theorem dX11_both_41 : decode cX11_both 41 = .ok (.lconst 0, 1) := by decide +kernel
theorem dX11_both_42 : decode cX11_both 42 = .ok (.invokevirtual 185, 3) := by decide +kernel
theorem dX11_both_45 : decode cX11_both 45 = .ok (.goto 4, 3) := by decide +kernel
theorem dX11_both_48 : decode cX11_both 48 = .ok (.iconst 0, 1) := by decide +kernel
theorem dX11_both_49 : decode cX11_both 49 = .ok (.istore_n 1, 1) := by decide +kernel
theorem dX11_both_50 : decode cX11_both 50 = .ok (.goto (-45), 3) := by decide +kernel
theorem dX11_both_53 : decode cX11_both 53 = .ok (.iload_n 1, 1) := by decide +kernel
theorem dX11_both_54 : decode cX11_both 54 = .ok (.ireturn, 1) := by decide +kernel
theorem b_X11_both_0 {h : Nat} {L : LVs} {st : List AV} {S : ST} {Q : Option AV → ST → Prop} (k : o_al L st S (fun L st S => V MX11_both h 1 L st S Q) 0) : V MX11_both h 0 L st S Q :=
  v_aload_n dX11_both_0 rfl (fun L st S k => k) k
theorem k_X11_both_1 {h : Nat} {L : LVs} {st : List AV} {S : ST} {Q Q' : Option AV → ST → Prop} {j : Nat} (hC : Ct MX11_singleCondition h [vR 11 j] S Q') (k : ∀ (r : Option AV) (S' : ST), Q' r S' → V MX11_both (h + 1) 4 L (r.toList ++ st) S' Q) (hj : j < NI 11) (hw : wid st ≤ 8) : V MX11_both (h + 1) 1 L (vR 11 j :: st) S Q :=
  v_callV (M' := MX11_singleCondition) (c := 11) (As := []) dX11_both_1 ml_X11_207 im_X11_singleCondition se_X11_singleCondition in_X11 cd_X11_singleCondition rfl LY_11 np_X11_singleCondition (by decide) hw hj hC k
theorem b_X11_both_4 {h : Nat} {L : LVs} {st : List AV} {S : ST} {Q : Option AV → ST → Prop} (k : o_is L st S (fun L st S => V MX11_both h 5 L st S Q) 1) : V MX11_both h 4 L st S Q :=
  v_istore_n dX11_both_4 rfl (by decide) (fun L st S k => k) k
theorem b_X11_both_5 {h : Nat} {L : LVs} {st : List AV} {S : ST} {Q : Option AV → ST → Prop} (k : o_al L st S (fun L st S => o_c L st S (fun L st S => V MX11_both h 8 L st S Q) (nI 15)) 0) : V MX11_both h 5 L st S Q :=
  v_aload_n dX11_both_5 rfl (fun L st S k => v_bipush dX11_both_6 (by decide) (fun L st S k => k) k) k
theorem k_X11_both_8 {h : Nat} {L : LVs} {st : List AV} {S : ST} {Q Q' : Option AV → ST → Prop} {j : Nat} {a0 : AV} (hC : Ct MX11_is h [vR 11 j, a0] S Q') (k : ∀ (r : Option AV) (S' : ST), Q' r S' → V MX11_both (h + 1) 11 L (r.toList ++ st) S' Q) (hj : j < NI 11) (hw : wid st ≤ 8) : V MX11_both (h + 1) 8 L (a0 :: vR 11 j :: st) S Q :=
  v_callV (M' := MX11_is) (c := 11) (As := [a0]) dX11_both_8 ml_X11_189 im_X11_is se_X11_is in_X11 cd_X11_is rfl LY_11 np_X11_is (by decide) hw hj hC k
theorem b_X11_both_11 {h : Nat} {L : LVs} {st : List AV} {S : ST} {Q : Option AV → ST → Prop} (k : t_1 L st S (fun x => x = nI 0) (fun L st S => V MX11_both h 53 L st S Q) (fun L st S => V MX11_both h 14 L st S Q)) : V MX11_both h 11 L st S Q :=
  w_if_eq dX11_both_11 (by decide) rfl k
theorem b_X11_both_14 {h : Nat} {L : LVs} {st : List AV} {S : ST} {Q : Option AV → ST → Prop} (k : o_al L st S (fun L st S => o_dup L st S (fun L st S => o_get L st S (fun L st S => o_c L st S (fun L st S => o_iadd L st S (fun L st S => o_puti L st S (fun L st S => o_al L st S (fun L st S => V MX11_both h 25 L st S Q) 0) 11 5)) (nI 1)) 11 5 (0, 0, 0))) 0) : V MX11_both h 14 L st S Q :=
  v_aload_n dX11_both_14 rfl (fun L st S k => v_dup dX11_both_15 (fun L st S k => v_get dX11_both_16 rfl iX11 LY_11 rfl (by decide) rfl fl_X11_172 (fun L st S k => v_iconst dX11_both_19 (by decide) (fun L st S k => v_iadd dX11_both_20 (fun L st S k => v_puti dX11_both_21 rfl iX11 tyX11_ok nmX11 LY_11 rfl (by decide) rfl fl_X11_172 rfl rfl (fun L st S k => v_aload_n dX11_both_24 rfl (fun L st S k => k) k) k) k) k) k) k) k
theorem k_X11_both_25 {h : Nat} {L : LVs} {st : List AV} {S : ST} {Q Q' : Option AV → ST → Prop} {j : Nat} (hC : Ct MX11_singleCondition h [vR 11 j] S Q') (k : ∀ (r : Option AV) (S' : ST), Q' r S' → V MX11_both (h + 1) 28 L (r.toList ++ st) S' Q) (hj : j < NI 11) (hw : wid st ≤ 8) : V MX11_both (h + 1) 25 L (vR 11 j :: st) S Q :=
  v_callV (M' := MX11_singleCondition) (c := 11) (As := []) dX11_both_25 ml_X11_207 im_X11_singleCondition se_X11_singleCondition in_X11 cd_X11_singleCondition rfl LY_11 np_X11_singleCondition (by decide) hw hj hC k
theorem b_X11_both_28 {h : Nat} {L : LVs} {st : List AV} {S : ST} {Q : Option AV → ST → Prop} (k : o_is L st S (fun L st S => o_al L st S (fun L st S => o_get L st S (fun L st S => t_1 L st S (fun x => nI 0 ≤ x) (fun L st S => V MX11_both h 48 L st S Q) (fun L st S => V MX11_both h 36 L st S Q)) 11 6 (0, 0, 0)) 0) 2) : V MX11_both h 28 L st S Q :=
  v_istore_n dX11_both_28 rfl (by decide) (fun L st S k => v_aload_n dX11_both_29 rfl (fun L st S k => v_get dX11_both_30 rfl iX11 LY_11 rfl (by decide) rfl fl_X11_169 (fun L st S k => w_if_ge dX11_both_33 (by decide) rfl k) k) k) k
theorem b_X11_both_36 {h : Nat} {L : LVs} {st : List AV} {S : ST} {Q : Option AV → ST → Prop} (k : o_al L st S (fun L st S => o_c L st S (fun L st S => o_il L st S (fun L st S => o_il L st S (fun L st S => o_lc L st S (fun L st S => V MX11_both h 42 L st S Q) (lN 0)) 2) 1) (nI 15)) 0) : V MX11_both h 36 L st S Q :=
  v_aload_n dX11_both_36 rfl (fun L st S k => v_bipush dX11_both_37 (by decide) (fun L st S k => v_iload_n dX11_both_39 rfl (fun L st S k => v_iload_n dX11_both_40 rfl (fun L st S k => v_lconst dX11_both_41 (by decide) (fun L st S k => k) k) k) k) k) k
theorem k_X11_both_42 {h : Nat} {L : LVs} {st : List AV} {S : ST} {Q Q' : Option AV → ST → Prop} {j : Nat} {a0 a1 a2 a3 : AV} (hC : Ct MX11_knot h [vR 11 j, a0, a1, a2, a3] S Q') (k : ∀ (r : Option AV) (S' : ST), Q' r S' → V MX11_both (h + 1) 45 L (r.toList ++ st) S' Q) (hj : j < NI 11) (hw : wid st ≤ 8) : V MX11_both (h + 1) 42 L (a3 :: a2 :: a1 :: a0 :: vR 11 j :: st) S Q :=
  v_callV (M' := MX11_knot) (c := 11) (As := [a0, a1, a2, a3]) dX11_both_42 ml_X11_185 im_X11_knot se_X11_knot in_X11 cd_X11_knot rfl LY_11 np_X11_knot (by decide) hw hj hC k
theorem b_X11_both_45 {h : Nat} {L : LVs} {st : List AV} {S : ST} {Q : Option AV → ST → Prop} (k : V MX11_both h 49 L st S Q) : V MX11_both h 45 L st S Q :=
  v_goto dX11_both_45 (by decide) k
theorem b_X11_both_48 {h : Nat} {L : LVs} {st : List AV} {S : ST} {Q : Option AV → ST → Prop} (k : o_c L st S (fun L st S => V MX11_both h 49 L st S Q) (nI 0)) : V MX11_both h 48 L st S Q :=
  v_iconst dX11_both_48 (by decide) (fun L st S k => k) k
theorem b_X11_both_49 {h : Nat} {L : LVs} {st : List AV} {S : ST} {Q : Option AV → ST → Prop} (k : o_is L st S (fun L st S => V MX11_both h 5 L st S Q) 1) : V MX11_both h 49 L st S Q :=
  v_istore_n dX11_both_49 rfl (by decide) (fun L st S k => v_goto dX11_both_50 (by decide) k) k
theorem b_X11_both_53 {h : Nat} {L : LVs} {st : List AV} {S : ST} {Q : Option AV → ST → Prop} (k : o_il L st S (fun L st S => t_ir st S Q) 1) : V MX11_both h 53 L st S Q :=
  v_iload_n dX11_both_53 rfl (fun L st S k => w_ir dX11_both_54 rfl k) k
-- QueryForgeModel.condition()I
theorem dX11_condition_0 : decode cX11_condition 0 = .ok (.aload_n 0, 1) := by decide +kernel
theorem dX11_condition_1 : decode cX11_condition 1 = .ok (.invokevirtual 213, 3) := by decide +kernel
theorem dX11_condition_4 : decode cX11_condition 4 = .ok (.istore_n 1, 1) := by decide +kernel
theorem dX11_condition_5 : decode cX11_condition 5 = .ok (.aload_n 0, 1) := by decide +kernel
theorem dX11_condition_6 : decode cX11_condition 6 = .ok (.bipush 16, 2) := by decide +kernel
theorem dX11_condition_8 : decode cX11_condition 8 = .ok (.invokevirtual 189, 3) := by decide +kernel
theorem dX11_condition_11 : decode cX11_condition 11 = .ok (.ifCond .eq 42, 3) := by decide +kernel
theorem dX11_condition_14 : decode cX11_condition 14 = .ok (.aload_n 0, 1) := by decide +kernel
theorem dX11_condition_15 : decode cX11_condition 15 = .ok (.dup, 1) := by decide +kernel
theorem dX11_condition_16 : decode cX11_condition 16 = .ok (.getfield 172, 3) := by decide +kernel
theorem dX11_condition_19 : decode cX11_condition 19 = .ok (.iconst 1, 1) := by decide +kernel
theorem dX11_condition_20 : decode cX11_condition 20 = .ok (.iadd, 1) := by decide +kernel
theorem dX11_condition_21 : decode cX11_condition 21 = .ok (.putfield 172, 3) := by decide +kernel
theorem dX11_condition_24 : decode cX11_condition 24 = .ok (.aload_n 0, 1) := by decide +kernel
theorem dX11_condition_25 : decode cX11_condition 25 = .ok (.invokevirtual 213, 3) := by decide +kernel
theorem dX11_condition_28 : decode cX11_condition 28 = .ok (.istore_n 2, 1) := by decide +kernel
theorem dX11_condition_29 : decode cX11_condition 29 = .ok (.aload_n 0, 1) := by decide +kernel
theorem dX11_condition_30 : decode cX11_condition 30 = .ok (.getfield 169, 3) := by decide +kernel
theorem dX11_condition_33 : decode cX11_condition 33 = .ok (.ifCond .ge 15, 3) := by decide +kernel
theorem dX11_condition_36 : decode cX11_condition 36 = .ok (.aload_n 0, 1) := by decide +kernel
theorem dX11_condition_37 : decode cX11_condition 37 = .ok (.bipush 16, 2) := by decide +kernel
theorem dX11_condition_39 : decode cX11_condition 39 = .ok (.iload_n 1, 1) := by decide +kernel
theorem dX11_condition_40 : decode cX11_condition 40 = .ok (.iload_n 2, 1) := by decide +kernel
theorem dX11_condition_41 : decode cX11_condition 41 = .ok (.lconst 0, 1) := by decide +kernel
theorem dX11_condition_42 : decode cX11_condition 42 = .ok (.invokevirtual 185, 3) := by decide +kernel
theorem dX11_condition_45 : decode cX11_condition 45 = .ok (.goto 4, 3) := by decide +kernel
theorem dX11_condition_48 : decode cX11_condition 48 = .ok (.iconst 0, 1) := by decide +kernel
theorem dX11_condition_49 : decode cX11_condition 49 = .ok (.istore_n 1, 1) := by decide +kernel
theorem dX11_condition_50 : decode cX11_condition 50 = .ok (.goto (-45), 3) := by decide +kernel
theorem dX11_condition_53 : decode cX11_condition 53 = .ok (.iload_n 1, 1) := by decide +kernel
theorem dX11_condition_54 : decode cX11_condition 54 = .ok (.ireturn, 1) := by decide +kernel
theorem b_X11_condition_0 {h : Nat} {L : LVs} {st : List AV} {S : ST} {Q : Option AV → ST → Prop} (k : o_al L st S (fun L st S => V MX11_condition h 1 L st S Q) 0) : V MX11_condition h 0 L st S Q :=
  v_aload_n dX11_condition_0 rfl (fun L st S k => k) k
theorem k_X11_condition_1 {h : Nat} {L : LVs} {st : List AV} {S : ST} {Q Q' : Option AV → ST → Prop} {j : Nat} (hC : Ct MX11_both h [vR 11 j] S Q') (k : ∀ (r : Option AV) (S' : ST), Q' r S' → V MX11_condition (h + 1) 4 L (r.toList ++ st) S' Q) (hj : j < NI 11) (hw : wid st ≤ 8) : V MX11_condition (h + 1) 1 L (vR 11 j :: st) S Q :=
  v_callV (M' := MX11_both) (c := 11) (As := []) dX11_condition_1 ml_X11_213 im_X11_both se_X11_both in_X11 cd_X11_both rfl LY_11 np_X11_both (by decide) hw hj hC k
theorem b_X11_condition_4 {h : Nat} {L : LVs} {st : List AV} {S : ST} {Q : Option AV → ST → Prop} (k : o_is L st S (fun L st S => V MX11_condition h 5 L st S Q) 1) : V MX11_condition h 4 L st S Q :=
  v_istore_n dX11_condition_4 rfl (by decide) (fun L st S k => k) k
theorem b_X11_condition_5 {h : Nat} {L : LVs} {st : List AV} {S : ST} {Q : Option AV → ST → Prop} (k : o_al L st S (fun L st S => o_c L st S (fun L st S => V MX11_condition h 8 L st S Q) (nI 16)) 0) : V MX11_condition h 5 L st S Q :=
  v_aload_n dX11_condition_5 rfl (fun L st S k => v_bipush dX11_condition_6 (by decide) (fun L st S k => k) k) k
theorem k_X11_condition_8 {h : Nat} {L : LVs} {st : List AV} {S : ST} {Q Q' : Option AV → ST → Prop} {j : Nat} {a0 : AV} (hC : Ct MX11_is h [vR 11 j, a0] S Q') (k : ∀ (r : Option AV) (S' : ST), Q' r S' → V MX11_condition (h + 1) 11 L (r.toList ++ st) S' Q) (hj : j < NI 11) (hw : wid st ≤ 8) : V MX11_condition (h + 1) 8 L (a0 :: vR 11 j :: st) S Q :=
  v_callV (M' := MX11_is) (c := 11) (As := [a0]) dX11_condition_8 ml_X11_189 im_X11_is se_X11_is in_X11 cd_X11_is rfl LY_11 np_X11_is (by decide) hw hj hC k
theorem b_X11_condition_11 {h : Nat} {L : LVs} {st : List AV} {S : ST} {Q : Option AV → ST → Prop} (k : t_1 L st S (fun x => x = nI 0) (fun L st S => V MX11_condition h 53 L st S Q) (fun L st S => V MX11_condition h 14 L st S Q)) : V MX11_condition h 11 L st S Q :=
  w_if_eq dX11_condition_11 (by decide) rfl k
theorem b_X11_condition_14 {h : Nat} {L : LVs} {st : List AV} {S : ST} {Q : Option AV → ST → Prop} (k : o_al L st S (fun L st S => o_dup L st S (fun L st S => o_get L st S (fun L st S => o_c L st S (fun L st S => o_iadd L st S (fun L st S => o_puti L st S (fun L st S => o_al L st S (fun L st S => V MX11_condition h 25 L st S Q) 0) 11 5)) (nI 1)) 11 5 (0, 0, 0))) 0) : V MX11_condition h 14 L st S Q :=
  v_aload_n dX11_condition_14 rfl (fun L st S k => v_dup dX11_condition_15 (fun L st S k => v_get dX11_condition_16 rfl iX11 LY_11 rfl (by decide) rfl fl_X11_172 (fun L st S k => v_iconst dX11_condition_19 (by decide) (fun L st S k => v_iadd dX11_condition_20 (fun L st S k => v_puti dX11_condition_21 rfl iX11 tyX11_ok nmX11 LY_11 rfl (by decide) rfl fl_X11_172 rfl rfl (fun L st S k => v_aload_n dX11_condition_24 rfl (fun L st S k => k) k) k) k) k) k) k) k
theorem k_X11_condition_25 {h : Nat} {L : LVs} {st : List AV} {S : ST} {Q Q' : Option AV → ST → Prop} {j : Nat} (hC : Ct MX11_both h [vR 11 j] S Q') (k : ∀ (r : Option AV) (S' : ST), Q' r S' → V MX11_condition (h + 1) 28 L (r.toList ++ st) S' Q) (hj : j < NI 11) (hw : wid st ≤ 8) : V MX11_condition (h + 1) 25 L (vR 11 j :: st) S Q :=
  v_callV (M' := MX11_both) (c := 11) (As := []) dX11_condition_25 ml_X11_213 im_X11_both se_X11_both in_X11 cd_X11_both rfl LY_11 np_X11_both (by decide) hw hj hC k
theorem b_X11_condition_28 {h : Nat} {L : LVs} {st : List AV} {S : ST} {Q : Option AV → ST → Prop} (k : o_is L st S (fun L st S => o_al L st S (fun L st S => o_get L st S (fun L st S => t_1 L st S (fun x => nI 0 ≤ x) (fun L st S => V MX11_condition h 48 L st S Q) (fun L st S => V MX11_condition h 36 L st S Q)) 11 6 (0, 0, 0)) 0) 2) : V MX11_condition h 28 L st S Q :=
  v_istore_n dX11_condition_28 rfl (by decide) (fun L st S k => v_aload_n dX11_condition_29 rfl (fun L st S k => v_get dX11_condition_30 rfl iX11 LY_11 rfl (by decide) rfl fl_X11_169 (fun L st S k => w_if_ge dX11_condition_33 (by decide) rfl k) k) k) k
theorem b_X11_condition_36 {h : Nat} {L : LVs} {st : List AV} {S : ST} {Q : Option AV → ST → Prop} (k : o_al L st S (fun L st S => o_c L st S (fun L st S => o_il L st S (fun L st S => o_il L st S (fun L st S => o_lc L st S (fun L st S => V MX11_condition h 42 L st S Q) (lN 0)) 2) 1) (nI 16)) 0) : V MX11_condition h 36 L st S Q :=
  v_aload_n dX11_condition_36 rfl (fun L st S k => v_bipush dX11_condition_37 (by decide) (fun L st S k => v_iload_n dX11_condition_39 rfl (fun L st S k => v_iload_n dX11_condition_40 rfl (fun L st S k => v_lconst dX11_condition_41 (by decide) (fun L st S k => k) k) k) k) k) k
theorem k_X11_condition_42 {h : Nat} {L : LVs} {st : List AV} {S : ST} {Q Q' : Option AV → ST → Prop} {j : Nat} {a0 a1 a2 a3 : AV} (hC : Ct MX11_knot h [vR 11 j, a0, a1, a2, a3] S Q') (k : ∀ (r : Option AV) (S' : ST), Q' r S' → V MX11_condition (h + 1) 45 L (r.toList ++ st) S' Q) (hj : j < NI 11) (hw : wid st ≤ 8) : V MX11_condition (h + 1) 42 L (a3 :: a2 :: a1 :: a0 :: vR 11 j :: st) S Q :=
  v_callV (M' := MX11_knot) (c := 11) (As := [a0, a1, a2, a3]) dX11_condition_42 ml_X11_185 im_X11_knot se_X11_knot in_X11 cd_X11_knot rfl LY_11 np_X11_knot (by decide) hw hj hC k
theorem b_X11_condition_45 {h : Nat} {L : LVs} {st : List AV} {S : ST} {Q : Option AV → ST → Prop} (k : V MX11_condition h 49 L st S Q) : V MX11_condition h 45 L st S Q :=
  v_goto dX11_condition_45 (by decide) k
theorem b_X11_condition_48 {h : Nat} {L : LVs} {st : List AV} {S : ST} {Q : Option AV → ST → Prop} (k : o_c L st S (fun L st S => V MX11_condition h 49 L st S Q) (nI 0)) : V MX11_condition h 48 L st S Q :=
  v_iconst dX11_condition_48 (by decide) (fun L st S k => k) k
theorem b_X11_condition_49 {h : Nat} {L : LVs} {st : List AV} {S : ST} {Q : Option AV → ST → Prop} (k : o_is L st S (fun L st S => V MX11_condition h 5 L st S Q) 1) : V MX11_condition h 49 L st S Q :=
  v_istore_n dX11_condition_49 rfl (by decide) (fun L st S k => v_goto dX11_condition_50 (by decide) k) k
theorem b_X11_condition_53 {h : Nat} {L : LVs} {st : List AV} {S : ST} {Q : Option AV → ST → Prop} (k : o_il L st S (fun L st S => t_ir st S Q) 1) : V MX11_condition h 53 L st S Q :=
  v_iload_n dX11_condition_53 rfl (fun L st S k => w_ir dX11_condition_54 rfl k) k
-- QueryForgeModel.where()I
theorem dX11_where_0 : decode cX11_where 0 = .ok (.aload_n 0, 1) := by decide +kernel
theorem dX11_where_1 : decode cX11_where 1 = .ok (.bipush 7, 2) := by decide +kernel
theorem dX11_where_3 : decode cX11_where 3 = .ok (.invokevirtual 189, 3) := by decide +kernel
theorem dX11_where_6 : decode cX11_where 6 = .ok (.ifCond .ne 5, 3) := by decide +kernel
theorem dX11_where_9 : decode cX11_where 9 = .ok (.iconst (-1), 1) := by decide +kernel
theorem dX11_where_10 : decode cX11_where 10 = .ok (.ireturn, 1) := by decide +kernel
theorem dX11_where_11 : decode cX11_where 11 = .ok (.aload_n 0, 1) := by decide +kernel
theorem dX11_where_12 : decode cX11_where 12 = .ok (.dup, 1) := by decide +kernel
theorem dX11_where_13 : decode cX11_where 13 = .ok (.getfield 172, 3) := by decide +kernel
theorem dX11_where_16 : decode cX11_where 16 = .ok (.iconst 1, 1) := by decide +kernel
theorem dX11_where_17 : decode cX11_where 17 = .ok (.iadd, 1) := by decide +kernel
theorem dX11_where_18 : decode cX11_where 18 = .ok (.putfield 172, 3) := by decide +kernel
theorem dX11_where_21 : decode cX11_where 21 = .ok (.aload_n 0, 1) := by decide +kernel
theorem dX11_where_22 : decode cX11_where 22 = .ok (.invokevirtual 210, 3) := by decide +kernel
theorem dX11_where_25 : decode cX11_where 25 = .ok (.ireturn, 1) := by decide +kernel
theorem b_X11_where_0 {h : Nat} {L : LVs} {st : List AV} {S : ST} {Q : Option AV → ST → Prop} (k : o_al L st S (fun L st S => o_c L st S (fun L st S => V MX11_where h 3 L st S Q) (nI 7)) 0) : V MX11_where h 0 L st S Q :=
  v_aload_n dX11_where_0 rfl (fun L st S k => v_bipush dX11_where_1 (by decide) (fun L st S k => k) k) k
theorem k_X11_where_3 {h : Nat} {L : LVs} {st : List AV} {S : ST} {Q Q' : Option AV → ST → Prop} {j : Nat} {a0 : AV} (hC : Ct MX11_is h [vR 11 j, a0] S Q') (k : ∀ (r : Option AV) (S' : ST), Q' r S' → V MX11_where (h + 1) 6 L (r.toList ++ st) S' Q) (hj : j < NI 11) (hw : wid st ≤ 8) : V MX11_where (h + 1) 3 L (a0 :: vR 11 j :: st) S Q :=
  v_callV (M' := MX11_is) (c := 11) (As := [a0]) dX11_where_3 ml_X11_189 im_X11_is se_X11_is in_X11 cd_X11_is rfl LY_11 np_X11_is (by decide) hw hj hC k
theorem b_X11_where_6 {h : Nat} {L : LVs} {st : List AV} {S : ST} {Q : Option AV → ST → Prop} (k : t_1 L st S (fun x => x = nI 0) (fun L st S => V MX11_where h 9 L st S Q) (fun L st S => V MX11_where h 11 L st S Q)) : V MX11_where h 6 L st S Q :=
  w_if_ne dX11_where_6 (by decide) rfl k
theorem b_X11_where_9 {h : Nat} {L : LVs} {st : List AV} {S : ST} {Q : Option AV → ST → Prop} (k : o_c L st S (fun L st S => t_ir st S Q) (-1)) : V MX11_where h 9 L st S Q :=
  v_iconst dX11_where_9 (by decide) (fun L st S k => w_ir dX11_where_10 rfl k) k
theorem b_X11_where_11 {h : Nat} {L : LVs} {st : List AV} {S : ST} {Q : Option AV → ST → Prop} (k : o_al L st S (fun L st S => o_dup L st S (fun L st S => o_get L st S (fun L st S => o_c L st S (fun L st S => o_iadd L st S (fun L st S => o_puti L st S (fun L st S => o_al L st S (fun L st S => V MX11_where h 22 L st S Q) 0) 11 5)) (nI 1)) 11 5 (0, 0, 0))) 0) : V MX11_where h 11 L st S Q :=
  v_aload_n dX11_where_11 rfl (fun L st S k => v_dup dX11_where_12 (fun L st S k => v_get dX11_where_13 rfl iX11 LY_11 rfl (by decide) rfl fl_X11_172 (fun L st S k => v_iconst dX11_where_16 (by decide) (fun L st S k => v_iadd dX11_where_17 (fun L st S k => v_puti dX11_where_18 rfl iX11 tyX11_ok nmX11 LY_11 rfl (by decide) rfl fl_X11_172 rfl rfl (fun L st S k => v_aload_n dX11_where_21 rfl (fun L st S k => k) k) k) k) k) k) k) k
theorem k_X11_where_22 {h : Nat} {L : LVs} {st : List AV} {S : ST} {Q Q' : Option AV → ST → Prop} {j : Nat} (hC : Ct MX11_condition h [vR 11 j] S Q') (k : ∀ (r : Option AV) (S' : ST), Q' r S' → V MX11_where (h + 1) 25 L (r.toList ++ st) S' Q) (hj : j < NI 11) (hw : wid st ≤ 8) : V MX11_where (h + 1) 22 L (vR 11 j :: st) S Q :=
  v_callV (M' := MX11_condition) (c := 11) (As := []) dX11_where_22 ml_X11_210 im_X11_condition se_X11_condition in_X11 cd_X11_condition rfl LY_11 np_X11_condition (by decide) hw hj hC k
theorem b_X11_where_25 {h : Nat} {L : LVs} {st : List AV} {S : ST} {Q : Option AV → ST → Prop} (k : t_ir st S Q) : V MX11_where h 25 L st S Q :=
  w_ir dX11_where_25 rfl k
-- QueryForgeModel.item()I
theorem dX11_item_0 : decode cX11_item 0 = .ok (.aload_n 0, 1) := by decide +kernel
theorem dX11_item_1 : decode cX11_item 1 = .ok (.getfield 13, 3) := by decide +kernel
theorem dX11_item_4 : decode cX11_item 4 = .ok (.aload_n 0, 1) := by decide +kernel
theorem dX11_item_5 : decode cX11_item 5 = .ok (.getfield 172, 3) := by decide +kernel
theorem dX11_item_8 : decode cX11_item 8 = .ok (.iaload, 1) := by decide +kernel
theorem dX11_item_9 : decode cX11_item 9 = .ok (.istore_n 1, 1) := by decide +kernel
theorem dX11_item_10 : decode cX11_item 10 = .ok (.aload_n 0, 1) := by decide +kernel
theorem dX11_item_11 : decode cX11_item 11 = .ok (.getfield 169, 3) := by decide +kernel
theorem dX11_item_14 : decode cX11_item 14 = .ok (.ifCond .ge 77, 3) := by decide +kernel
theorem dX11_item_17 : decode cX11_item 17 = .ok (.iload_n 1, 1) := by decide +kernel
theorem dX11_item_18 : decode cX11_item 18 = .ok (.bipush 18, 2) := by decide +kernel
theorem dX11_item_20 : decode cX11_item 20 = .ok (.if_icmp .lt 71, 3) := by decide +kernel
theorem dX11_item_23 : decode cX11_item 23 = .ok (.iload_n 1, 1) := by decide +kernel
theorem dX11_item_24 : decode cX11_item 24 = .ok (.bipush 21, 2) := by decide +kernel
theorem dX11_item_26 : decode cX11_item 26 = .ok (.if_icmp .gt 65, 3) := by decide +kernel
theorem dX11_item_29 : decode cX11_item 29 = .ok (.aload_n 0, 1) := by decide +kernel
theorem dX11_item_30 : decode cX11_item 30 = .ok (.dup, 1) := by decide +kernel
theorem dX11_item_31 : decode cX11_item 31 = .ok (.getfield 172, 3) := by decide +kernel
theorem dX11_item_34 : decode cX11_item 34 = .ok (.iconst 1, 1) := by decide +kernel
theorem dX11_item_35 : decode cX11_item 35 = .ok (.iadd, 1) := by decide +kernel
theorem dX11_item_36 : decode cX11_item 36 = .ok (.putfield 172, 3) := by decide +kernel
theorem dX11_item_39 : decode cX11_item 39 = .ok (.aload_n 0, 1) := by decide +kernel
theorem dX11_item_40 : decode cX11_item 40 = .ok (.bipush 30, 2) := by decide +kernel
theorem dX11_item_42 : decode cX11_item 42 = .ok (.invokevirtual 181, 3) := by decide +kernel
theorem dX11_item_45 : decode cX11_item 45 = .ok (.lstore_n 2, 1) := by decide +kernel
theorem dX11_item_46 : decode cX11_item 46 = .ok (.aload_n 0, 1) := by decide +kernel
theorem dX11_item_47 : decode cX11_item 47 = .ok (.getfield 169, 3) := by decide +kernel
theorem dX11_item_50 : decode cX11_item 50 = .ok (.ifCond .ge 10, 3) := by decide +kernel
theorem dX11_item_53 : decode cX11_item 53 = .ok (.aload_n 0, 1) := by decide +kernel
theorem dX11_item_54 : decode cX11_item 54 = .ok (.invokevirtual 198, 3) := by decide +kernel
theorem dX11_item_57 : decode cX11_item 57 = .ok (.goto 4, 3) := by decide +kernel
theorem dX11_item_60 : decode cX11_item 60 = .ok (.iconst 0, 1) := by decide +kernel
theorem dX11_item_61 : decode cX11_item 61 = .ok (.istore 4, 2) := by decide +kernel
theorem dX11_item_63 : decode cX11_item 63 = .ok (.aload_n 0, 1) := by decide +kernel
theorem dX11_item_64 : decode cX11_item 64 = .ok (.bipush 31, 2) := by decide +kernel
theorem dX11_item_66 : decode cX11_item 66 = .ok (.invokevirtual 181, 3) := by decide +kernel
theorem dX11_item_69 : decode cX11_item 69 = .ok (.lstore_n 2, 1) := by decide +kernel
theorem dX11_item_70 : decode cX11_item 70 = .ok (.aload_n 0, 1) := by decide +kernel
theorem dX11_item_71 : decode cX11_item 71 = .ok (.getfield 169, 3) := by decide +kernel
theorem dX11_item_74 : decode cX11_item 74 = .ok (.ifCond .ge 15, 3) := by decide +kernel
theorem dX11_item_77 : decode cX11_item 77 = .ok (.aload_n 0, 1) := by decide +kernel
theorem dX11_item_78 : decode cX11_item 78 = .ok (.iload_n 1, 1) := by decide +kernel
theorem dX11_item_79 : decode cX11_item 79 = .ok (.iload 4, 2) := by decide +kernel
theorem dX11_item_81 : decode cX11_item 81 = .ok (.iconst (-1), 1) := by decide +kernel
theorem dX11_item_82 : decode cX11_item 82 = .ok (.lconst 0, 1) := by decide +kernel
theorem dX11_item_83 : decode cX11_item 83 = .ok (.invokevirtual 185, 3) := by decide +kernel
theorem dX11_item_86 : decode cX11_item 86 = .ok (.goto 4, 3) := by decide +kernel
theorem dX11_item_89 : decode cX11_item 89 = .ok (.iconst 0, 1) := by decide +kernel
theorem dX11_item_90 : decode cX11_item 90 = .ok (.ireturn, 1) := by decide +kernel
theorem dX11_item_91 : decode cX11_item 91 = .ok (.aload_n 0, 1) := by decide +kernel
theorem dX11_item_92 : decode cX11_item 92 = .ok (.invokevirtual 198, 3) := by decide +kernel
theorem dX11_item_95 : decode cX11_item 95 = .ok (.ireturn, 1) := by decide +kernel
theorem b_X11_item_0 {h : Nat} {L : LVs} {st : List AV} {S : ST} {Q : Option AV → ST → Prop} (k : o_al L st S (fun L st S => o_get L st S (fun L st S => o_al L st S (fun L st S => o_get L st S (fun L st S => o_iald L st S (fun L st S => o_is L st S (fun L st S => o_al L st S (fun L st S => o_get L st S (fun L st S => t_1 L st S (fun x => nI 0 ≤ x) (fun L st S => V MX11_item h 91 L st S Q) (fun L st S => V MX11_item h 17 L st S Q)) 11 6 (0, 0, 0)) 0) 1)) 11 5 (0, 0, 0)) 0) 11 2 (3, 41, 0)) 0) : V MX11_item h 0 L st S Q :=
  v_aload_n dX11_item_0 rfl (fun L st S k => v_get dX11_item_1 rfl iX11 LY_11 rfl (by decide) rfl fl_X11_13 (fun L st S k => v_aload_n dX11_item_4 rfl (fun L st S k => v_get dX11_item_5 rfl iX11 LY_11 rfl (by decide) rfl fl_X11_172 (fun L st S k => v_iaload dX11_item_8 (fun L st S k => v_istore_n dX11_item_9 rfl (by decide) (fun L st S k => v_aload_n dX11_item_10 rfl (fun L st S k => v_get dX11_item_11 rfl iX11 LY_11 rfl (by decide) rfl fl_X11_169 (fun L st S k => w_if_ge dX11_item_14 (by decide) rfl k) k) k) k) k) k) k) k) k
theorem b_X11_item_17 {h : Nat} {L : LVs} {st : List AV} {S : ST} {Q : Option AV → ST → Prop} (k : o_il L st S (fun L st S => o_c L st S (fun L st S => t_2 L st S (fun x y => x < y) (fun L st S => V MX11_item h 91 L st S Q) (fun L st S => V MX11_item h 23 L st S Q)) (nI 18)) 1) : V MX11_item h 17 L st S Q :=
  v_iload_n dX11_item_17 rfl (fun L st S k => v_bipush dX11_item_18 (by decide) (fun L st S k => w_icmp_lt dX11_item_20 (by decide) rfl k) k) k
theorem b_X11_item_23 {h : Nat} {L : LVs} {st : List AV} {S : ST} {Q : Option AV → ST → Prop} (k : o_il L st S (fun L st S => o_c L st S (fun L st S => t_2 L st S (fun x y => y < x) (fun L st S => V MX11_item h 91 L st S Q) (fun L st S => V MX11_item h 29 L st S Q)) (nI 21)) 1) : V MX11_item h 23 L st S Q :=
  v_iload_n dX11_item_23 rfl (fun L st S k => v_bipush dX11_item_24 (by decide) (fun L st S k => w_icmp_gt dX11_item_26 (by decide) rfl k) k) k
theorem b_X11_item_29 {h : Nat} {L : LVs} {st : List AV} {S : ST} {Q : Option AV → ST → Prop} (k : o_al L st S (fun L st S => o_dup L st S (fun L st S => o_get L st S (fun L st S => o_c L st S (fun L st S => o_iadd L st S (fun L st S => o_puti L st S (fun L st S => o_al L st S (fun L st S => o_c L st S (fun L st S => V MX11_item h 42 L st S Q) (nI 30)) 0) 11 5)) (nI 1)) 11 5 (0, 0, 0))) 0) : V MX11_item h 29 L st S Q :=
  v_aload_n dX11_item_29 rfl (fun L st S k => v_dup dX11_item_30 (fun L st S k => v_get dX11_item_31 rfl iX11 LY_11 rfl (by decide) rfl fl_X11_172 (fun L st S k => v_iconst dX11_item_34 (by decide) (fun L st S k => v_iadd dX11_item_35 (fun L st S k => v_puti dX11_item_36 rfl iX11 tyX11_ok nmX11 LY_11 rfl (by decide) rfl fl_X11_172 rfl rfl (fun L st S k => v_aload_n dX11_item_39 rfl (fun L st S k => v_bipush dX11_item_40 (by decide) (fun L st S k => k) k) k) k) k) k) k) k) k
theorem k_X11_item_42 {h : Nat} {L : LVs} {st : List AV} {S : ST} {Q Q' : Option AV → ST → Prop} {j : Nat} {a0 : AV} (hC : Ct MX11_take h [vR 11 j, a0] S Q') (k : ∀ (r : Option AV) (S' : ST), Q' r S' → V MX11_item (h + 1) 45 L (r.toList ++ st) S' Q) (hj : j < NI 11) (hw : wid st ≤ 8) : V MX11_item (h + 1) 42 L (a0 :: vR 11 j :: st) S Q :=
  v_callV (M' := MX11_take) (c := 11) (As := [a0]) dX11_item_42 ml_X11_181 im_X11_take se_X11_take in_X11 cd_X11_take rfl LY_11 np_X11_take (by decide) hw hj hC k
theorem b_X11_item_45 {h : Nat} {L : LVs} {st : List AV} {S : ST} {Q : Option AV → ST → Prop} (k : o_ls L st S (fun L st S => o_al L st S (fun L st S => o_get L st S (fun L st S => t_1 L st S (fun x => nI 0 ≤ x) (fun L st S => V MX11_item h 60 L st S Q) (fun L st S => V MX11_item h 53 L st S Q)) 11 6 (0, 0, 0)) 0) 2) : V MX11_item h 45 L st S Q :=
  v_lstore_n dX11_item_45 rfl (by decide) (fun L st S k => v_aload_n dX11_item_46 rfl (fun L st S k => v_get dX11_item_47 rfl iX11 LY_11 rfl (by decide) rfl fl_X11_169 (fun L st S k => w_if_ge dX11_item_50 (by decide) rfl k) k) k) k
theorem b_X11_item_53 {h : Nat} {L : LVs} {st : List AV} {S : ST} {Q : Option AV → ST → Prop} (k : o_al L st S (fun L st S => V MX11_item h 54 L st S Q) 0) : V MX11_item h 53 L st S Q :=
  v_aload_n dX11_item_53 rfl (fun L st S k => k) k
theorem k_X11_item_54 {h : Nat} {L : LVs} {st : List AV} {S : ST} {Q Q' : Option AV → ST → Prop} {j : Nat} (hC : Ct MX11_expression h [vR 11 j] S Q') (k : ∀ (r : Option AV) (S' : ST), Q' r S' → V MX11_item (h + 1) 57 L (r.toList ++ st) S' Q) (hj : j < NI 11) (hw : wid st ≤ 8) : V MX11_item (h + 1) 54 L (vR 11 j :: st) S Q :=
  v_callV (M' := MX11_expression) (c := 11) (As := []) dX11_item_54 ml_X11_198 im_X11_expression se_X11_expression in_X11 cd_X11_expression rfl LY_11 np_X11_expression (by decide) hw hj hC k
theorem b_X11_item_57 {h : Nat} {L : LVs} {st : List AV} {S : ST} {Q : Option AV → ST → Prop} (k : V MX11_item h 61 L st S Q) : V MX11_item h 57 L st S Q :=
  v_goto dX11_item_57 (by decide) k
theorem b_X11_item_60 {h : Nat} {L : LVs} {st : List AV} {S : ST} {Q : Option AV → ST → Prop} (k : o_c L st S (fun L st S => V MX11_item h 61 L st S Q) (nI 0)) : V MX11_item h 60 L st S Q :=
  v_iconst dX11_item_60 (by decide) (fun L st S k => k) k
theorem b_X11_item_61 {h : Nat} {L : LVs} {st : List AV} {S : ST} {Q : Option AV → ST → Prop} (k : o_is L st S (fun L st S => o_al L st S (fun L st S => o_c L st S (fun L st S => V MX11_item h 66 L st S Q) (nI 31)) 0) 4) : V MX11_item h 61 L st S Q :=
  v_istore dX11_item_61 (by decide) (fun L st S k => v_aload_n dX11_item_63 rfl (fun L st S k => v_bipush dX11_item_64 (by decide) (fun L st S k => k) k) k) k
theorem k_X11_item_66 {h : Nat} {L : LVs} {st : List AV} {S : ST} {Q Q' : Option AV → ST → Prop} {j : Nat} {a0 : AV} (hC : Ct MX11_take h [vR 11 j, a0] S Q') (k : ∀ (r : Option AV) (S' : ST), Q' r S' → V MX11_item (h + 1) 69 L (r.toList ++ st) S' Q) (hj : j < NI 11) (hw : wid st ≤ 8) : V MX11_item (h + 1) 66 L (a0 :: vR 11 j :: st) S Q :=
  v_callV (M' := MX11_take) (c := 11) (As := [a0]) dX11_item_66 ml_X11_181 im_X11_take se_X11_take in_X11 cd_X11_take rfl LY_11 np_X11_take (by decide) hw hj hC k
theorem b_X11_item_69 {h : Nat} {L : LVs} {st : List AV} {S : ST} {Q : Option AV → ST → Prop} (k : o_ls L st S (fun L st S => o_al L st S (fun L st S => o_get L st S (fun L st S => t_1 L st S (fun x => nI 0 ≤ x) (fun L st S => V MX11_item h 89 L st S Q) (fun L st S => V MX11_item h 77 L st S Q)) 11 6 (0, 0, 0)) 0) 2) : V MX11_item h 69 L st S Q :=
  v_lstore_n dX11_item_69 rfl (by decide) (fun L st S k => v_aload_n dX11_item_70 rfl (fun L st S k => v_get dX11_item_71 rfl iX11 LY_11 rfl (by decide) rfl fl_X11_169 (fun L st S k => w_if_ge dX11_item_74 (by decide) rfl k) k) k) k
theorem b_X11_item_77 {h : Nat} {L : LVs} {st : List AV} {S : ST} {Q : Option AV → ST → Prop} (k : o_al L st S (fun L st S => o_il L st S (fun L st S => o_il L st S (fun L st S => o_c L st S (fun L st S => o_lc L st S (fun L st S => V MX11_item h 83 L st S Q) (lN 0)) (-1)) 4) 1) 0) : V MX11_item h 77 L st S Q :=
  v_aload_n dX11_item_77 rfl (fun L st S k => v_iload_n dX11_item_78 rfl (fun L st S k => v_iload dX11_item_79 (fun L st S k => v_iconst dX11_item_81 (by decide) (fun L st S k => v_lconst dX11_item_82 (by decide) (fun L st S k => k) k) k) k) k) k
theorem k_X11_item_83 {h : Nat} {L : LVs} {st : List AV} {S : ST} {Q Q' : Option AV → ST → Prop} {j : Nat} {a0 a1 a2 a3 : AV} (hC : Ct MX11_knot h [vR 11 j, a0, a1, a2, a3] S Q') (k : ∀ (r : Option AV) (S' : ST), Q' r S' → V MX11_item (h + 1) 86 L (r.toList ++ st) S' Q) (hj : j < NI 11) (hw : wid st ≤ 8) : V MX11_item (h + 1) 83 L (a3 :: a2 :: a1 :: a0 :: vR 11 j :: st) S Q :=
  v_callV (M' := MX11_knot) (c := 11) (As := [a0, a1, a2, a3]) dX11_item_83 ml_X11_185 im_X11_knot se_X11_knot in_X11 cd_X11_knot rfl LY_11 np_X11_knot (by decide) hw hj hC k
theorem b_X11_item_86 {h : Nat} {L : LVs} {st : List AV} {S : ST} {Q : Option AV → ST → Prop} (k : V MX11_item h 90 L st S Q) : V MX11_item h 86 L st S Q :=
  v_goto dX11_item_86 (by decide) k
theorem b_X11_item_89 {h : Nat} {L : LVs} {st : List AV} {S : ST} {Q : Option AV → ST → Prop} (k : o_c L st S (fun L st S => V MX11_item h 90 L st S Q) (nI 0)) : V MX11_item h 89 L st S Q :=
  v_iconst dX11_item_89 (by decide) (fun L st S k => k) k
theorem b_X11_item_90 {h : Nat} {L : LVs} {st : List AV} {S : ST} {Q : Option AV → ST → Prop} (k : t_ir st S Q) : V MX11_item h 90 L st S Q :=
  w_ir dX11_item_90 rfl k
theorem b_X11_item_91 {h : Nat} {L : LVs} {st : List AV} {S : ST} {Q : Option AV → ST → Prop} (k : o_al L st S (fun L st S => V MX11_item h 92 L st S Q) 0) : V MX11_item h 91 L st S Q :=
  v_aload_n dX11_item_91 rfl (fun L st S k => k) k
theorem k_X11_item_92 {h : Nat} {L : LVs} {st : List AV} {S : ST} {Q Q' : Option AV → ST → Prop} {j : Nat} (hC : Ct MX11_expression h [vR 11 j] S Q') (k : ∀ (r : Option AV) (S' : ST), Q' r S' → V MX11_item (h + 1) 95 L (r.toList ++ st) S' Q) (hj : j < NI 11) (hw : wid st ≤ 8) : V MX11_item (h + 1) 92 L (vR 11 j :: st) S Q :=
  v_callV (M' := MX11_expression) (c := 11) (As := []) dX11_item_92 ml_X11_198 im_X11_expression se_X11_expression in_X11 cd_X11_expression rfl LY_11 np_X11_expression (by decide) hw hj hC k
theorem b_X11_item_95 {h : Nat} {L : LVs} {st : List AV} {S : ST} {Q : Option AV → ST → Prop} (k : t_ir st S Q) : V MX11_item h 95 L st S Q :=
  w_ir dX11_item_95 rfl k
-- QueryForgeModel.ends()Z
theorem dX11_ends_0 : decode cX11_ends 0 = .ok (.aload_n 0, 1) := by decide +kernel
theorem dX11_ends_1 : decode cX11_ends 1 = .ok (.getfield 169, 3) := by decide +kernel
theorem dX11_ends_4 : decode cX11_ends 4 = .ok (.ifCond .ge 25, 3) := by decide +kernel
theorem dX11_ends_7 : decode cX11_ends 7 = .ok (.aload_n 0, 1) := by decide +kernel
theorem dX11_ends_8 : decode cX11_ends 8 = .ok (.getfield 13, 3) := by decide +kernel
theorem dX11_ends_11 : decode cX11_ends 11 = .ok (.aload_n 0, 1) := by decide +kernel
theorem dX11_ends_12 : decode cX11_ends 12 = .ok (.getfield 172, 3) := by decide +kernel
theorem dX11_ends_15 : decode cX11_ends 15 = .ok (.iaload, 1) := by decide +kernel
theorem dX11_ends_16 : decode cX11_ends 16 = .ok (.bipush 54, 2) := by decide +kernel
theorem dX11_ends_18 : decode cX11_ends 18 = .ok (.if_icmp .eq 11, 3) := by decide +kernel
theorem dX11_ends_21 : decode cX11_ends 21 = .ok (.aload_n 0, 1) := by decide +kernel
theorem dX11_ends_22 : decode cX11_ends 22 = .ok (.aload_n 0, 1) := by decide +kernel
theorem dX11_ends_23 : decode cX11_ends 23 = .ok (.getfield 172, 3) := by decide +kernel
theorem dX11_ends_26 : decode cX11_ends 26 = .ok (.putfield 169, 3) := by decide +kernel
theorem dX11_ends_29 : decode cX11_ends 29 = .ok (.aload_n 0, 1) := by decide +kernel
theorem dX11_ends_30 : decode cX11_ends 30 = .ok (.getfield 169, 3) := by decide +kernel
theorem dX11_ends_33 : decode cX11_ends 33 = .ok (.ifCond .ge 7, 3) := by decide +kernel
theorem dX11_ends_36 : decode cX11_ends 36 = .ok (.iconst 1, 1) := by decide +kernel
theorem dX11_ends_37 : decode cX11_ends 37 = .ok (.goto 4, 3) := by decide +kernel
theorem dX11_ends_40 : decode cX11_ends 40 = .ok (.iconst 0, 1) := by decide +kernel
theorem dX11_ends_41 : decode cX11_ends 41 = .ok (.ireturn, 1) := by decide +kernel
theorem b_X11_ends_0 {h : Nat} {L : LVs} {st : List AV} {S : ST} {Q : Option AV → ST → Prop} (k : o_al L st S (fun L st S => o_get L st S (fun L st S => t_1 L st S (fun x => nI 0 ≤ x) (fun L st S => V MX11_ends h 29 L st S Q) (fun L st S => V MX11_ends h 7 L st S Q)) 11 6 (0, 0, 0)) 0) : V MX11_ends h 0 L st S Q :=
  v_aload_n dX11_ends_0 rfl (fun L st S k => v_get dX11_ends_1 rfl iX11 LY_11 rfl (by decide) rfl fl_X11_169 (fun L st S k => w_if_ge dX11_ends_4 (by decide) rfl k) k) k
theorem b_X11_ends_7 {h : Nat} {L : LVs} {st : List AV} {S : ST} {Q : Option AV → ST → Prop} (k : o_al L st S (fun L st S => o_get L st S (fun L st S => o_al L st S (fun L st S => o_get L st S (fun L st S => o_iald L st S (fun L st S => o_c L st S (fun L st S => t_2 L st S (fun x y => x = y) (fun L st S => V MX11_ends h 29 L st S Q) (fun L st S => V MX11_ends h 21 L st S Q)) (nI 54))) 11 5 (0, 0, 0)) 0) 11 2 (3, 41, 0)) 0) : V MX11_ends h 7 L st S Q :=
  v_aload_n dX11_ends_7 rfl (fun L st S k => v_get dX11_ends_8 rfl iX11 LY_11 rfl (by decide) rfl fl_X11_13 (fun L st S k => v_aload_n dX11_ends_11 rfl (fun L st S k => v_get dX11_ends_12 rfl iX11 LY_11 rfl (by decide) rfl fl_X11_172 (fun L st S k => v_iaload dX11_ends_15 (fun L st S k => v_bipush dX11_ends_16 (by decide) (fun L st S k => w_icmp_eq dX11_ends_18 (by decide) rfl k) k) k) k) k) k) k
theorem b_X11_ends_21 {h : Nat} {L : LVs} {st : List AV} {S : ST} {Q : Option AV → ST → Prop} (k : o_al L st S (fun L st S => o_al L st S (fun L st S => o_get L st S (fun L st S => o_puti L st S (fun L st S => V MX11_ends h 29 L st S Q) 11 6) 11 5 (0, 0, 0)) 0) 0) : V MX11_ends h 21 L st S Q :=
  v_aload_n dX11_ends_21 rfl (fun L st S k => v_aload_n dX11_ends_22 rfl (fun L st S k => v_get dX11_ends_23 rfl iX11 LY_11 rfl (by decide) rfl fl_X11_172 (fun L st S k => v_puti dX11_ends_26 rfl iX11 tyX11_ok nmX11 LY_11 rfl (by decide) rfl fl_X11_169 rfl rfl (fun L st S k => k) k) k) k) k
theorem b_X11_ends_29 {h : Nat} {L : LVs} {st : List AV} {S : ST} {Q : Option AV → ST → Prop} (k : o_al L st S (fun L st S => o_get L st S (fun L st S => t_1 L st S (fun x => nI 0 ≤ x) (fun L st S => V MX11_ends h 40 L st S Q) (fun L st S => V MX11_ends h 36 L st S Q)) 11 6 (0, 0, 0)) 0) : V MX11_ends h 29 L st S Q :=
  v_aload_n dX11_ends_29 rfl (fun L st S k => v_get dX11_ends_30 rfl iX11 LY_11 rfl (by decide) rfl fl_X11_169 (fun L st S k => w_if_ge dX11_ends_33 (by decide) rfl k) k) k
theorem b_X11_ends_36 {h : Nat} {L : LVs} {st : List AV} {S : ST} {Q : Option AV → ST → Prop} (k : o_c L st S (fun L st S => V MX11_ends h 41 L st S Q) (nI 1)) : V MX11_ends h 36 L st S Q :=
  v_iconst dX11_ends_36 (by decide) (fun L st S k => v_goto dX11_ends_37 (by decide) k) k
theorem b_X11_ends_40 {h : Nat} {L : LVs} {st : List AV} {S : ST} {Q : Option AV → ST → Prop} (k : o_c L st S (fun L st S => V MX11_ends h 41 L st S Q) (nI 0)) : V MX11_ends h 40 L st S Q :=
  v_iconst dX11_ends_40 (by decide) (fun L st S k => k) k
theorem b_X11_ends_41 {h : Nat} {L : LVs} {st : List AV} {S : ST} {Q : Option AV → ST → Prop} (k : t_zr st S Q) : V MX11_ends h 41 L st S Q :=
  w_zr dX11_ends_41 rfl k
-- QueryForgeModel.tableOf(J)I
theorem dX11_tableOf_0 : decode cX11_tableOf 0 = .ok (.iconst (-1), 1) := by decide +kernel
theorem dX11_tableOf_1 : decode cX11_tableOf 1 = .ok (.istore_n 3, 1) := by decide +kernel
theorem dX11_tableOf_2 : decode cX11_tableOf 2 = .ok (.iconst 0, 1) := by decide +kernel
theorem dX11_tableOf_3 : decode cX11_tableOf 3 = .ok (.istore 4, 2) := by decide +kernel
theorem dX11_tableOf_5 : decode cX11_tableOf 5 = .ok (.iload 4, 2) := by decide +kernel
theorem dX11_tableOf_7 : decode cX11_tableOf 7 = .ok (.aload_n 0, 1) := by decide +kernel
theorem dX11_tableOf_8 : decode cX11_tableOf 8 = .ok (.getfield 216, 3) := by decide +kernel
theorem dX11_tableOf_11 : decode cX11_tableOf 11 = .ok (.if_icmp .ge 28, 3) := by decide +kernel
theorem dX11_tableOf_14 : decode cX11_tableOf 14 = .ok (.aload_n 0, 1) := by decide +kernel
theorem dX11_tableOf_15 : decode cX11_tableOf 15 = .ok (.getfield 41, 3) := by decide +kernel
theorem dX11_tableOf_18 : decode cX11_tableOf 18 = .ok (.iload 4, 2) := by decide +kernel
theorem dX11_tableOf_20 : decode cX11_tableOf 20 = .ok (.laload, 1) := by decide +kernel
theorem dX11_tableOf_21 : decode cX11_tableOf 21 = .ok (.lload_n 1, 1) := by decide +kernel
theorem dX11_tableOf_22 : decode cX11_tableOf 22 = .ok (.lcmp, 1) := by decide +kernel
theorem dX11_tableOf_23 : decode cX11_tableOf 23 = .ok (.ifCond .ne 8, 3) := by decide +kernel
theorem dX11_tableOf_26 : decode cX11_tableOf 26 = .ok (.iload 4, 2) := by decide +kernel
theorem dX11_tableOf_28 : decode cX11_tableOf 28 = .ok (.goto 4, 3) := by decide +kernel
theorem dX11_tableOf_31 : decode cX11_tableOf 31 = .ok (.iload_n 3, 1) := by decide +kernel
theorem dX11_tableOf_32 : decode cX11_tableOf 32 = .ok (.istore_n 3, 1) := by decide +kernel
theorem dX11_tableOf_33 : decode cX11_tableOf 33 = .ok (.iinc 4 1, 3) := by decide +kernel
theorem dX11_tableOf_36 : decode cX11_tableOf 36 = .ok (.goto (-31), 3) := by decide +kernel
theorem dX11_tableOf_39 : decode cX11_tableOf 39 = .ok (.iload_n 3, 1) := by decide +kernel
theorem dX11_tableOf_40 : decode cX11_tableOf 40 = .ok (.ireturn, 1) := by decide +kernel
theorem b_X11_tableOf_0 {h : Nat} {L : LVs} {st : List AV} {S : ST} {Q : Option AV → ST → Prop} (k : o_c L st S (fun L st S => o_is L st S (fun L st S => o_c L st S (fun L st S => o_is L st S (fun L st S => V MX11_tableOf h 5 L st S Q) 4) (nI 0)) 3) (-1)) : V MX11_tableOf h 0 L st S Q :=
  v_iconst dX11_tableOf_0 (by decide) (fun L st S k => v_istore_n dX11_tableOf_1 rfl (by decide) (fun L st S k => v_iconst dX11_tableOf_2 (by decide) (fun L st S k => v_istore dX11_tableOf_3 (by decide) (fun L st S k => k) k) k) k) k
theorem b_X11_tableOf_5 {h : Nat} {L : LVs} {st : List AV} {S : ST} {Q : Option AV → ST → Prop} (k : o_il L st S (fun L st S => o_al L st S (fun L st S => o_get L st S (fun L st S => t_2 L st S (fun x y => y ≤ x) (fun L st S => V MX11_tableOf h 39 L st S Q) (fun L st S => V MX11_tableOf h 14 L st S Q)) 11 16 (0, 0, 0)) 0) 4) : V MX11_tableOf h 5 L st S Q :=
  v_iload dX11_tableOf_5 (fun L st S k => v_aload_n dX11_tableOf_7 rfl (fun L st S k => v_get dX11_tableOf_8 rfl iX11 LY_11 rfl (by decide) rfl fl_X11_216 (fun L st S k => w_icmp_ge dX11_tableOf_11 (by decide) rfl k) k) k) k
theorem b_X11_tableOf_14 {h : Nat} {L : LVs} {st : List AV} {S : ST} {Q : Option AV → ST → Prop} (k : o_al L st S (fun L st S => o_get L st S (fun L st S => o_il L st S (fun L st S => o_lald L st S (fun L st S => o_ll L st S (fun L st S => o_lcmp L st S (fun L st S => t_1 L st S (fun x => x = nI 0) (fun L st S => V MX11_tableOf h 26 L st S Q) (fun L st S => V MX11_tableOf h 31 L st S Q))) 1)) 4) 11 17 (3, 50, 0)) 0) : V MX11_tableOf h 14 L st S Q :=
  v_aload_n dX11_tableOf_14 rfl (fun L st S k => v_get dX11_tableOf_15 rfl iX11 LY_11 rfl (by decide) rfl fl_X11_41 (fun L st S k => v_iload dX11_tableOf_18 (fun L st S k => v_laload dX11_tableOf_20 (fun L st S k => v_lload_n dX11_tableOf_21 rfl (fun L st S k => v_lcmp dX11_tableOf_22 (fun L st S k => w_if_ne dX11_tableOf_23 (by decide) rfl k) k) k) k) k) k) k
theorem b_X11_tableOf_26 {h : Nat} {L : LVs} {st : List AV} {S : ST} {Q : Option AV → ST → Prop} (k : o_il L st S (fun L st S => V MX11_tableOf h 32 L st S Q) 4) : V MX11_tableOf h 26 L st S Q :=
  v_iload dX11_tableOf_26 (fun L st S k => v_goto dX11_tableOf_28 (by decide) k) k
theorem b_X11_tableOf_31 {h : Nat} {L : LVs} {st : List AV} {S : ST} {Q : Option AV → ST → Prop} (k : o_il L st S (fun L st S => V MX11_tableOf h 32 L st S Q) 3) : V MX11_tableOf h 31 L st S Q :=
  v_iload_n dX11_tableOf_31 rfl (fun L st S k => k) k
theorem b_X11_tableOf_32 {h : Nat} {L : LVs} {st : List AV} {S : ST} {Q : Option AV → ST → Prop} (k : o_is L st S (fun L st S => o_inc L st S (fun L st S => V MX11_tableOf h 5 L st S Q) 4 (nI 1)) 3) : V MX11_tableOf h 32 L st S Q :=
  v_istore_n dX11_tableOf_32 rfl (by decide) (fun L st S k => v_iinc dX11_tableOf_33 (by decide) (by decide) (fun L st S k => v_goto dX11_tableOf_36 (by decide) k) k) k
theorem b_X11_tableOf_39 {h : Nat} {L : LVs} {st : List AV} {S : ST} {Q : Option AV → ST → Prop} (k : o_il L st S (fun L st S => t_ir st S Q) 3) : V MX11_tableOf h 39 L st S Q :=
  v_iload_n dX11_tableOf_39 rfl (fun L st S k => w_ir dX11_tableOf_40 rfl k) k
-- QueryForgeModel.fails(I)V
theorem dX11_fails_0 : decode cX11_fails 0 = .ok (.aload_n 0, 1) := by decide +kernel
theorem dX11_fails_1 : decode cX11_fails 1 = .ok (.aload_n 0, 1) := by decide +kernel
theorem dX11_fails_2 : decode cX11_fails 2 = .ok (.getfield 219, 3) := by decide +kernel
theorem dX11_fails_5 : decode cX11_fails 5 = .ok (.ifCond .ne 7, 3) := by decide +kernel
theorem dX11_fails_8 : decode cX11_fails 8 = .ok (.iload_n 1, 1) := by decide +kernel
theorem dX11_fails_9 : decode cX11_fails 9 = .ok (.goto 7, 3) := by decide +kernel
theorem dX11_fails_12 : decode cX11_fails 12 = .ok (.aload_n 0, 1) := by decide +kernel
theorem dX11_fails_13 : decode cX11_fails 13 = .ok (.getfield 219, 3) := by decide +kernel
theorem dX11_fails_16 : decode cX11_fails 16 = .ok (.putfield 219, 3) := by decide +kernel
theorem dX11_fails_19 : decode cX11_fails 19 = .ok (.return_, 1) := by decide +kernel
theorem b_X11_fails_0 {h : Nat} {L : LVs} {st : List AV} {S : ST} {Q : Option AV → ST → Prop} (k : o_al L st S (fun L st S => o_al L st S (fun L st S => o_get L st S (fun L st S => t_1 L st S (fun x => x = nI 0) (fun L st S => V MX11_fails h 8 L st S Q) (fun L st S => V MX11_fails h 12 L st S Q)) 11 28 (0, 0, 0)) 0) 0) : V MX11_fails h 0 L st S Q :=
  v_aload_n dX11_fails_0 rfl (fun L st S k => v_aload_n dX11_fails_1 rfl (fun L st S k => v_get dX11_fails_2 rfl iX11 LY_11 rfl (by decide) rfl fl_X11_219 (fun L st S k => w_if_ne dX11_fails_5 (by decide) rfl k) k) k) k
theorem b_X11_fails_8 {h : Nat} {L : LVs} {st : List AV} {S : ST} {Q : Option AV → ST → Prop} (k : o_il L st S (fun L st S => V MX11_fails h 16 L st S Q) 1) : V MX11_fails h 8 L st S Q :=
  v_iload_n dX11_fails_8 rfl (fun L st S k => v_goto dX11_fails_9 (by decide) k) k
theorem b_X11_fails_12 {h : Nat} {L : LVs} {st : List AV} {S : ST} {Q : Option AV → ST → Prop} (k : o_al L st S (fun L st S => o_get L st S (fun L st S => V MX11_fails h 16 L st S Q) 11 28 (0, 0, 0)) 0) : V MX11_fails h 12 L st S Q :=
  v_aload_n dX11_fails_12 rfl (fun L st S k => v_get dX11_fails_13 rfl iX11 LY_11 rfl (by decide) rfl fl_X11_219 (fun L st S k => k) k) k
theorem b_X11_fails_16 {h : Nat} {L : LVs} {st : List AV} {S : ST} {Q : Option AV → ST → Prop} (k : o_puti L st S (fun L st S => t_vr st S Q) 11 28) : V MX11_fails h 16 L st S Q :=
  v_puti dX11_fails_16 rfl iX11 tyX11_ok nmX11 LY_11 rfl (by decide) rfl fl_X11_219 rfl rfl (fun L st S k => w_vr dX11_fails_19 rfl k) k
-- QueryForgeModel.lookForTables()V
theorem dX11_lookForTables_0 : decode cX11_lookForTables 0 = .ok (.iconst 0, 1) := by decide +kernel
theorem dX11_lookForTables_1 : decode cX11_lookForTables 1 = .ok (.istore_n 1, 1) := by decide +kernel
theorem dX11_lookForTables_2 : decode cX11_lookForTables 2 = .ok (.iload_n 1, 1) := by decide +kernel
theorem dX11_lookForTables_3 : decode cX11_lookForTables 3 = .ok (.aload_n 0, 1) := by decide +kernel
theorem dX11_lookForTables_4 : decode cX11_lookForTables 4 = .ok (.getfield 222, 3) := by decide +kernel
theorem dX11_lookForTables_7 : decode cX11_lookForTables 7 = .ok (.if_icmp .ge 48, 3) := by decide +kernel
theorem dX11_lookForTables_10 : decode cX11_lookForTables 10 = .ok (.aload_n 0, 1) := by decide +kernel
theorem dX11_lookForTables_11 : decode cX11_lookForTables 11 = .ok (.getfield 219, 3) := by decide +kernel
theorem dX11_lookForTables_14 : decode cX11_lookForTables 14 = .ok (.ifCond .ne 41, 3) := by decide +kernel
theorem dX11_lookForTables_17 : decode cX11_lookForTables 17 = .ok (.aload_n 0, 1) := by decide +kernel
theorem dX11_lookForTables_18 : decode cX11_lookForTables 18 = .ok (.getfield 66, 3) := by decide +kernel
theorem dX11_lookForTables_21 : decode cX11_lookForTables 21 = .ok (.iload_n 1, 1) := by decide +kernel
theorem dX11_lookForTables_22 : decode cX11_lookForTables 22 = .ok (.aload_n 0, 1) := by decide +kernel
theorem dX11_lookForTables_23 : decode cX11_lookForTables 23 = .ok (.aload_n 0, 1) := by decide +kernel
theorem dX11_lookForTables_24 : decode cX11_lookForTables 24 = .ok (.getfield 63, 3) := by decide +kernel
theorem dX11_lookForTables_27 : decode cX11_lookForTables 27 = .ok (.iload_n 1, 1) := by decide +kernel
theorem dX11_lookForTables_28 : decode cX11_lookForTables 28 = .ok (.laload, 1) := by decide +kernel
theorem dX11_lookForTables_29 : decode cX11_lookForTables 29 = .ok (.invokevirtual 225, 3) := by decide +kernel
theorem dX11_lookForTables_32 : decode cX11_lookForTables 32 = .ok (.iastore, 1) := by decide +kernel
theorem dX11_lookForTables_33 : decode cX11_lookForTables 33 = .ok (.aload_n 0, 1) := by decide +kernel
theorem dX11_lookForTables_34 : decode cX11_lookForTables 34 = .ok (.getfield 66, 3) := by decide +kernel
theorem dX11_lookForTables_37 : decode cX11_lookForTables 37 = .ok (.iload_n 1, 1) := by decide +kernel
theorem dX11_lookForTables_38 : decode cX11_lookForTables 38 = .ok (.iaload, 1) := by decide +kernel
theorem dX11_lookForTables_39 : decode cX11_lookForTables 39 = .ok (.ifCond .ge 10, 3) := by decide +kernel
theorem dX11_lookForTables_42 : decode cX11_lookForTables 42 = .ok (.aload_n 0, 1) := by decide +kernel
theorem dX11_lookForTables_43 : decode cX11_lookForTables 43 = .ok (.sipush (-1001), 3) := by decide +kernel
theorem dX11_lookForTables_46 : decode cX11_lookForTables 46 = .ok (.invokevirtual 229, 3) := by decide +kernel
theorem dX11_lookForTables_49 : decode cX11_lookForTables 49 = .ok (.iinc 1 1, 3) := by decide +kernel
theorem dX11_lookForTables_52 : decode cX11_lookForTables 52 = .ok (.goto (-50), 3) := by decide +kernel
theorem dX11_lookForTables_55 : decode cX11_lookForTables 55 = .ok (.return_, 1) := by decide +kernel
theorem b_X11_lookForTables_0 {h : Nat} {L : LVs} {st : List AV} {S : ST} {Q : Option AV → ST → Prop} (k : o_c L st S (fun L st S => o_is L st S (fun L st S => V MX11_lookForTables h 2 L st S Q) 1) (nI 0)) : V MX11_lookForTables h 0 L st S Q :=
  v_iconst dX11_lookForTables_0 (by decide) (fun L st S k => v_istore_n dX11_lookForTables_1 rfl (by decide) (fun L st S k => k) k) k
theorem b_X11_lookForTables_2 {h : Nat} {L : LVs} {st : List AV} {S : ST} {Q : Option AV → ST → Prop} (k : o_il L st S (fun L st S => o_al L st S (fun L st S => o_get L st S (fun L st S => t_2 L st S (fun x y => y ≤ x) (fun L st S => V MX11_lookForTables h 55 L st S Q) (fun L st S => V MX11_lookForTables h 10 L st S Q)) 11 24 (0, 0, 0)) 0) 1) : V MX11_lookForTables h 2 L st S Q :=
  v_iload_n dX11_lookForTables_2 rfl (fun L st S k => v_aload_n dX11_lookForTables_3 rfl (fun L st S k => v_get dX11_lookForTables_4 rfl iX11 LY_11 rfl (by decide) rfl fl_X11_222 (fun L st S k => w_icmp_ge dX11_lookForTables_7 (by decide) rfl k) k) k) k
theorem b_X11_lookForTables_10 {h : Nat} {L : LVs} {st : List AV} {S : ST} {Q : Option AV → ST → Prop} (k : o_al L st S (fun L st S => o_get L st S (fun L st S => t_1 L st S (fun x => x = nI 0) (fun L st S => V MX11_lookForTables h 17 L st S Q) (fun L st S => V MX11_lookForTables h 55 L st S Q)) 11 28 (0, 0, 0)) 0) : V MX11_lookForTables h 10 L st S Q :=
  v_aload_n dX11_lookForTables_10 rfl (fun L st S k => v_get dX11_lookForTables_11 rfl iX11 LY_11 rfl (by decide) rfl fl_X11_219 (fun L st S k => w_if_ne dX11_lookForTables_14 (by decide) rfl k) k) k
theorem b_X11_lookForTables_17 {h : Nat} {L : LVs} {st : List AV} {S : ST} {Q : Option AV → ST → Prop} (k : o_al L st S (fun L st S => o_get L st S (fun L st S => o_il L st S (fun L st S => o_al L st S (fun L st S => o_al L st S (fun L st S => o_get L st S (fun L st S => o_il L st S (fun L st S => o_lald L st S (fun L st S => V MX11_lookForTables h 29 L st S Q)) 1) 11 25 (3, 57, 0)) 0) 0) 1) 11 26 (3, 58, 0)) 0) : V MX11_lookForTables h 17 L st S Q :=
  v_aload_n dX11_lookForTables_17 rfl (fun L st S k => v_get dX11_lookForTables_18 rfl iX11 LY_11 rfl (by decide) rfl fl_X11_66 (fun L st S k => v_iload_n dX11_lookForTables_21 rfl (fun L st S k => v_aload_n dX11_lookForTables_22 rfl (fun L st S k => v_aload_n dX11_lookForTables_23 rfl (fun L st S k => v_get dX11_lookForTables_24 rfl iX11 LY_11 rfl (by decide) rfl fl_X11_63 (fun L st S k => v_iload_n dX11_lookForTables_27 rfl (fun L st S k => v_laload dX11_lookForTables_28 (fun L st S k => k) k) k) k) k) k) k) k) k
theorem k_X11_lookForTables_29 {h : Nat} {L : LVs} {st : List AV} {S : ST} {Q Q' : Option AV → ST → Prop} {j : Nat} {a0 : AV} (hC : Ct MX11_tableOf h [vR 11 j, a0] S Q') (k : ∀ (r : Option AV) (S' : ST), Q' r S' → V MX11_lookForTables (h + 1) 32 L (r.toList ++ st) S' Q) (hj : j < NI 11) (hw : wid st ≤ 8) : V MX11_lookForTables (h + 1) 29 L (a0 :: vR 11 j :: st) S Q :=
  v_callV (M' := MX11_tableOf) (c := 11) (As := [a0]) dX11_lookForTables_29 ml_X11_225 im_X11_tableOf se_X11_tableOf in_X11 cd_X11_tableOf rfl LY_11 np_X11_tableOf (by decide) hw hj hC k
theorem b_X11_lookForTables_32 {h : Nat} {L : LVs} {st : List AV} {S : ST} {Q : Option AV → ST → Prop} (k : o_iast L st S (fun L st S => o_al L st S (fun L st S => o_get L st S (fun L st S => o_il L st S (fun L st S => o_iald L st S (fun L st S => t_1 L st S (fun x => nI 0 ≤ x) (fun L st S => V MX11_lookForTables h 49 L st S Q) (fun L st S => V MX11_lookForTables h 42 L st S Q))) 1) 11 26 (3, 58, 0)) 0)) : V MX11_lookForTables h 32 L st S Q :=
  v_iastore dX11_lookForTables_32 (fun L st S k => v_aload_n dX11_lookForTables_33 rfl (fun L st S k => v_get dX11_lookForTables_34 rfl iX11 LY_11 rfl (by decide) rfl fl_X11_66 (fun L st S k => v_iload_n dX11_lookForTables_37 rfl (fun L st S k => v_iaload dX11_lookForTables_38 (fun L st S k => w_if_ge dX11_lookForTables_39 (by decide) rfl k) k) k) k) k) k
theorem b_X11_lookForTables_42 {h : Nat} {L : LVs} {st : List AV} {S : ST} {Q : Option AV → ST → Prop} (k : o_al L st S (fun L st S => o_c L st S (fun L st S => V MX11_lookForTables h 46 L st S Q) (-1001)) 0) : V MX11_lookForTables h 42 L st S Q :=
  v_aload_n dX11_lookForTables_42 rfl (fun L st S k => v_sipush dX11_lookForTables_43 (by decide) (fun L st S k => k) k) k
theorem k_X11_lookForTables_46 {h : Nat} {L : LVs} {st : List AV} {S : ST} {Q Q' : Option AV → ST → Prop} {j : Nat} {a0 : AV} (hC : Ct MX11_fails h [vR 11 j, a0] S Q') (k : ∀ (r : Option AV) (S' : ST), Q' r S' → V MX11_lookForTables (h + 1) 49 L (r.toList ++ st) S' Q) (hj : j < NI 11) (hw : wid st ≤ 8) : V MX11_lookForTables (h + 1) 46 L (a0 :: vR 11 j :: st) S Q :=
  v_callV (M' := MX11_fails) (c := 11) (As := [a0]) dX11_lookForTables_46 ml_X11_229 im_X11_fails se_X11_fails in_X11 cd_X11_fails rfl LY_11 np_X11_fails (by decide) hw hj hC k
theorem b_X11_lookForTables_49 {h : Nat} {L : LVs} {st : List AV} {S : ST} {Q : Option AV → ST → Prop} (k : o_inc L st S (fun L st S => V MX11_lookForTables h 2 L st S Q) 1 (nI 1)) : V MX11_lookForTables h 49 L st S Q :=
  v_iinc dX11_lookForTables_49 (by decide) (by decide) (fun L st S k => v_goto dX11_lookForTables_52 (by decide) k) k
theorem b_X11_lookForTables_55 {h : Nat} {L : LVs} {st : List AV} {S : ST} {Q : Option AV → ST → Prop} (k : t_vr st S Q) : V MX11_lookForTables h 55 L st S Q :=
  w_vr dX11_lookForTables_55 rfl k
-- QueryForgeModel.findPlace(I)V
theorem dX11_findPlace_0 : decode cX11_findPlace 0 = .ok (.iconst 0, 1) := by decide +kernel
theorem dX11_findPlace_1 : decode cX11_findPlace 1 = .ok (.istore_n 2, 1) := by decide +kernel
theorem dX11_findPlace_2 : decode cX11_findPlace 2 = .ok (.iconst 0, 1) := by decide +kernel
theorem dX11_findPlace_3 : decode cX11_findPlace 3 = .ok (.istore_n 3, 1) := by decide +kernel
theorem dX11_findPlace_4 : decode cX11_findPlace 4 = .ok (.iload_n 3, 1) := by decide +kernel
theorem dX11_findPlace_5 : decode cX11_findPlace 5 = .ok (.aload_n 0, 1) := by decide +kernel
theorem dX11_findPlace_6 : decode cX11_findPlace 6 = .ok (.getfield 222, 3) := by decide +kernel
theorem dX11_findPlace_9 : decode cX11_findPlace 9 = .ok (.if_icmp .ge 106, 3) := by decide +kernel
theorem dX11_findPlace_12 : decode cX11_findPlace 12 = .ok (.aload_n 0, 1) := by decide +kernel
theorem dX11_findPlace_13 : decode cX11_findPlace 13 = .ok (.getfield 66, 3) := by decide +kernel
theorem dX11_findPlace_16 : decode cX11_findPlace 16 = .ok (.iload_n 3, 1) := by decide +kernel
theorem dX11_findPlace_17 : decode cX11_findPlace 17 = .ok (.iaload, 1) := by decide +kernel
theorem dX11_findPlace_18 : decode cX11_findPlace 18 = .ok (.istore 4, 2) := by decide +kernel
theorem dX11_findPlace_20 : decode cX11_findPlace 20 = .ok (.iconst 0, 1) := by decide +kernel
theorem dX11_findPlace_21 : decode cX11_findPlace 21 = .ok (.istore 5, 2) := by decide +kernel
theorem dX11_findPlace_23 : decode cX11_findPlace 23 = .ok (.iload 5, 2) := by decide +kernel
theorem dX11_findPlace_25 : decode cX11_findPlace 25 = .ok (.aload_n 0, 1) := by decide +kernel
theorem dX11_findPlace_26 : decode cX11_findPlace 26 = .ok (.getfield 44, 3) := by decide +kernel
theorem dX11_findPlace_29 : decode cX11_findPlace 29 = .ok (.iload 4, 2) := by decide +kernel
theorem dX11_findPlace_31 : decode cX11_findPlace 31 = .ok (.iaload, 1) := by decide +kernel
theorem dX11_findPlace_32 : decode cX11_findPlace 32 = .ok (.if_icmp .ge 77, 3) := by decide +kernel
theorem dX11_findPlace_35 : decode cX11_findPlace 35 = .ok (.aload_n 0, 1) := by decide +kernel
theorem dX11_findPlace_36 : decode cX11_findPlace 36 = .ok (.getfield 47, 3) := by decide +kernel
theorem dX11_findPlace_39 : decode cX11_findPlace 39 = .ok (.iconst 4, 1) := by decide +kernel
theorem dX11_findPlace_40 : decode cX11_findPlace 40 = .ok (.iload 4, 2) := by decide +kernel
theorem dX11_findPlace_42 : decode cX11_findPlace 42 = .ok (.imul, 1) := by decide +kernel
theorem dX11_findPlace_43 : decode cX11_findPlace 43 = .ok (.iload 5, 2) := by decide +kernel
theorem dX11_findPlace_45 : decode cX11_findPlace 45 = .ok (.iadd, 1) := by decide +kernel
theorem dX11_findPlace_46 : decode cX11_findPlace 46 = .ok (.laload, 1) := by decide +kernel
theorem dX11_findPlace_47 : decode cX11_findPlace 47 = .ok (.aload_n 0, 1) := by decide +kernel
theorem dX11_findPlace_48 : decode cX11_findPlace 48 = .ok (.getfield 29, 3) := by decide +kernel
theorem dX11_findPlace_51 : decode cX11_findPlace 51 = .ok (.iload_n 1, 1) := by decide +kernel
theorem dX11_findPlace_52 : decode cX11_findPlace 52 = .ok (.laload, 1) := by decide +kernel
theorem dX11_findPlace_53 : decode cX11_findPlace 53 = .ok (.lcmp, 1) := by decide +kernel
theorem dX11_findPlace_54 : decode cX11_findPlace 54 = .ok (.ifCond .ne 49, 3) := by decide +kernel
theorem dX11_findPlace_57 : decode cX11_findPlace 57 = .ok (.aload_n 0, 1) := by decide +kernel
theorem dX11_findPlace_58 : decode cX11_findPlace 58 = .ok (.getfield 32, 3) := by decide +kernel
theorem dX11_findPlace_61 : decode cX11_findPlace 61 = .ok (.iload_n 1, 1) := by decide +kernel
theorem dX11_findPlace_62 : decode cX11_findPlace 62 = .ok (.laload, 1) := by decide +kernel
theorem dX11_findPlace_63 : decode cX11_findPlace 63 = .ok (.lconst 0, 1) := by decide +kernel
theorem dX11_findPlace_64 : decode cX11_findPlace 64 = .ok (.lcmp, 1) := by decide +kernel
theorem dX11_findPlace_65 : decode cX11_findPlace 65 = .ok (.ifCond .eq 20, 3) := by decide +kernel
theorem dX11_findPlace_68 : decode cX11_findPlace 68 = .ok (.aload_n 0, 1) := by decide +kernel
theorem dX11_findPlace_69 : decode cX11_findPlace 69 = .ok (.getfield 32, 3) := by decide +kernel
theorem dX11_findPlace_72 : decode cX11_findPlace 72 = .ok (.iload_n 1, 1) := by decide +kernel
theorem dX11_findPlace_73 : decode cX11_findPlace 73 = .ok (.laload, 1) := by decide +kernel
theorem dX11_findPlace_74 : decode cX11_findPlace 74 = .ok (.aload_n 0, 1) := by decide +kernel
theorem dX11_findPlace_75 : decode cX11_findPlace 75 = .ok (.getfield 41, 3) := by decide +kernel
theorem dX11_findPlace_78 : decode cX11_findPlace 78 = .ok (.iload 4, 2) := by decide +kernel
theorem dX11_findPlace_80 : decode cX11_findPlace 80 = .ok (.laload, 1) := by decide +kernel
theorem dX11_findPlace_81 : decode cX11_findPlace 81 = .ok (.lcmp, 1) := by decide +kernel
theorem dX11_findPlace_82 : decode cX11_findPlace 82 = .ok (.ifCond .ne 21, 3) := by decide +kernel
theorem dX11_findPlace_85 : decode cX11_findPlace 85 = .ok (.iinc 2 1, 3) := by decide +kernel
theorem dX11_findPlace_88 : decode cX11_findPlace 88 = .ok (.aload_n 0, 1) := by decide +kernel
theorem dX11_findPlace_89 : decode cX11_findPlace 89 = .ok (.getfield 35, 3) := by decide +kernel
theorem dX11_findPlace_92 : decode cX11_findPlace 92 = .ok (.iload_n 1, 1) := by decide +kernel
theorem dX11_findPlace_93 : decode cX11_findPlace 93 = .ok (.iload_n 3, 1) := by decide +kernel
theorem dX11_findPlace_94 : decode cX11_findPlace 94 = .ok (.iastore, 1) := by decide +kernel
theorem dX11_findPlace_95 : decode cX11_findPlace 95 = .ok (.aload_n 0, 1) := by decide +kernel
theorem dX11_findPlace_96 : decode cX11_findPlace 96 = .ok (.getfield 38, 3) := by decide +kernel
theorem dX11_findPlace_99 : decode cX11_findPlace 99 = .ok (.iload_n 1, 1) := by decide +kernel
theorem dX11_findPlace_100 : decode cX11_findPlace 100 = .ok (.iload 5, 2) := by decide +kernel
theorem dX11_findPlace_102 : decode cX11_findPlace 102 = .ok (.iastore, 1) := by decide +kernel
theorem dX11_findPlace_103 : decode cX11_findPlace 103 = .ok (.iinc 5 1, 3) := by decide +kernel
theorem dX11_findPlace_106 : decode cX11_findPlace 106 = .ok (.goto (-83), 3) := by decide +kernel
theorem dX11_findPlace_109 : decode cX11_findPlace 109 = .ok (.iinc 3 1, 3) := by decide +kernel
theorem dX11_findPlace_112 : decode cX11_findPlace 112 = .ok (.goto (-108), 3) := by decide +kernel
theorem dX11_findPlace_115 : decode cX11_findPlace 115 = .ok (.iload_n 2, 1) := by decide +kernel
theorem dX11_findPlace_116 : decode cX11_findPlace 116 = .ok (.iconst 1, 1) := by decide +kernel
theorem dX11_findPlace_117 : decode cX11_findPlace 117 = .ok (.if_icmp .eq 10, 3) := by decide +kernel
theorem dX11_findPlace_120 : decode cX11_findPlace 120 = .ok (.aload_n 0, 1) := by decide +kernel
theorem dX11_findPlace_121 : decode cX11_findPlace 121 = .ok (.sipush (-1001), 3) := by decide +kernel
theorem dX11_findPlace_124 : decode cX11_findPlace 124 = .ok (.invokevirtual 229, 3) := by decide +kernel
theorem dX11_findPlace_127 : decode cX11_findPlace 127 = .ok (.return_, 1) := by decide +kernel
theorem b_X11_findPlace_0 {h : Nat} {L : LVs} {st : List AV} {S : ST} {Q : Option AV → ST → Prop} (k : o_c L st S (fun L st S => o_is L st S (fun L st S => o_c L st S (fun L st S => o_is L st S (fun L st S => V MX11_findPlace h 4 L st S Q) 3) (nI 0)) 2) (nI 0)) : V MX11_findPlace h 0 L st S Q :=
  v_iconst dX11_findPlace_0 (by decide) (fun L st S k => v_istore_n dX11_findPlace_1 rfl (by decide) (fun L st S k => v_iconst dX11_findPlace_2 (by decide) (fun L st S k => v_istore_n dX11_findPlace_3 rfl (by decide) (fun L st S k => k) k) k) k) k
theorem b_X11_findPlace_4 {h : Nat} {L : LVs} {st : List AV} {S : ST} {Q : Option AV → ST → Prop} (k : o_il L st S (fun L st S => o_al L st S (fun L st S => o_get L st S (fun L st S => t_2 L st S (fun x y => y ≤ x) (fun L st S => V MX11_findPlace h 115 L st S Q) (fun L st S => V MX11_findPlace h 12 L st S Q)) 11 24 (0, 0, 0)) 0) 3) : V MX11_findPlace h 4 L st S Q :=
  v_iload_n dX11_findPlace_4 rfl (fun L st S k => v_aload_n dX11_findPlace_5 rfl (fun L st S k => v_get dX11_findPlace_6 rfl iX11 LY_11 rfl (by decide) rfl fl_X11_222 (fun L st S k => w_icmp_ge dX11_findPlace_9 (by decide) rfl k) k) k) k
theorem b_X11_findPlace_12 {h : Nat} {L : LVs} {st : List AV} {S : ST} {Q : Option AV → ST → Prop} (k : o_al L st S (fun L st S => o_get L st S (fun L st S => o_il L st S (fun L st S => o_iald L st S (fun L st S => o_is L st S (fun L st S => o_c L st S (fun L st S => o_is L st S (fun L st S => V MX11_findPlace h 23 L st S Q) 5) (nI 0)) 4)) 3) 11 26 (3, 58, 0)) 0) : V MX11_findPlace h 12 L st S Q :=
  v_aload_n dX11_findPlace_12 rfl (fun L st S k => v_get dX11_findPlace_13 rfl iX11 LY_11 rfl (by decide) rfl fl_X11_66 (fun L st S k => v_iload_n dX11_findPlace_16 rfl (fun L st S k => v_iaload dX11_findPlace_17 (fun L st S k => v_istore dX11_findPlace_18 (by decide) (fun L st S k => v_iconst dX11_findPlace_20 (by decide) (fun L st S k => v_istore dX11_findPlace_21 (by decide) (fun L st S k => k) k) k) k) k) k) k) k
theorem b_X11_findPlace_23 {h : Nat} {L : LVs} {st : List AV} {S : ST} {Q : Option AV → ST → Prop} (k : o_il L st S (fun L st S => o_al L st S (fun L st S => o_get L st S (fun L st S => o_il L st S (fun L st S => o_iald L st S (fun L st S => t_2 L st S (fun x y => y ≤ x) (fun L st S => V MX11_findPlace h 109 L st S Q) (fun L st S => V MX11_findPlace h 35 L st S Q))) 4) 11 18 (3, 51, 0)) 0) 5) : V MX11_findPlace h 23 L st S Q :=
  v_iload dX11_findPlace_23 (fun L st S k => v_aload_n dX11_findPlace_25 rfl (fun L st S k => v_get dX11_findPlace_26 rfl iX11 LY_11 rfl (by decide) rfl fl_X11_44 (fun L st S k => v_iload dX11_findPlace_29 (fun L st S k => v_iaload dX11_findPlace_31 (fun L st S k => w_icmp_ge dX11_findPlace_32 (by decide) rfl k) k) k) k) k) k
theorem b_X11_findPlace_35 {h : Nat} {L : LVs} {st : List AV} {S : ST} {Q : Option AV → ST → Prop} (k : o_al L st S (fun L st S => o_get L st S (fun L st S => o_c L st S (fun L st S => o_il L st S (fun L st S => o_imul L st S (fun L st S => o_il L st S (fun L st S => o_iadd L st S (fun L st S => o_lald L st S (fun L st S => o_al L st S (fun L st S => o_get L st S (fun L st S => o_il L st S (fun L st S => o_lald L st S (fun L st S => o_lcmp L st S (fun L st S => t_1 L st S (fun x => x = nI 0) (fun L st S => V MX11_findPlace h 57 L st S Q) (fun L st S => V MX11_findPlace h 103 L st S Q)))) 1) 11 11 (3, 46, 0)) 0))) 5)) 4) (nI 4)) 11 19 (3, 52, 0)) 0) : V MX11_findPlace h 35 L st S Q :=
  v_aload_n dX11_findPlace_35 rfl (fun L st S k => v_get dX11_findPlace_36 rfl iX11 LY_11 rfl (by decide) rfl fl_X11_47 (fun L st S k => v_iconst dX11_findPlace_39 (by decide) (fun L st S k => v_iload dX11_findPlace_40 (fun L st S k => v_imul dX11_findPlace_42 (fun L st S k => v_iload dX11_findPlace_43 (fun L st S k => v_iadd dX11_findPlace_45 (fun L st S k => v_laload dX11_findPlace_46 (fun L st S k => v_aload_n dX11_findPlace_47 rfl (fun L st S k => v_get dX11_findPlace_48 rfl iX11 LY_11 rfl (by decide) rfl fl_X11_29 (fun L st S k => v_iload_n dX11_findPlace_51 rfl (fun L st S k => v_laload dX11_findPlace_52 (fun L st S k => v_lcmp dX11_findPlace_53 (fun L st S k => w_if_ne dX11_findPlace_54 (by decide) rfl k) k) k) k) k) k) k) k) k) k) k) k) k) k
theorem b_X11_findPlace_57 {h : Nat} {L : LVs} {st : List AV} {S : ST} {Q : Option AV → ST → Prop} (k : o_al L st S (fun L st S => o_get L st S (fun L st S => o_il L st S (fun L st S => o_lald L st S (fun L st S => o_lc L st S (fun L st S => o_lcmp L st S (fun L st S => t_1 L st S (fun x => x = nI 0) (fun L st S => V MX11_findPlace h 85 L st S Q) (fun L st S => V MX11_findPlace h 68 L st S Q))) (lN 0))) 1) 11 12 (3, 47, 0)) 0) : V MX11_findPlace h 57 L st S Q :=
  v_aload_n dX11_findPlace_57 rfl (fun L st S k => v_get dX11_findPlace_58 rfl iX11 LY_11 rfl (by decide) rfl fl_X11_32 (fun L st S k => v_iload_n dX11_findPlace_61 rfl (fun L st S k => v_laload dX11_findPlace_62 (fun L st S k => v_lconst dX11_findPlace_63 (by decide) (fun L st S k => v_lcmp dX11_findPlace_64 (fun L st S k => w_if_eq dX11_findPlace_65 (by decide) rfl k) k) k) k) k) k) k
theorem b_X11_findPlace_68 {h : Nat} {L : LVs} {st : List AV} {S : ST} {Q : Option AV → ST → Prop} (k : o_al L st S (fun L st S => o_get L st S (fun L st S => o_il L st S (fun L st S => o_lald L st S (fun L st S => o_al L st S (fun L st S => o_get L st S (fun L st S => o_il L st S (fun L st S => o_lald L st S (fun L st S => o_lcmp L st S (fun L st S => t_1 L st S (fun x => x = nI 0) (fun L st S => V MX11_findPlace h 85 L st S Q) (fun L st S => V MX11_findPlace h 103 L st S Q)))) 4) 11 17 (3, 50, 0)) 0)) 1) 11 12 (3, 47, 0)) 0) : V MX11_findPlace h 68 L st S Q :=
  v_aload_n dX11_findPlace_68 rfl (fun L st S k => v_get dX11_findPlace_69 rfl iX11 LY_11 rfl (by decide) rfl fl_X11_32 (fun L st S k => v_iload_n dX11_findPlace_72 rfl (fun L st S k => v_laload dX11_findPlace_73 (fun L st S k => v_aload_n dX11_findPlace_74 rfl (fun L st S k => v_get dX11_findPlace_75 rfl iX11 LY_11 rfl (by decide) rfl fl_X11_41 (fun L st S k => v_iload dX11_findPlace_78 (fun L st S k => v_laload dX11_findPlace_80 (fun L st S k => v_lcmp dX11_findPlace_81 (fun L st S k => w_if_ne dX11_findPlace_82 (by decide) rfl k) k) k) k) k) k) k) k) k) k
theorem b_X11_findPlace_85 {h : Nat} {L : LVs} {st : List AV} {S : ST} {Q : Option AV → ST → Prop} (k : o_inc L st S (fun L st S => o_al L st S (fun L st S => o_get L st S (fun L st S => o_il L st S (fun L st S => o_il L st S (fun L st S => o_iast L st S (fun L st S => o_al L st S (fun L st S => o_get L st S (fun L st S => o_il L st S (fun L st S => o_il L st S (fun L st S => o_iast L st S (fun L st S => V MX11_findPlace h 103 L st S Q)) 5) 1) 11 14 (3, 49, 0)) 0)) 3) 1) 11 13 (3, 48, 0)) 0) 2 (nI 1)) : V MX11_findPlace h 85 L st S Q :=
  v_iinc dX11_findPlace_85 (by decide) (by decide) (fun L st S k => v_aload_n dX11_findPlace_88 rfl (fun L st S k => v_get dX11_findPlace_89 rfl iX11 LY_11 rfl (by decide) rfl fl_X11_35 (fun L st S k => v_iload_n dX11_findPlace_92 rfl (fun L st S k => v_iload_n dX11_findPlace_93 rfl (fun L st S k => v_iastore dX11_findPlace_94 (fun L st S k => v_aload_n dX11_findPlace_95 rfl (fun L st S k => v_get dX11_findPlace_96 rfl iX11 LY_11 rfl (by decide) rfl fl_X11_38 (fun L st S k => v_iload_n dX11_findPlace_99 rfl (fun L st S k => v_iload dX11_findPlace_100 (fun L st S k => v_iastore dX11_findPlace_102 (fun L st S k => k) k) k) k) k) k) k) k) k) k) k) k
theorem b_X11_findPlace_103 {h : Nat} {L : LVs} {st : List AV} {S : ST} {Q : Option AV → ST → Prop} (k : o_inc L st S (fun L st S => V MX11_findPlace h 23 L st S Q) 5 (nI 1)) : V MX11_findPlace h 103 L st S Q :=
  v_iinc dX11_findPlace_103 (by decide) (by decide) (fun L st S k => v_goto dX11_findPlace_106 (by decide) k) k
theorem b_X11_findPlace_109 {h : Nat} {L : LVs} {st : List AV} {S : ST} {Q : Option AV → ST → Prop} (k : o_inc L st S (fun L st S => V MX11_findPlace h 4 L st S Q) 3 (nI 1)) : V MX11_findPlace h 109 L st S Q :=
  v_iinc dX11_findPlace_109 (by decide) (by decide) (fun L st S k => v_goto dX11_findPlace_112 (by decide) k) k
theorem b_X11_findPlace_115 {h : Nat} {L : LVs} {st : List AV} {S : ST} {Q : Option AV → ST → Prop} (k : o_il L st S (fun L st S => o_c L st S (fun L st S => t_2 L st S (fun x y => x = y) (fun L st S => V MX11_findPlace h 127 L st S Q) (fun L st S => V MX11_findPlace h 120 L st S Q)) (nI 1)) 2) : V MX11_findPlace h 115 L st S Q :=
  v_iload_n dX11_findPlace_115 rfl (fun L st S k => v_iconst dX11_findPlace_116 (by decide) (fun L st S k => w_icmp_eq dX11_findPlace_117 (by decide) rfl k) k) k
theorem b_X11_findPlace_120 {h : Nat} {L : LVs} {st : List AV} {S : ST} {Q : Option AV → ST → Prop} (k : o_al L st S (fun L st S => o_c L st S (fun L st S => V MX11_findPlace h 124 L st S Q) (-1001)) 0) : V MX11_findPlace h 120 L st S Q :=
  v_aload_n dX11_findPlace_120 rfl (fun L st S k => v_sipush dX11_findPlace_121 (by decide) (fun L st S k => k) k) k
theorem k_X11_findPlace_124 {h : Nat} {L : LVs} {st : List AV} {S : ST} {Q Q' : Option AV → ST → Prop} {j : Nat} {a0 : AV} (hC : Ct MX11_fails h [vR 11 j, a0] S Q') (k : ∀ (r : Option AV) (S' : ST), Q' r S' → V MX11_findPlace (h + 1) 127 L (r.toList ++ st) S' Q) (hj : j < NI 11) (hw : wid st ≤ 8) : V MX11_findPlace (h + 1) 124 L (a0 :: vR 11 j :: st) S Q :=
  v_callV (M' := MX11_fails) (c := 11) (As := [a0]) dX11_findPlace_124 ml_X11_229 im_X11_fails se_X11_fails in_X11 cd_X11_fails rfl LY_11 np_X11_fails (by decide) hw hj hC k
theorem b_X11_findPlace_127 {h : Nat} {L : LVs} {st : List AV} {S : ST} {Q : Option AV → ST → Prop} (k : t_vr st S Q) : V MX11_findPlace h 127 L st S Q :=
  w_vr dX11_findPlace_127 rfl k
-- QueryForgeModel.check(I)I
theorem dX11_check_0 : decode cX11_check 0 = .ok (.aload_n 0, 1) := by decide +kernel
theorem dX11_check_1 : decode cX11_check 1 = .ok (.getfield 219, 3) := by decide +kernel
theorem dX11_check_4 : decode cX11_check 4 = .ok (.ifCond .eq 5, 3) := by decide +kernel
theorem dX11_check_7 : decode cX11_check 7 = .ok (.iconst 2, 1) := by decide +kernel
theorem dX11_check_8 : decode cX11_check 8 = .ok (.ireturn, 1) := by decide +kernel
theorem dX11_check_9 : decode cX11_check 9 = .ok (.aload_n 0, 1) := by decide +kernel
theorem dX11_check_10 : decode cX11_check 10 = .ok (.getfield 20, 3) := by decide +kernel
theorem dX11_check_13 : decode cX11_check 13 = .ok (.iload_n 1, 1) := by decide +kernel
theorem dX11_check_14 : decode cX11_check 14 = .ok (.iaload, 1) := by decide +kernel
theorem dX11_check_15 : decode cX11_check 15 = .ok (.istore_n 2, 1) := by decide +kernel
theorem dX11_check_16 : decode cX11_check 16 = .ok (.iload_n 2, 1) := by decide +kernel
theorem dX11_check_17 : decode cX11_check 17 = .ok (.bipush 51, 2) := by decide +kernel
theorem dX11_check_19 : decode cX11_check 19 = .ok (.if_icmp .eq 15, 3) := by decide +kernel
theorem dX11_check_22 : decode cX11_check 22 = .ok (.iload_n 2, 1) := by decide +kernel
theorem dX11_check_23 : decode cX11_check 23 = .ok (.bipush 52, 2) := by decide +kernel
theorem dX11_check_25 : decode cX11_check 25 = .ok (.if_icmp .eq 9, 3) := by decide +kernel
theorem dX11_check_28 : decode cX11_check 28 = .ok (.iload_n 2, 1) := by decide +kernel
theorem dX11_check_29 : decode cX11_check 29 = .ok (.bipush 13, 2) := by decide +kernel
theorem dX11_check_31 : decode cX11_check 31 = .ok (.if_icmp .ne 25, 3) := by decide +kernel
theorem dX11_check_34 : decode cX11_check 34 = .ok (.iload_n 2, 1) := by decide +kernel
theorem dX11_check_35 : decode cX11_check 35 = .ok (.bipush 51, 2) := by decide +kernel
theorem dX11_check_37 : decode cX11_check 37 = .ok (.if_icmp .ne 7, 3) := by decide +kernel
theorem dX11_check_40 : decode cX11_check 40 = .ok (.iconst 0, 1) := by decide +kernel
theorem dX11_check_41 : decode cX11_check 41 = .ok (.goto 14, 3) := by decide +kernel
theorem dX11_check_44 : decode cX11_check 44 = .ok (.iload_n 2, 1) := by decide +kernel
theorem dX11_check_45 : decode cX11_check 45 = .ok (.bipush 52, 2) := by decide +kernel
theorem dX11_check_47 : decode cX11_check 47 = .ok (.if_icmp .ne 7, 3) := by decide +kernel
theorem dX11_check_50 : decode cX11_check 50 = .ok (.iconst 1, 1) := by decide +kernel
theorem dX11_check_51 : decode cX11_check 51 = .ok (.goto 4, 3) := by decide +kernel
theorem dX11_check_54 : decode cX11_check 54 = .ok (.iconst 2, 1) := by decide +kernel
theorem dX11_check_55 : decode cX11_check 55 = .ok (.ireturn, 1) := by decide +kernel
theorem dX11_check_56 : decode cX11_check 56 = .ok (.iload_n 2, 1) := by decide +kernel
theorem dX11_check_57 : decode cX11_check 57 = .ok (.bipush 61, 2) := by decide +kernel
theorem dX11_check_59 : decode cX11_check 59 = .ok (.if_icmp .ne 53, 3) := by decide +kernel
theorem dX11_check_62 : decode cX11_check 62 = .ok (.aload_n 0, 1) := by decide +kernel
theorem dX11_check_63 : decode cX11_check 63 = .ok (.iload_n 1, 1) := by decide +kernel
theorem dX11_check_64 : decode cX11_check 64 = .ok (.invokevirtual 233, 3) := by decide +kernel
theorem dX11_check_67 : decode cX11_check 67 = .ok (.aload_n 0, 1) := by decide +kernel
theorem dX11_check_68 : decode cX11_check 68 = .ok (.getfield 219, 3) := by decide +kernel
theorem dX11_check_71 : decode cX11_check 71 = .ok (.ifCond .eq 7, 3) := by decide +kernel
theorem dX11_check_74 : decode cX11_check 74 = .ok (.iconst 2, 1) := by decide +kernel
theorem dX11_check_75 : decode cX11_check 75 = .ok (.goto 36, 3) := by decide +kernel
theorem dX11_check_78 : decode cX11_check 78 = .ok (.aload_n 0, 1) := by decide +kernel
theorem dX11_check_79 : decode cX11_check 79 = .ok (.getfield 50, 3) := by decide +kernel
theorem dX11_check_82 : decode cX11_check 82 = .ok (.iconst 4, 1) := by decide +kernel
theorem dX11_check_83 : decode cX11_check 83 = .ok (.aload_n 0, 1) := by decide +kernel
theorem dX11_check_84 : decode cX11_check 84 = .ok (.getfield 66, 3) := by decide +kernel
theorem dX11_check_87 : decode cX11_check 87 = .ok (.aload_n 0, 1) := by decide +kernel
theorem dX11_check_88 : decode cX11_check 88 = .ok (.getfield 35, 3) := by decide +kernel
theorem dX11_check_91 : decode cX11_check 91 = .ok (.iload_n 1, 1) := by decide +kernel
theorem dX11_check_92 : decode cX11_check 92 = .ok (.iaload, 1) := by decide +kernel
theorem dX11_check_93 : decode cX11_check 93 = .ok (.iaload, 1) := by decide +kernel
theorem dX11_check_94 : decode cX11_check 94 = .ok (.imul, 1) := by decide +kernel
theorem dX11_check_95 : decode cX11_check 95 = .ok (.aload_n 0, 1) := by decide +kernel
theorem dX11_check_96 : decode cX11_check 96 = .ok (.getfield 38, 3) := by decide +kernel
theorem dX11_check_99 : decode cX11_check 99 = .ok (.iload_n 1, 1) := by decide +kernel
theorem dX11_check_100 : decode cX11_check 100 = .ok (.iaload, 1) := by decide +kernel
theorem dX11_check_101 : decode cX11_check 101 = .ok (.iadd, 1) := by decide +kernel
theorem dX11_check_102 : decode cX11_check 102 = .ok (.baload, 1) := by decide +kernel
theorem dX11_check_103 : decode cX11_check 103 = .ok (.ifCond .eq 7, 3) := by decide +kernel
theorem dX11_check_106 : decode cX11_check 106 = .ok (.iconst 1, 1) := by decide +kernel
theorem dX11_check_107 : decode cX11_check 107 = .ok (.goto 4, 3) := by decide +kernel
theorem dX11_check_110 : decode cX11_check 110 = .ok (.iconst 0, 1) := by decide +kernel
theorem dX11_check_111 : decode cX11_check 111 = .ok (.ireturn, 1) := by decide +kernel
theorem dX11_check_112 : decode cX11_check 112 = .ok (.aload_n 0, 1) := by decide +kernel
theorem dX11_check_113 : decode cX11_check 113 = .ok (.aload_n 0, 1) := by decide +kernel
theorem dX11_check_114 : decode cX11_check 114 = .ok (.getfield 23, 3) := by decide +kernel
theorem dX11_check_117 : decode cX11_check 117 = .ok (.iload_n 1, 1) := by decide +kernel
theorem dX11_check_118 : decode cX11_check 118 = .ok (.iaload, 1) := by decide +kernel
theorem dX11_check_119 : decode cX11_check 119 = .ok (.invokevirtual 236, 3) := by decide +kernel
theorem dX11_check_122 : decode cX11_check 122 = .ok (.istore_n 3, 1) := by decide +kernel
theorem dX11_check_123 : decode cX11_check 123 = .ok (.aload_n 0, 1) := by decide +kernel
theorem dX11_check_124 : decode cX11_check 124 = .ok (.getfield 26, 3) := by decide +kernel
theorem dX11_check_127 : decode cX11_check 127 = .ok (.iload_n 1, 1) := by decide +kernel
theorem dX11_check_128 : decode cX11_check 128 = .ok (.iaload, 1) := by decide +kernel
theorem dX11_check_129 : decode cX11_check 129 = .ok (.ifCond .ge 7, 3) := by decide +kernel
theorem dX11_check_132 : decode cX11_check 132 = .ok (.iconst 2, 1) := by decide +kernel
theorem dX11_check_133 : decode cX11_check 133 = .ok (.goto 13, 3) := by decide +kernel
theorem dX11_check_136 : decode cX11_check 136 = .ok (.aload_n 0, 1) := by decide +kernel
theorem dX11_check_137 : decode cX11_check 137 = .ok (.aload_n 0, 1) := by decide +kernel
theorem dX11_check_138 : decode cX11_check 138 = .ok (.getfield 26, 3) := by decide +kernel
theorem dX11_check_141 : decode cX11_check 141 = .ok (.iload_n 1, 1) := by decide +kernel
theorem dX11_check_142 : decode cX11_check 142 = .ok (.iaload, 1) := by decide +kernel
theorem dX11_check_143 : decode cX11_check 143 = .ok (.invokevirtual 236, 3) := by decide +kernel
theorem dX11_check_146 : decode cX11_check 146 = .ok (.istore 4, 2) := by decide +kernel
theorem dX11_check_148 : decode cX11_check 148 = .ok (.iload_n 2, 1) := by decide +kernel
theorem dX11_check_149 : decode cX11_check 149 = .ok (.bipush 36, 2) := by decide +kernel
theorem dX11_check_151 : decode cX11_check 151 = .ok (.if_icmp .eq 33, 3) := by decide +kernel
theorem dX11_check_154 : decode cX11_check 154 = .ok (.iload_n 2, 1) := by decide +kernel
theorem dX11_check_155 : decode cX11_check 155 = .ok (.bipush 37, 2) := by decide +kernel
theorem dX11_check_157 : decode cX11_check 157 = .ok (.if_icmp .eq 27, 3) := by decide +kernel
theorem dX11_check_160 : decode cX11_check 160 = .ok (.iload_n 2, 1) := by decide +kernel
theorem dX11_check_161 : decode cX11_check 161 = .ok (.bipush 38, 2) := by decide +kernel
theorem dX11_check_163 : decode cX11_check 163 = .ok (.if_icmp .eq 21, 3) := by decide +kernel
theorem dX11_check_166 : decode cX11_check 166 = .ok (.iload_n 2, 1) := by decide +kernel
theorem dX11_check_167 : decode cX11_check 167 = .ok (.bipush 39, 2) := by decide +kernel
theorem dX11_check_169 : decode cX11_check 169 = .ok (.if_icmp .eq 15, 3) := by decide +kernel
theorem dX11_check_172 : decode cX11_check 172 = .ok (.iload_n 2, 1) := by decide +kernel
theorem dX11_check_173 : decode cX11_check 173 = .ok (.bipush 60, 2) := by decide +kernel
theorem dX11_check_175 : decode cX11_check 175 = .ok (.if_icmp .eq 9, 3) := by decide +kernel
theorem dX11_check_178 : decode cX11_check 178 = .ok (.iload_n 2, 1) := by decide +kernel
theorem dX11_check_179 : decode cX11_check 179 = .ok (.bipush 18, 2) := by decide +kernel
theorem dX11_check_181 : decode cX11_check 181 = .ok (.if_icmp .ne 7, 3) := by decide +kernel
theorem dX11_check_184 : decode cX11_check 184 = .ok (.iconst 1, 1) := by decide +kernel
theorem dX11_check_185 : decode cX11_check 185 = .ok (.goto 4, 3) := by decide +kernel
theorem dX11_check_188 : decode cX11_check 188 = .ok (.iconst 0, 1) := by decide +kernel
theorem dX11_check_189 : decode cX11_check 189 = .ok (.istore 5, 2) := by decide +kernel
theorem dX11_check_191 : decode cX11_check 191 = .ok (.iload 5, 2) := by decide +kernel
theorem dX11_check_193 : decode cX11_check 193 = .ok (.ifCond .eq 21, 3) := by decide +kernel
theorem dX11_check_196 : decode cX11_check 196 = .ok (.iload_n 3, 1) := by decide +kernel
theorem dX11_check_197 : decode cX11_check 197 = .ok (.iconst 1, 1) := by decide +kernel
theorem dX11_check_198 : decode cX11_check 198 = .ok (.if_icmp .eq 9, 3) := by decide +kernel
theorem dX11_check_201 : decode cX11_check 201 = .ok (.iload 4, 2) := by decide +kernel
theorem dX11_check_203 : decode cX11_check 203 = .ok (.iconst 1, 1) := by decide +kernel
theorem dX11_check_204 : decode cX11_check 204 = .ok (.if_icmp .ne 10, 3) := by decide +kernel
theorem dX11_check_207 : decode cX11_check 207 = .ok (.aload_n 0, 1) := by decide +kernel
theorem dX11_check_208 : decode cX11_check 208 = .ok (.sipush (-1002), 3) := by decide +kernel
theorem dX11_check_211 : decode cX11_check 211 = .ok (.invokevirtual 229, 3) := by decide +kernel
theorem dX11_check_214 : decode cX11_check 214 = .ok (.iload_n 2, 1) := by decide +kernel
theorem dX11_check_215 : decode cX11_check 215 = .ok (.bipush 40, 2) := by decide +kernel
theorem dX11_check_217 : decode cX11_check 217 = .ok (.if_icmp .lt 24, 3) := by decide +kernel
theorem dX11_check_220 : decode cX11_check 220 = .ok (.iload_n 2, 1) := by decide +kernel
theorem dX11_check_221 : decode cX11_check 221 = .ok (.bipush 45, 2) := by decide +kernel
theorem dX11_check_223 : decode cX11_check 223 = .ok (.if_icmp .gt 18, 3) := by decide +kernel
theorem dX11_check_226 : decode cX11_check 226 = .ok (.iload_n 3, 1) := by decide +kernel
theorem dX11_check_227 : decode cX11_check 227 = .ok (.iload 4, 2) := by decide +kernel
theorem dX11_check_229 : decode cX11_check 229 = .ok (.iadd, 1) := by decide +kernel
theorem dX11_check_230 : decode cX11_check 230 = .ok (.iconst 1, 1) := by decide +kernel
theorem dX11_check_231 : decode cX11_check 231 = .ok (.if_icmp .ne 10, 3) := by decide +kernel
theorem dX11_check_234 : decode cX11_check 234 = .ok (.aload_n 0, 1) := by decide +kernel
theorem dX11_check_235 : decode cX11_check 235 = .ok (.sipush (-1002), 3) := by decide +kernel
theorem dX11_check_238 : decode cX11_check 238 = .ok (.invokevirtual 229, 3) := by decide +kernel
theorem dX11_check_241 : decode cX11_check 241 = .ok (.iload_n 2, 1) := by decide +kernel
theorem dX11_check_242 : decode cX11_check 242 = .ok (.bipush 19, 2) := by decide +kernel
theorem dX11_check_244 : decode cX11_check 244 = .ok (.if_icmp .le 13, 3) := by decide +kernel
theorem dX11_check_247 : decode cX11_check 247 = .ok (.iload_n 2, 1) := by decide +kernel
theorem dX11_check_248 : decode cX11_check 248 = .ok (.bipush 21, 2) := by decide +kernel
theorem dX11_check_250 : decode cX11_check 250 = .ok (.if_icmp .gt 7, 3) := by decide +kernel
theorem dX11_check_253 : decode cX11_check 253 = .ok (.iload_n 3, 1) := by decide +kernel
theorem dX11_check_254 : decode cX11_check 254 = .ok (.goto 4, 3) := by decide +kernel
theorem dX11_check_257 : decode cX11_check 257 = .ok (.iconst 0, 1) := by decide +kernel
theorem dX11_check_258 : decode cX11_check 258 = .ok (.ireturn, 1) := by decide +kernel
theorem b_X11_check_0 {h : Nat} {L : LVs} {st : List AV} {S : ST} {Q : Option AV → ST → Prop} (k : o_al L st S (fun L st S => o_get L st S (fun L st S => t_1 L st S (fun x => x = nI 0) (fun L st S => V MX11_check h 9 L st S Q) (fun L st S => V MX11_check h 7 L st S Q)) 11 28 (0, 0, 0)) 0) : V MX11_check h 0 L st S Q :=
  v_aload_n dX11_check_0 rfl (fun L st S k => v_get dX11_check_1 rfl iX11 LY_11 rfl (by decide) rfl fl_X11_219 (fun L st S k => w_if_eq dX11_check_4 (by decide) rfl k) k) k
theorem b_X11_check_7 {h : Nat} {L : LVs} {st : List AV} {S : ST} {Q : Option AV → ST → Prop} (k : o_c L st S (fun L st S => t_ir st S Q) (nI 2)) : V MX11_check h 7 L st S Q :=
  v_iconst dX11_check_7 (by decide) (fun L st S k => w_ir dX11_check_8 rfl k) k
theorem b_X11_check_9 {h : Nat} {L : LVs} {st : List AV} {S : ST} {Q : Option AV → ST → Prop} (k : o_al L st S (fun L st S => o_get L st S (fun L st S => o_il L st S (fun L st S => o_iald L st S (fun L st S => o_is L st S (fun L st S => o_il L st S (fun L st S => o_c L st S (fun L st S => t_2 L st S (fun x y => x = y) (fun L st S => V MX11_check h 34 L st S Q) (fun L st S => V MX11_check h 22 L st S Q)) (nI 51)) 2) 2)) 1) 11 8 (3, 43, 0)) 0) : V MX11_check h 9 L st S Q :=
  v_aload_n dX11_check_9 rfl (fun L st S k => v_get dX11_check_10 rfl iX11 LY_11 rfl (by decide) rfl fl_X11_20 (fun L st S k => v_iload_n dX11_check_13 rfl (fun L st S k => v_iaload dX11_check_14 (fun L st S k => v_istore_n dX11_check_15 rfl (by decide) (fun L st S k => v_iload_n dX11_check_16 rfl (fun L st S k => v_bipush dX11_check_17 (by decide) (fun L st S k => w_icmp_eq dX11_check_19 (by decide) rfl k) k) k) k) k) k) k) k
theorem b_X11_check_22 {h : Nat} {L : LVs} {st : List AV} {S : ST} {Q : Option AV → ST → Prop} (k : o_il L st S (fun L st S => o_c L st S (fun L st S => t_2 L st S (fun x y => x = y) (fun L st S => V MX11_check h 34 L st S Q) (fun L st S => V MX11_check h 28 L st S Q)) (nI 52)) 2) : V MX11_check h 22 L st S Q :=
  v_iload_n dX11_check_22 rfl (fun L st S k => v_bipush dX11_check_23 (by decide) (fun L st S k => w_icmp_eq dX11_check_25 (by decide) rfl k) k) k
theorem b_X11_check_28 {h : Nat} {L : LVs} {st : List AV} {S : ST} {Q : Option AV → ST → Prop} (k : o_il L st S (fun L st S => o_c L st S (fun L st S => t_2 L st S (fun x y => x = y) (fun L st S => V MX11_check h 34 L st S Q) (fun L st S => V MX11_check h 56 L st S Q)) (nI 13)) 2) : V MX11_check h 28 L st S Q :=
  v_iload_n dX11_check_28 rfl (fun L st S k => v_bipush dX11_check_29 (by decide) (fun L st S k => w_icmp_ne dX11_check_31 (by decide) rfl k) k) k
theorem b_X11_check_34 {h : Nat} {L : LVs} {st : List AV} {S : ST} {Q : Option AV → ST → Prop} (k : o_il L st S (fun L st S => o_c L st S (fun L st S => t_2 L st S (fun x y => x = y) (fun L st S => V MX11_check h 40 L st S Q) (fun L st S => V MX11_check h 44 L st S Q)) (nI 51)) 2) : V MX11_check h 34 L st S Q :=
  v_iload_n dX11_check_34 rfl (fun L st S k => v_bipush dX11_check_35 (by decide) (fun L st S k => w_icmp_ne dX11_check_37 (by decide) rfl k) k) k
theorem b_X11_check_40 {h : Nat} {L : LVs} {st : List AV} {S : ST} {Q : Option AV → ST → Prop} (k : o_c L st S (fun L st S => V MX11_check h 55 L st S Q) (nI 0)) : V MX11_check h 40 L st S Q :=
  v_iconst dX11_check_40 (by decide) (fun L st S k => v_goto dX11_check_41 (by decide) k) k
theorem b_X11_check_44 {h : Nat} {L : LVs} {st : List AV} {S : ST} {Q : Option AV → ST → Prop} (k : o_il L st S (fun L st S => o_c L st S (fun L st S => t_2 L st S (fun x y => x = y) (fun L st S => V MX11_check h 50 L st S Q) (fun L st S => V MX11_check h 54 L st S Q)) (nI 52)) 2) : V MX11_check h 44 L st S Q :=
  v_iload_n dX11_check_44 rfl (fun L st S k => v_bipush dX11_check_45 (by decide) (fun L st S k => w_icmp_ne dX11_check_47 (by decide) rfl k) k) k
theorem b_X11_check_50 {h : Nat} {L : LVs} {st : List AV} {S : ST} {Q : Option AV → ST → Prop} (k : o_c L st S (fun L st S => V MX11_check h 55 L st S Q) (nI 1)) : V MX11_check h 50 L st S Q :=
  v_iconst dX11_check_50 (by decide) (fun L st S k => v_goto dX11_check_51 (by decide) k) k
theorem b_X11_check_54 {h : Nat} {L : LVs} {st : List AV} {S : ST} {Q : Option AV → ST → Prop} (k : o_c L st S (fun L st S => V MX11_check h 55 L st S Q) (nI 2)) : V MX11_check h 54 L st S Q :=
  v_iconst dX11_check_54 (by decide) (fun L st S k => k) k
theorem b_X11_check_55 {h : Nat} {L : LVs} {st : List AV} {S : ST} {Q : Option AV → ST → Prop} (k : t_ir st S Q) : V MX11_check h 55 L st S Q :=
  w_ir dX11_check_55 rfl k
theorem b_X11_check_56 {h : Nat} {L : LVs} {st : List AV} {S : ST} {Q : Option AV → ST → Prop} (k : o_il L st S (fun L st S => o_c L st S (fun L st S => t_2 L st S (fun x y => x = y) (fun L st S => V MX11_check h 62 L st S Q) (fun L st S => V MX11_check h 112 L st S Q)) (nI 61)) 2) : V MX11_check h 56 L st S Q :=
  v_iload_n dX11_check_56 rfl (fun L st S k => v_bipush dX11_check_57 (by decide) (fun L st S k => w_icmp_ne dX11_check_59 (by decide) rfl k) k) k
theorem b_X11_check_62 {h : Nat} {L : LVs} {st : List AV} {S : ST} {Q : Option AV → ST → Prop} (k : o_al L st S (fun L st S => o_il L st S (fun L st S => V MX11_check h 64 L st S Q) 1) 0) : V MX11_check h 62 L st S Q :=
  v_aload_n dX11_check_62 rfl (fun L st S k => v_iload_n dX11_check_63 rfl (fun L st S k => k) k) k
theorem k_X11_check_64 {h : Nat} {L : LVs} {st : List AV} {S : ST} {Q Q' : Option AV → ST → Prop} {j : Nat} {a0 : AV} (hC : Ct MX11_findPlace h [vR 11 j, a0] S Q') (k : ∀ (r : Option AV) (S' : ST), Q' r S' → V MX11_check (h + 1) 67 L (r.toList ++ st) S' Q) (hj : j < NI 11) (hw : wid st ≤ 8) : V MX11_check (h + 1) 64 L (a0 :: vR 11 j :: st) S Q :=
  v_callV (M' := MX11_findPlace) (c := 11) (As := [a0]) dX11_check_64 ml_X11_233 im_X11_findPlace se_X11_findPlace in_X11 cd_X11_findPlace rfl LY_11 np_X11_findPlace (by decide) hw hj hC k
theorem b_X11_check_67 {h : Nat} {L : LVs} {st : List AV} {S : ST} {Q : Option AV → ST → Prop} (k : o_al L st S (fun L st S => o_get L st S (fun L st S => t_1 L st S (fun x => x = nI 0) (fun L st S => V MX11_check h 78 L st S Q) (fun L st S => V MX11_check h 74 L st S Q)) 11 28 (0, 0, 0)) 0) : V MX11_check h 67 L st S Q :=
  v_aload_n dX11_check_67 rfl (fun L st S k => v_get dX11_check_68 rfl iX11 LY_11 rfl (by decide) rfl fl_X11_219 (fun L st S k => w_if_eq dX11_check_71 (by decide) rfl k) k) k
theorem b_X11_check_74 {h : Nat} {L : LVs} {st : List AV} {S : ST} {Q : Option AV → ST → Prop} (k : o_c L st S (fun L st S => V MX11_check h 111 L st S Q) (nI 2)) : V MX11_check h 74 L st S Q :=
  v_iconst dX11_check_74 (by decide) (fun L st S k => v_goto dX11_check_75 (by decide) k) k
theorem b_X11_check_78 {h : Nat} {L : LVs} {st : List AV} {S : ST} {Q : Option AV → ST → Prop} (k : o_al L st S (fun L st S => o_get L st S (fun L st S => o_c L st S (fun L st S => o_al L st S (fun L st S => o_get L st S (fun L st S => o_al L st S (fun L st S => o_get L st S (fun L st S => o_il L st S (fun L st S => o_iald L st S (fun L st S => o_iald L st S (fun L st S => o_imul L st S (fun L st S => o_al L st S (fun L st S => o_get L st S (fun L st S => o_il L st S (fun L st S => o_iald L st S (fun L st S => o_iadd L st S (fun L st S => o_zald L st S (fun L st S => t_1 L st S (fun x => x = nI 0) (fun L st S => V MX11_check h 110 L st S Q) (fun L st S => V MX11_check h 106 L st S Q))))) 1) 11 14 (3, 49, 0)) 0)))) 1) 11 13 (3, 48, 0)) 0) 11 26 (3, 58, 0)) 0) (nI 4)) 11 20 (3, 53, 0)) 0) : V MX11_check h 78 L st S Q :=
  v_aload_n dX11_check_78 rfl (fun L st S k => v_get dX11_check_79 rfl iX11 LY_11 rfl (by decide) rfl fl_X11_50 (fun L st S k => v_iconst dX11_check_82 (by decide) (fun L st S k => v_aload_n dX11_check_83 rfl (fun L st S k => v_get dX11_check_84 rfl iX11 LY_11 rfl (by decide) rfl fl_X11_66 (fun L st S k => v_aload_n dX11_check_87 rfl (fun L st S k => v_get dX11_check_88 rfl iX11 LY_11 rfl (by decide) rfl fl_X11_35 (fun L st S k => v_iload_n dX11_check_91 rfl (fun L st S k => v_iaload dX11_check_92 (fun L st S k => v_iaload dX11_check_93 (fun L st S k => v_imul dX11_check_94 (fun L st S k => v_aload_n dX11_check_95 rfl (fun L st S k => v_get dX11_check_96 rfl iX11 LY_11 rfl (by decide) rfl fl_X11_38 (fun L st S k => v_iload_n dX11_check_99 rfl (fun L st S k => v_iaload dX11_check_100 (fun L st S k => v_iadd dX11_check_101 (fun L st S k => v_zaload dX11_check_102 (fun L st S k => w_if_eq dX11_check_103 (by decide) rfl k) k) k) k) k) k) k) k) k) k) k) k) k) k) k) k) k) k
theorem b_X11_check_106 {h : Nat} {L : LVs} {st : List AV} {S : ST} {Q : Option AV → ST → Prop} (k : o_c L st S (fun L st S => V MX11_check h 111 L st S Q) (nI 1)) : V MX11_check h 106 L st S Q :=
  v_iconst dX11_check_106 (by decide) (fun L st S k => v_goto dX11_check_107 (by decide) k) k
theorem b_X11_check_110 {h : Nat} {L : LVs} {st : List AV} {S : ST} {Q : Option AV → ST → Prop} (k : o_c L st S (fun L st S => V MX11_check h 111 L st S Q) (nI 0)) : V MX11_check h 110 L st S Q :=
  v_iconst dX11_check_110 (by decide) (fun L st S k => k) k
theorem b_X11_check_111 {h : Nat} {L : LVs} {st : List AV} {S : ST} {Q : Option AV → ST → Prop} (k : t_ir st S Q) : V MX11_check h 111 L st S Q :=
  w_ir dX11_check_111 rfl k
theorem b_X11_check_112 {h : Nat} {L : LVs} {st : List AV} {S : ST} {Q : Option AV → ST → Prop} (k : o_al L st S (fun L st S => o_al L st S (fun L st S => o_get L st S (fun L st S => o_il L st S (fun L st S => o_iald L st S (fun L st S => V MX11_check h 119 L st S Q)) 1) 11 9 (3, 44, 0)) 0) 0) : V MX11_check h 112 L st S Q :=
  v_aload_n dX11_check_112 rfl (fun L st S k => v_aload_n dX11_check_113 rfl (fun L st S k => v_get dX11_check_114 rfl iX11 LY_11 rfl (by decide) rfl fl_X11_23 (fun L st S k => v_iload_n dX11_check_117 rfl (fun L st S k => v_iaload dX11_check_118 (fun L st S k => k) k) k) k) k) k
theorem k_X11_check_119 {h : Nat} {L : LVs} {st : List AV} {S : ST} {Q Q' : Option AV → ST → Prop} {j : Nat} {a0 : AV} (hC : Ct MX11_check h [vR 11 j, a0] S Q') (k : ∀ (r : Option AV) (S' : ST), Q' r S' → V MX11_check (h + 1) 122 L (r.toList ++ st) S' Q) (hj : j < NI 11) (hw : wid st ≤ 8) : V MX11_check (h + 1) 119 L (a0 :: vR 11 j :: st) S Q :=
  v_callV (M' := MX11_check) (c := 11) (As := [a0]) dX11_check_119 ml_X11_236 im_X11_check se_X11_check in_X11 cd_X11_check rfl LY_11 np_X11_check (by decide) hw hj hC k
theorem b_X11_check_122 {h : Nat} {L : LVs} {st : List AV} {S : ST} {Q : Option AV → ST → Prop} (k : o_is L st S (fun L st S => o_al L st S (fun L st S => o_get L st S (fun L st S => o_il L st S (fun L st S => o_iald L st S (fun L st S => t_1 L st S (fun x => nI 0 ≤ x) (fun L st S => V MX11_check h 136 L st S Q) (fun L st S => V MX11_check h 132 L st S Q))) 1) 11 10 (3, 45, 0)) 0) 3) : V MX11_check h 122 L st S Q :=
  v_istore_n dX11_check_122 rfl (by decide) (fun L st S k => v_aload_n dX11_check_123 rfl (fun L st S k => v_get dX11_check_124 rfl iX11 LY_11 rfl (by decide) rfl fl_X11_26 (fun L st S k => v_iload_n dX11_check_127 rfl (fun L st S k => v_iaload dX11_check_128 (fun L st S k => w_if_ge dX11_check_129 (by decide) rfl k) k) k) k) k) k
theorem b_X11_check_132 {h : Nat} {L : LVs} {st : List AV} {S : ST} {Q : Option AV → ST → Prop} (k : o_c L st S (fun L st S => V MX11_check h 146 L st S Q) (nI 2)) : V MX11_check h 132 L st S Q :=
  v_iconst dX11_check_132 (by decide) (fun L st S k => v_goto dX11_check_133 (by decide) k) k
theorem b_X11_check_136 {h : Nat} {L : LVs} {st : List AV} {S : ST} {Q : Option AV → ST → Prop} (k : o_al L st S (fun L st S => o_al L st S (fun L st S => o_get L st S (fun L st S => o_il L st S (fun L st S => o_iald L st S (fun L st S => V MX11_check h 143 L st S Q)) 1) 11 10 (3, 45, 0)) 0) 0) : V MX11_check h 136 L st S Q :=
  v_aload_n dX11_check_136 rfl (fun L st S k => v_aload_n dX11_check_137 rfl (fun L st S k => v_get dX11_check_138 rfl iX11 LY_11 rfl (by decide) rfl fl_X11_26 (fun L st S k => v_iload_n dX11_check_141 rfl (fun L st S k => v_iaload dX11_check_142 (fun L st S k => k) k) k) k) k) k
theorem k_X11_check_143 {h : Nat} {L : LVs} {st : List AV} {S : ST} {Q Q' : Option AV → ST → Prop} {j : Nat} {a0 : AV} (hC : Ct MX11_check h [vR 11 j, a0] S Q') (k : ∀ (r : Option AV) (S' : ST), Q' r S' → V MX11_check (h + 1) 146 L (r.toList ++ st) S' Q) (hj : j < NI 11) (hw : wid st ≤ 8) : V MX11_check (h + 1) 143 L (a0 :: vR 11 j :: st) S Q :=
  v_callV (M' := MX11_check) (c := 11) (As := [a0]) dX11_check_143 ml_X11_236 im_X11_check se_X11_check in_X11 cd_X11_check rfl LY_11 np_X11_check (by decide) hw hj hC k
theorem b_X11_check_146 {h : Nat} {L : LVs} {st : List AV} {S : ST} {Q : Option AV → ST → Prop} (k : o_is L st S (fun L st S => o_il L st S (fun L st S => o_c L st S (fun L st S => t_2 L st S (fun x y => x = y) (fun L st S => V MX11_check h 184 L st S Q) (fun L st S => V MX11_check h 154 L st S Q)) (nI 36)) 2) 4) : V MX11_check h 146 L st S Q :=
  v_istore dX11_check_146 (by decide) (fun L st S k => v_iload_n dX11_check_148 rfl (fun L st S k => v_bipush dX11_check_149 (by decide) (fun L st S k => w_icmp_eq dX11_check_151 (by decide) rfl k) k) k) k
theorem b_X11_check_154 {h : Nat} {L : LVs} {st : List AV} {S : ST} {Q : Option AV → ST → Prop} (k : o_il L st S (fun L st S => o_c L st S (fun L st S => t_2 L st S (fun x y => x = y) (fun L st S => V MX11_check h 184 L st S Q) (fun L st S => V MX11_check h 160 L st S Q)) (nI 37)) 2) : V MX11_check h 154 L st S Q :=
  v_iload_n dX11_check_154 rfl (fun L st S k => v_bipush dX11_check_155 (by decide) (fun L st S k => w_icmp_eq dX11_check_157 (by decide) rfl k) k) k
theorem b_X11_check_160 {h : Nat} {L : LVs} {st : List AV} {S : ST} {Q : Option AV → ST → Prop} (k : o_il L st S (fun L st S => o_c L st S (fun L st S => t_2 L st S (fun x y => x = y) (fun L st S => V MX11_check h 184 L st S Q) (fun L st S => V MX11_check h 166 L st S Q)) (nI 38)) 2) : V MX11_check h 160 L st S Q :=
  v_iload_n dX11_check_160 rfl (fun L st S k => v_bipush dX11_check_161 (by decide) (fun L st S k => w_icmp_eq dX11_check_163 (by decide) rfl k) k) k
theorem b_X11_check_166 {h : Nat} {L : LVs} {st : List AV} {S : ST} {Q : Option AV → ST → Prop} (k : o_il L st S (fun L st S => o_c L st S (fun L st S => t_2 L st S (fun x y => x = y) (fun L st S => V MX11_check h 184 L st S Q) (fun L st S => V MX11_check h 172 L st S Q)) (nI 39)) 2) : V MX11_check h 166 L st S Q :=
  v_iload_n dX11_check_166 rfl (fun L st S k => v_bipush dX11_check_167 (by decide) (fun L st S k => w_icmp_eq dX11_check_169 (by decide) rfl k) k) k
theorem b_X11_check_172 {h : Nat} {L : LVs} {st : List AV} {S : ST} {Q : Option AV → ST → Prop} (k : o_il L st S (fun L st S => o_c L st S (fun L st S => t_2 L st S (fun x y => x = y) (fun L st S => V MX11_check h 184 L st S Q) (fun L st S => V MX11_check h 178 L st S Q)) (nI 60)) 2) : V MX11_check h 172 L st S Q :=
  v_iload_n dX11_check_172 rfl (fun L st S k => v_bipush dX11_check_173 (by decide) (fun L st S k => w_icmp_eq dX11_check_175 (by decide) rfl k) k) k
theorem b_X11_check_178 {h : Nat} {L : LVs} {st : List AV} {S : ST} {Q : Option AV → ST → Prop} (k : o_il L st S (fun L st S => o_c L st S (fun L st S => t_2 L st S (fun x y => x = y) (fun L st S => V MX11_check h 184 L st S Q) (fun L st S => V MX11_check h 188 L st S Q)) (nI 18)) 2) : V MX11_check h 178 L st S Q :=
  v_iload_n dX11_check_178 rfl (fun L st S k => v_bipush dX11_check_179 (by decide) (fun L st S k => w_icmp_ne dX11_check_181 (by decide) rfl k) k) k
theorem b_X11_check_184 {h : Nat} {L : LVs} {st : List AV} {S : ST} {Q : Option AV → ST → Prop} (k : o_c L st S (fun L st S => V MX11_check h 189 L st S Q) (nI 1)) : V MX11_check h 184 L st S Q :=
  v_iconst dX11_check_184 (by decide) (fun L st S k => v_goto dX11_check_185 (by decide) k) k
theorem b_X11_check_188 {h : Nat} {L : LVs} {st : List AV} {S : ST} {Q : Option AV → ST → Prop} (k : o_c L st S (fun L st S => V MX11_check h 189 L st S Q) (nI 0)) : V MX11_check h 188 L st S Q :=
  v_iconst dX11_check_188 (by decide) (fun L st S k => k) k
theorem b_X11_check_189 {h : Nat} {L : LVs} {st : List AV} {S : ST} {Q : Option AV → ST → Prop} (k : o_is L st S (fun L st S => o_il L st S (fun L st S => t_1 L st S (fun x => x = nI 0) (fun L st S => V MX11_check h 214 L st S Q) (fun L st S => V MX11_check h 196 L st S Q)) 5) 5) : V MX11_check h 189 L st S Q :=
  v_istore dX11_check_189 (by decide) (fun L st S k => v_iload dX11_check_191 (fun L st S k => w_if_eq dX11_check_193 (by decide) rfl k) k) k
theorem b_X11_check_196 {h : Nat} {L : LVs} {st : List AV} {S : ST} {Q : Option AV → ST → Prop} (k : o_il L st S (fun L st S => o_c L st S (fun L st S => t_2 L st S (fun x y => x = y) (fun L st S => V MX11_check h 207 L st S Q) (fun L st S => V MX11_check h 201 L st S Q)) (nI 1)) 3) : V MX11_check h 196 L st S Q :=
  v_iload_n dX11_check_196 rfl (fun L st S k => v_iconst dX11_check_197 (by decide) (fun L st S k => w_icmp_eq dX11_check_198 (by decide) rfl k) k) k
theorem b_X11_check_201 {h : Nat} {L : LVs} {st : List AV} {S : ST} {Q : Option AV → ST → Prop} (k : o_il L st S (fun L st S => o_c L st S (fun L st S => t_2 L st S (fun x y => x = y) (fun L st S => V MX11_check h 207 L st S Q) (fun L st S => V MX11_check h 214 L st S Q)) (nI 1)) 4) : V MX11_check h 201 L st S Q :=
  v_iload dX11_check_201 (fun L st S k => v_iconst dX11_check_203 (by decide) (fun L st S k => w_icmp_ne dX11_check_204 (by decide) rfl k) k) k
theorem b_X11_check_207 {h : Nat} {L : LVs} {st : List AV} {S : ST} {Q : Option AV → ST → Prop} (k : o_al L st S (fun L st S => o_c L st S (fun L st S => V MX11_check h 211 L st S Q) (-1002)) 0) : V MX11_check h 207 L st S Q :=
  v_aload_n dX11_check_207 rfl (fun L st S k => v_sipush dX11_check_208 (by decide) (fun L st S k => k) k) k
theorem k_X11_check_211 {h : Nat} {L : LVs} {st : List AV} {S : ST} {Q Q' : Option AV → ST → Prop} {j : Nat} {a0 : AV} (hC : Ct MX11_fails h [vR 11 j, a0] S Q') (k : ∀ (r : Option AV) (S' : ST), Q' r S' → V MX11_check (h + 1) 214 L (r.toList ++ st) S' Q) (hj : j < NI 11) (hw : wid st ≤ 8) : V MX11_check (h + 1) 211 L (a0 :: vR 11 j :: st) S Q :=
  v_callV (M' := MX11_fails) (c := 11) (As := [a0]) dX11_check_211 ml_X11_229 im_X11_fails se_X11_fails in_X11 cd_X11_fails rfl LY_11 np_X11_fails (by decide) hw hj hC k
theorem b_X11_check_214 {h : Nat} {L : LVs} {st : List AV} {S : ST} {Q : Option AV → ST → Prop} (k : o_il L st S (fun L st S => o_c L st S (fun L st S => t_2 L st S (fun x y => x < y) (fun L st S => V MX11_check h 241 L st S Q) (fun L st S => V MX11_check h 220 L st S Q)) (nI 40)) 2) : V MX11_check h 214 L st S Q :=
  v_iload_n dX11_check_214 rfl (fun L st S k => v_bipush dX11_check_215 (by decide) (fun L st S k => w_icmp_lt dX11_check_217 (by decide) rfl k) k) k
theorem b_X11_check_220 {h : Nat} {L : LVs} {st : List AV} {S : ST} {Q : Option AV → ST → Prop} (k : o_il L st S (fun L st S => o_c L st S (fun L st S => t_2 L st S (fun x y => y < x) (fun L st S => V MX11_check h 241 L st S Q) (fun L st S => V MX11_check h 226 L st S Q)) (nI 45)) 2) : V MX11_check h 220 L st S Q :=
  v_iload_n dX11_check_220 rfl (fun L st S k => v_bipush dX11_check_221 (by decide) (fun L st S k => w_icmp_gt dX11_check_223 (by decide) rfl k) k) k
theorem b_X11_check_226 {h : Nat} {L : LVs} {st : List AV} {S : ST} {Q : Option AV → ST → Prop} (k : o_il L st S (fun L st S => o_il L st S (fun L st S => o_iadd L st S (fun L st S => o_c L st S (fun L st S => t_2 L st S (fun x y => x = y) (fun L st S => V MX11_check h 234 L st S Q) (fun L st S => V MX11_check h 241 L st S Q)) (nI 1))) 4) 3) : V MX11_check h 226 L st S Q :=
  v_iload_n dX11_check_226 rfl (fun L st S k => v_iload dX11_check_227 (fun L st S k => v_iadd dX11_check_229 (fun L st S k => v_iconst dX11_check_230 (by decide) (fun L st S k => w_icmp_ne dX11_check_231 (by decide) rfl k) k) k) k) k
theorem b_X11_check_234 {h : Nat} {L : LVs} {st : List AV} {S : ST} {Q : Option AV → ST → Prop} (k : o_al L st S (fun L st S => o_c L st S (fun L st S => V MX11_check h 238 L st S Q) (-1002)) 0) : V MX11_check h 234 L st S Q :=
  v_aload_n dX11_check_234 rfl (fun L st S k => v_sipush dX11_check_235 (by decide) (fun L st S k => k) k) k
theorem k_X11_check_238 {h : Nat} {L : LVs} {st : List AV} {S : ST} {Q Q' : Option AV → ST → Prop} {j : Nat} {a0 : AV} (hC : Ct MX11_fails h [vR 11 j, a0] S Q') (k : ∀ (r : Option AV) (S' : ST), Q' r S' → V MX11_check (h + 1) 241 L (r.toList ++ st) S' Q) (hj : j < NI 11) (hw : wid st ≤ 8) : V MX11_check (h + 1) 238 L (a0 :: vR 11 j :: st) S Q :=
  v_callV (M' := MX11_fails) (c := 11) (As := [a0]) dX11_check_238 ml_X11_229 im_X11_fails se_X11_fails in_X11 cd_X11_fails rfl LY_11 np_X11_fails (by decide) hw hj hC k
theorem b_X11_check_241 {h : Nat} {L : LVs} {st : List AV} {S : ST} {Q : Option AV → ST → Prop} (k : o_il L st S (fun L st S => o_c L st S (fun L st S => t_2 L st S (fun x y => x ≤ y) (fun L st S => V MX11_check h 257 L st S Q) (fun L st S => V MX11_check h 247 L st S Q)) (nI 19)) 2) : V MX11_check h 241 L st S Q :=
  v_iload_n dX11_check_241 rfl (fun L st S k => v_bipush dX11_check_242 (by decide) (fun L st S k => w_icmp_le dX11_check_244 (by decide) rfl k) k) k
theorem b_X11_check_247 {h : Nat} {L : LVs} {st : List AV} {S : ST} {Q : Option AV → ST → Prop} (k : o_il L st S (fun L st S => o_c L st S (fun L st S => t_2 L st S (fun x y => y < x) (fun L st S => V MX11_check h 257 L st S Q) (fun L st S => V MX11_check h 253 L st S Q)) (nI 21)) 2) : V MX11_check h 247 L st S Q :=
  v_iload_n dX11_check_247 rfl (fun L st S k => v_bipush dX11_check_248 (by decide) (fun L st S k => w_icmp_gt dX11_check_250 (by decide) rfl k) k) k
theorem b_X11_check_253 {h : Nat} {L : LVs} {st : List AV} {S : ST} {Q : Option AV → ST → Prop} (k : o_il L st S (fun L st S => V MX11_check h 258 L st S Q) 3) : V MX11_check h 253 L st S Q :=
  v_iload_n dX11_check_253 rfl (fun L st S k => v_goto dX11_check_254 (by decide) k) k
theorem b_X11_check_257 {h : Nat} {L : LVs} {st : List AV} {S : ST} {Q : Option AV → ST → Prop} (k : o_c L st S (fun L st S => V MX11_check h 258 L st S Q) (nI 0)) : V MX11_check h 257 L st S Q :=
  v_iconst dX11_check_257 (by decide) (fun L st S k => k) k
theorem b_X11_check_258 {h : Nat} {L : LVs} {st : List AV} {S : ST} {Q : Option AV → ST → Prop} (k : t_ir st S Q) : V MX11_check h 258 L st S Q :=
  w_ir dX11_check_258 rfl k
-- QueryForgeModel.wants(I)I
theorem dX11_wants_0 : decode cX11_wants 0 = .ok (.aload_n 0, 1) := by decide +kernel
theorem dX11_wants_1 : decode cX11_wants 1 = .ok (.getfield 23, 3) := by decide +kernel
theorem dX11_wants_4 : decode cX11_wants 4 = .ok (.iload_n 1, 1) := by decide +kernel
theorem dX11_wants_5 : decode cX11_wants 5 = .ok (.iaload, 1) := by decide +kernel
theorem dX11_wants_6 : decode cX11_wants 6 = .ok (.ifCond .ge 5, 3) := by decide +kernel
theorem dX11_wants_9 : decode cX11_wants 9 = .ok (.iconst 1, 1) := by decide +kernel
theorem dX11_wants_10 : decode cX11_wants 10 = .ok (.ireturn, 1) := by decide +kernel
theorem dX11_wants_11 : decode cX11_wants 11 = .ok (.aload_n 0, 1) := by decide +kernel
theorem dX11_wants_12 : decode cX11_wants 12 = .ok (.aload_n 0, 1) := by decide +kernel
theorem dX11_wants_13 : decode cX11_wants 13 = .ok (.getfield 23, 3) := by decide +kernel
theorem dX11_wants_16 : decode cX11_wants 16 = .ok (.iload_n 1, 1) := by decide +kernel
theorem dX11_wants_17 : decode cX11_wants 17 = .ok (.iaload, 1) := by decide +kernel
theorem dX11_wants_18 : decode cX11_wants 18 = .ok (.invokevirtual 239, 3) := by decide +kernel
theorem dX11_wants_21 : decode cX11_wants 21 = .ok (.istore_n 2, 1) := by decide +kernel
theorem dX11_wants_22 : decode cX11_wants 22 = .ok (.aload_n 0, 1) := by decide +kernel
theorem dX11_wants_23 : decode cX11_wants 23 = .ok (.getfield 26, 3) := by decide +kernel
theorem dX11_wants_26 : decode cX11_wants 26 = .ok (.iload_n 1, 1) := by decide +kernel
theorem dX11_wants_27 : decode cX11_wants 27 = .ok (.iaload, 1) := by decide +kernel
theorem dX11_wants_28 : decode cX11_wants 28 = .ok (.ifCond .ge 7, 3) := by decide +kernel
theorem dX11_wants_31 : decode cX11_wants 31 = .ok (.iconst 0, 1) := by decide +kernel
theorem dX11_wants_32 : decode cX11_wants 32 = .ok (.goto 15, 3) := by decide +kernel
theorem dX11_wants_35 : decode cX11_wants 35 = .ok (.aload_n 0, 1) := by decide +kernel
theorem dX11_wants_36 : decode cX11_wants 36 = .ok (.aload_n 0, 1) := by decide +kernel
theorem dX11_wants_37 : decode cX11_wants 37 = .ok (.getfield 26, 3) := by decide +kernel
theorem dX11_wants_40 : decode cX11_wants 40 = .ok (.iload_n 1, 1) := by decide +kernel
theorem dX11_wants_41 : decode cX11_wants 41 = .ok (.iaload, 1) := by decide +kernel
theorem dX11_wants_42 : decode cX11_wants 42 = .ok (.invokevirtual 239, 3) := by decide +kernel
theorem dX11_wants_45 : decode cX11_wants 45 = .ok (.iconst 1, 1) := by decide +kernel
theorem dX11_wants_46 : decode cX11_wants 46 = .ok (.iadd, 1) := by decide +kernel
theorem dX11_wants_47 : decode cX11_wants 47 = .ok (.istore_n 3, 1) := by decide +kernel
theorem dX11_wants_48 : decode cX11_wants 48 = .ok (.iload_n 2, 1) := by decide +kernel
theorem dX11_wants_49 : decode cX11_wants 49 = .ok (.iload_n 3, 1) := by decide +kernel
theorem dX11_wants_50 : decode cX11_wants 50 = .ok (.if_icmp .le 7, 3) := by decide +kernel
theorem dX11_wants_53 : decode cX11_wants 53 = .ok (.iload_n 2, 1) := by decide +kernel
theorem dX11_wants_54 : decode cX11_wants 54 = .ok (.goto 4, 3) := by decide +kernel
theorem dX11_wants_57 : decode cX11_wants 57 = .ok (.iload_n 3, 1) := by decide +kernel
theorem dX11_wants_58 : decode cX11_wants 58 = .ok (.ireturn, 1) := by decide +kernel
theorem b_X11_wants_0 {h : Nat} {L : LVs} {st : List AV} {S : ST} {Q : Option AV → ST → Prop} (k : o_al L st S (fun L st S => o_get L st S (fun L st S => o_il L st S (fun L st S => o_iald L st S (fun L st S => t_1 L st S (fun x => nI 0 ≤ x) (fun L st S => V MX11_wants h 11 L st S Q) (fun L st S => V MX11_wants h 9 L st S Q))) 1) 11 9 (3, 44, 0)) 0) : V MX11_wants h 0 L st S Q :=
  v_aload_n dX11_wants_0 rfl (fun L st S k => v_get dX11_wants_1 rfl iX11 LY_11 rfl (by decide) rfl fl_X11_23 (fun L st S k => v_iload_n dX11_wants_4 rfl (fun L st S k => v_iaload dX11_wants_5 (fun L st S k => w_if_ge dX11_wants_6 (by decide) rfl k) k) k) k) k
theorem b_X11_wants_9 {h : Nat} {L : LVs} {st : List AV} {S : ST} {Q : Option AV → ST → Prop} (k : o_c L st S (fun L st S => t_ir st S Q) (nI 1)) : V MX11_wants h 9 L st S Q :=
  v_iconst dX11_wants_9 (by decide) (fun L st S k => w_ir dX11_wants_10 rfl k) k
theorem b_X11_wants_11 {h : Nat} {L : LVs} {st : List AV} {S : ST} {Q : Option AV → ST → Prop} (k : o_al L st S (fun L st S => o_al L st S (fun L st S => o_get L st S (fun L st S => o_il L st S (fun L st S => o_iald L st S (fun L st S => V MX11_wants h 18 L st S Q)) 1) 11 9 (3, 44, 0)) 0) 0) : V MX11_wants h 11 L st S Q :=
  v_aload_n dX11_wants_11 rfl (fun L st S k => v_aload_n dX11_wants_12 rfl (fun L st S k => v_get dX11_wants_13 rfl iX11 LY_11 rfl (by decide) rfl fl_X11_23 (fun L st S k => v_iload_n dX11_wants_16 rfl (fun L st S k => v_iaload dX11_wants_17 (fun L st S k => k) k) k) k) k) k
theorem k_X11_wants_18 {h : Nat} {L : LVs} {st : List AV} {S : ST} {Q Q' : Option AV → ST → Prop} {j : Nat} {a0 : AV} (hC : Ct MX11_wants h [vR 11 j, a0] S Q') (k : ∀ (r : Option AV) (S' : ST), Q' r S' → V MX11_wants (h + 1) 21 L (r.toList ++ st) S' Q) (hj : j < NI 11) (hw : wid st ≤ 8) : V MX11_wants (h + 1) 18 L (a0 :: vR 11 j :: st) S Q :=
  v_callV (M' := MX11_wants) (c := 11) (As := [a0]) dX11_wants_18 ml_X11_239 im_X11_wants se_X11_wants in_X11 cd_X11_wants rfl LY_11 np_X11_wants (by decide) hw hj hC k
theorem b_X11_wants_21 {h : Nat} {L : LVs} {st : List AV} {S : ST} {Q : Option AV → ST → Prop} (k : o_is L st S (fun L st S => o_al L st S (fun L st S => o_get L st S (fun L st S => o_il L st S (fun L st S => o_iald L st S (fun L st S => t_1 L st S (fun x => nI 0 ≤ x) (fun L st S => V MX11_wants h 35 L st S Q) (fun L st S => V MX11_wants h 31 L st S Q))) 1) 11 10 (3, 45, 0)) 0) 2) : V MX11_wants h 21 L st S Q :=
  v_istore_n dX11_wants_21 rfl (by decide) (fun L st S k => v_aload_n dX11_wants_22 rfl (fun L st S k => v_get dX11_wants_23 rfl iX11 LY_11 rfl (by decide) rfl fl_X11_26 (fun L st S k => v_iload_n dX11_wants_26 rfl (fun L st S k => v_iaload dX11_wants_27 (fun L st S k => w_if_ge dX11_wants_28 (by decide) rfl k) k) k) k) k) k
theorem b_X11_wants_31 {h : Nat} {L : LVs} {st : List AV} {S : ST} {Q : Option AV → ST → Prop} (k : o_c L st S (fun L st S => V MX11_wants h 47 L st S Q) (nI 0)) : V MX11_wants h 31 L st S Q :=
  v_iconst dX11_wants_31 (by decide) (fun L st S k => v_goto dX11_wants_32 (by decide) k) k
theorem b_X11_wants_35 {h : Nat} {L : LVs} {st : List AV} {S : ST} {Q : Option AV → ST → Prop} (k : o_al L st S (fun L st S => o_al L st S (fun L st S => o_get L st S (fun L st S => o_il L st S (fun L st S => o_iald L st S (fun L st S => V MX11_wants h 42 L st S Q)) 1) 11 10 (3, 45, 0)) 0) 0) : V MX11_wants h 35 L st S Q :=
  v_aload_n dX11_wants_35 rfl (fun L st S k => v_aload_n dX11_wants_36 rfl (fun L st S k => v_get dX11_wants_37 rfl iX11 LY_11 rfl (by decide) rfl fl_X11_26 (fun L st S k => v_iload_n dX11_wants_40 rfl (fun L st S k => v_iaload dX11_wants_41 (fun L st S k => k) k) k) k) k) k
theorem k_X11_wants_42 {h : Nat} {L : LVs} {st : List AV} {S : ST} {Q Q' : Option AV → ST → Prop} {j : Nat} {a0 : AV} (hC : Ct MX11_wants h [vR 11 j, a0] S Q') (k : ∀ (r : Option AV) (S' : ST), Q' r S' → V MX11_wants (h + 1) 45 L (r.toList ++ st) S' Q) (hj : j < NI 11) (hw : wid st ≤ 8) : V MX11_wants (h + 1) 42 L (a0 :: vR 11 j :: st) S Q :=
  v_callV (M' := MX11_wants) (c := 11) (As := [a0]) dX11_wants_42 ml_X11_239 im_X11_wants se_X11_wants in_X11 cd_X11_wants rfl LY_11 np_X11_wants (by decide) hw hj hC k
theorem b_X11_wants_45 {h : Nat} {L : LVs} {st : List AV} {S : ST} {Q : Option AV → ST → Prop} (k : o_c L st S (fun L st S => o_iadd L st S (fun L st S => V MX11_wants h 47 L st S Q)) (nI 1)) : V MX11_wants h 45 L st S Q :=
  v_iconst dX11_wants_45 (by decide) (fun L st S k => v_iadd dX11_wants_46 (fun L st S k => k) k) k
theorem b_X11_wants_47 {h : Nat} {L : LVs} {st : List AV} {S : ST} {Q : Option AV → ST → Prop} (k : o_is L st S (fun L st S => o_il L st S (fun L st S => o_il L st S (fun L st S => t_2 L st S (fun x y => x ≤ y) (fun L st S => V MX11_wants h 57 L st S Q) (fun L st S => V MX11_wants h 53 L st S Q)) 3) 2) 3) : V MX11_wants h 47 L st S Q :=
  v_istore_n dX11_wants_47 rfl (by decide) (fun L st S k => v_iload_n dX11_wants_48 rfl (fun L st S k => v_iload_n dX11_wants_49 rfl (fun L st S k => w_icmp_le dX11_wants_50 (by decide) rfl k) k) k) k
theorem b_X11_wants_53 {h : Nat} {L : LVs} {st : List AV} {S : ST} {Q : Option AV → ST → Prop} (k : o_il L st S (fun L st S => V MX11_wants h 58 L st S Q) 2) : V MX11_wants h 53 L st S Q :=
  v_iload_n dX11_wants_53 rfl (fun L st S k => v_goto dX11_wants_54 (by decide) k) k
theorem b_X11_wants_57 {h : Nat} {L : LVs} {st : List AV} {S : ST} {Q : Option AV → ST → Prop} (k : o_il L st S (fun L st S => V MX11_wants h 58 L st S Q) 3) : V MX11_wants h 57 L st S Q :=
  v_iload_n dX11_wants_57 rfl (fun L st S k => k) k
theorem b_X11_wants_58 {h : Nat} {L : LVs} {st : List AV} {S : ST} {Q : Option AV → ST → Prop} (k : t_ir st S Q) : V MX11_wants h 58 L st S Q :=
  w_ir dX11_wants_58 rfl k
-- QueryForgeModel.checkDeep(I)V
theorem dX11_checkDeep_0 : decode cX11_checkDeep 0 = .ok (.iload_n 1, 1) := by decide +kernel
theorem dX11_checkDeep_1 : decode cX11_checkDeep 1 = .ok (.ifCond .lt 27, 3) := by decide +kernel
theorem dX11_checkDeep_4 : decode cX11_checkDeep 4 = .ok (.aload_n 0, 1) := by decide +kernel
theorem dX11_checkDeep_5 : decode cX11_checkDeep 5 = .ok (.getfield 219, 3) := by decide +kernel
theorem dX11_checkDeep_8 : decode cX11_checkDeep 8 = .ok (.ifCond .ne 20, 3) := by decide +kernel
theorem dX11_checkDeep_11 : decode cX11_checkDeep 11 = .ok (.aload_n 0, 1) := by decide +kernel
theorem dX11_checkDeep_12 : decode cX11_checkDeep 12 = .ok (.iload_n 1, 1) := by decide +kernel
theorem dX11_checkDeep_13 : decode cX11_checkDeep 13 = .ok (.invokevirtual 239, 3) := by decide +kernel
theorem dX11_checkDeep_16 : decode cX11_checkDeep 16 = .ok (.bipush 10, 2) := by decide +kernel
theorem dX11_checkDeep_18 : decode cX11_checkDeep 18 = .ok (.if_icmp .le 10, 3) := by decide +kernel
theorem dX11_checkDeep_21 : decode cX11_checkDeep 21 = .ok (.aload_n 0, 1) := by decide +kernel
theorem dX11_checkDeep_22 : decode cX11_checkDeep 22 = .ok (.sipush (-1008), 3) := by decide +kernel
theorem dX11_checkDeep_25 : decode cX11_checkDeep 25 = .ok (.invokevirtual 229, 3) := by decide +kernel
theorem dX11_checkDeep_28 : decode cX11_checkDeep 28 = .ok (.return_, 1) := by decide +kernel
theorem b_X11_checkDeep_0 {h : Nat} {L : LVs} {st : List AV} {S : ST} {Q : Option AV → ST → Prop} (k : o_il L st S (fun L st S => t_1 L st S (fun x => x < nI 0) (fun L st S => V MX11_checkDeep h 28 L st S Q) (fun L st S => V MX11_checkDeep h 4 L st S Q)) 1) : V MX11_checkDeep h 0 L st S Q :=
  v_iload_n dX11_checkDeep_0 rfl (fun L st S k => w_if_lt dX11_checkDeep_1 (by decide) rfl k) k
theorem b_X11_checkDeep_4 {h : Nat} {L : LVs} {st : List AV} {S : ST} {Q : Option AV → ST → Prop} (k : o_al L st S (fun L st S => o_get L st S (fun L st S => t_1 L st S (fun x => x = nI 0) (fun L st S => V MX11_checkDeep h 11 L st S Q) (fun L st S => V MX11_checkDeep h 28 L st S Q)) 11 28 (0, 0, 0)) 0) : V MX11_checkDeep h 4 L st S Q :=
  v_aload_n dX11_checkDeep_4 rfl (fun L st S k => v_get dX11_checkDeep_5 rfl iX11 LY_11 rfl (by decide) rfl fl_X11_219 (fun L st S k => w_if_ne dX11_checkDeep_8 (by decide) rfl k) k) k
theorem b_X11_checkDeep_11 {h : Nat} {L : LVs} {st : List AV} {S : ST} {Q : Option AV → ST → Prop} (k : o_al L st S (fun L st S => o_il L st S (fun L st S => V MX11_checkDeep h 13 L st S Q) 1) 0) : V MX11_checkDeep h 11 L st S Q :=
  v_aload_n dX11_checkDeep_11 rfl (fun L st S k => v_iload_n dX11_checkDeep_12 rfl (fun L st S k => k) k) k
theorem k_X11_checkDeep_13 {h : Nat} {L : LVs} {st : List AV} {S : ST} {Q Q' : Option AV → ST → Prop} {j : Nat} {a0 : AV} (hC : Ct MX11_wants h [vR 11 j, a0] S Q') (k : ∀ (r : Option AV) (S' : ST), Q' r S' → V MX11_checkDeep (h + 1) 16 L (r.toList ++ st) S' Q) (hj : j < NI 11) (hw : wid st ≤ 8) : V MX11_checkDeep (h + 1) 13 L (a0 :: vR 11 j :: st) S Q :=
  v_callV (M' := MX11_wants) (c := 11) (As := [a0]) dX11_checkDeep_13 ml_X11_239 im_X11_wants se_X11_wants in_X11 cd_X11_wants rfl LY_11 np_X11_wants (by decide) hw hj hC k
theorem b_X11_checkDeep_16 {h : Nat} {L : LVs} {st : List AV} {S : ST} {Q : Option AV → ST → Prop} (k : o_c L st S (fun L st S => t_2 L st S (fun x y => x ≤ y) (fun L st S => V MX11_checkDeep h 28 L st S Q) (fun L st S => V MX11_checkDeep h 21 L st S Q)) (nI 10)) : V MX11_checkDeep h 16 L st S Q :=
  v_bipush dX11_checkDeep_16 (by decide) (fun L st S k => w_icmp_le dX11_checkDeep_18 (by decide) rfl k) k
theorem b_X11_checkDeep_21 {h : Nat} {L : LVs} {st : List AV} {S : ST} {Q : Option AV → ST → Prop} (k : o_al L st S (fun L st S => o_c L st S (fun L st S => V MX11_checkDeep h 25 L st S Q) (-1008)) 0) : V MX11_checkDeep h 21 L st S Q :=
  v_aload_n dX11_checkDeep_21 rfl (fun L st S k => v_sipush dX11_checkDeep_22 (by decide) (fun L st S k => k) k) k
theorem k_X11_checkDeep_25 {h : Nat} {L : LVs} {st : List AV} {S : ST} {Q Q' : Option AV → ST → Prop} {j : Nat} {a0 : AV} (hC : Ct MX11_fails h [vR 11 j, a0] S Q') (k : ∀ (r : Option AV) (S' : ST), Q' r S' → V MX11_checkDeep (h + 1) 28 L (r.toList ++ st) S' Q) (hj : j < NI 11) (hw : wid st ≤ 8) : V MX11_checkDeep (h + 1) 25 L (a0 :: vR 11 j :: st) S Q :=
  v_callV (M' := MX11_fails) (c := 11) (As := [a0]) dX11_checkDeep_25 ml_X11_229 im_X11_fails se_X11_fails in_X11 cd_X11_fails rfl LY_11 np_X11_fails (by decide) hw hj hC k
theorem b_X11_checkDeep_28 {h : Nat} {L : LVs} {st : List AV} {S : ST} {Q : Option AV → ST → Prop} (k : t_vr st S Q) : V MX11_checkDeep h 28 L st S Q :=
  w_vr dX11_checkDeep_28 rfl k
-- QueryForgeModel.inBounds(J)I
theorem dX11_inBounds_0 : decode cX11_inBounds 0 = .ok (.lload_n 1, 1) := by decide +kernel
theorem dX11_inBounds_1 : decode cX11_inBounds 1 = .ok (.lload_n 1, 1) := by decide +kernel
theorem dX11_inBounds_2 : decode cX11_inBounds 2 = .ok (.l2i, 1) := by decide +kernel
theorem dX11_inBounds_3 : decode cX11_inBounds 3 = .ok (.i2l, 1) := by decide +kernel
theorem dX11_inBounds_4 : decode cX11_inBounds 4 = .ok (.lcmp, 1) := by decide +kernel
theorem dX11_inBounds_5 : decode cX11_inBounds 5 = .ok (.ifCond .eq 10, 3) := by decide +kernel
theorem dX11_inBounds_8 : decode cX11_inBounds 8 = .ok (.aload_n 0, 1) := by decide +kernel
theorem dX11_inBounds_9 : decode cX11_inBounds 9 = .ok (.sipush (-1005), 3) := by decide +kernel
theorem dX11_inBounds_12 : decode cX11_inBounds 12 = .ok (.invokevirtual 229, 3) := by decide +kernel
theorem dX11_inBounds_15 : decode cX11_inBounds 15 = .ok (.lload_n 1, 1) := by decide +kernel
theorem dX11_inBounds_16 : decode cX11_inBounds 16 = .ok (.l2i, 1) := by decide +kernel
theorem dX11_inBounds_17 : decode cX11_inBounds 17 = .ok (.ireturn, 1) := by decide +kernel
theorem b_X11_inBounds_0 {h : Nat} {L : LVs} {st : List AV} {S : ST} {Q : Option AV → ST → Prop} (k : o_ll L st S (fun L st S => o_ll L st S (fun L st S => o_l2i L st S (fun L st S => o_i2l L st S (fun L st S => o_lcmp L st S (fun L st S => t_1 L st S (fun x => x = nI 0) (fun L st S => V MX11_inBounds h 15 L st S Q) (fun L st S => V MX11_inBounds h 8 L st S Q))))) 1) 1) : V MX11_inBounds h 0 L st S Q :=
  v_lload_n dX11_inBounds_0 rfl (fun L st S k => v_lload_n dX11_inBounds_1 rfl (fun L st S k => v_l2i dX11_inBounds_2 (fun L st S k => v_i2l dX11_inBounds_3 (fun L st S k => v_lcmp dX11_inBounds_4 (fun L st S k => w_if_eq dX11_inBounds_5 (by decide) rfl k) k) k) k) k) k
theorem b_X11_inBounds_8 {h : Nat} {L : LVs} {st : List AV} {S : ST} {Q : Option AV → ST → Prop} (k : o_al L st S (fun L st S => o_c L st S (fun L st S => V MX11_inBounds h 12 L st S Q) (-1005)) 0) : V MX11_inBounds h 8 L st S Q :=
  v_aload_n dX11_inBounds_8 rfl (fun L st S k => v_sipush dX11_inBounds_9 (by decide) (fun L st S k => k) k) k
theorem k_X11_inBounds_12 {h : Nat} {L : LVs} {st : List AV} {S : ST} {Q Q' : Option AV → ST → Prop} {j : Nat} {a0 : AV} (hC : Ct MX11_fails h [vR 11 j, a0] S Q') (k : ∀ (r : Option AV) (S' : ST), Q' r S' → V MX11_inBounds (h + 1) 15 L (r.toList ++ st) S' Q) (hj : j < NI 11) (hw : wid st ≤ 8) : V MX11_inBounds (h + 1) 12 L (a0 :: vR 11 j :: st) S Q :=
  v_callV (M' := MX11_fails) (c := 11) (As := [a0]) dX11_inBounds_12 ml_X11_229 im_X11_fails se_X11_fails in_X11 cd_X11_fails rfl LY_11 np_X11_fails (by decide) hw hj hC k
theorem b_X11_inBounds_15 {h : Nat} {L : LVs} {st : List AV} {S : ST} {Q : Option AV → ST → Prop} (k : o_ll L st S (fun L st S => o_l2i L st S (fun L st S => t_ir st S Q)) 1) : V MX11_inBounds h 15 L st S Q :=
  v_lload_n dX11_inBounds_15 rfl (fun L st S k => v_l2i dX11_inBounds_16 (fun L st S k => w_ir dX11_inBounds_17 rfl k) k) k
-- QueryForgeModel.work(I)I
theorem dX11_work_0 : decode cX11_work 0 = .ok (.aload_n 0, 1) := by decide +kernel
theorem dX11_work_1 : decode cX11_work 1 = .ok (.getfield 20, 3) := by decide +kernel
theorem dX11_work_4 : decode cX11_work 4 = .ok (.iload_n 1, 1) := by decide +kernel
theorem dX11_work_5 : decode cX11_work 5 = .ok (.iaload, 1) := by decide +kernel
theorem dX11_work_6 : decode cX11_work 6 = .ok (.istore_n 2, 1) := by decide +kernel
theorem dX11_work_7 : decode cX11_work 7 = .ok (.aload_n 0, 1) := by decide +kernel
theorem dX11_work_8 : decode cX11_work 8 = .ok (.getfield 219, 3) := by decide +kernel
theorem dX11_work_11 : decode cX11_work 11 = .ok (.ifCond .eq 5, 3) := by decide +kernel
theorem dX11_work_14 : decode cX11_work 14 = .ok (.iconst 0, 1) := by decide +kernel
theorem dX11_work_15 : decode cX11_work 15 = .ok (.ireturn, 1) := by decide +kernel
theorem dX11_work_16 : decode cX11_work 16 = .ok (.iload_n 2, 1) := by decide +kernel
theorem dX11_work_17 : decode cX11_work 17 = .ok (.bipush 13, 2) := by decide +kernel
theorem dX11_work_19 : decode cX11_work 19 = .ok (.if_icmp .ne 10, 3) := by decide +kernel
theorem dX11_work_22 : decode cX11_work 22 = .ok (.aload_n 0, 1) := by decide +kernel
theorem dX11_work_23 : decode cX11_work 23 = .ok (.iconst 1, 1) := by decide +kernel
theorem dX11_work_24 : decode cX11_work 24 = .ok (.putfield 242, 3) := by decide +kernel
theorem dX11_work_27 : decode cX11_work 27 = .ok (.iconst 0, 1) := by decide +kernel
theorem dX11_work_28 : decode cX11_work 28 = .ok (.ireturn, 1) := by decide +kernel
theorem dX11_work_29 : decode cX11_work 29 = .ok (.iload_n 2, 1) := by decide +kernel
theorem dX11_work_30 : decode cX11_work 30 = .ok (.bipush 51, 2) := by decide +kernel
theorem dX11_work_32 : decode cX11_work 32 = .ok (.if_icmp .eq 9, 3) := by decide +kernel
theorem dX11_work_35 : decode cX11_work 35 = .ok (.iload_n 2, 1) := by decide +kernel
theorem dX11_work_36 : decode cX11_work 36 = .ok (.bipush 52, 2) := by decide +kernel
theorem dX11_work_38 : decode cX11_work 38 = .ok (.if_icmp .ne 16, 3) := by decide +kernel
theorem dX11_work_41 : decode cX11_work 41 = .ok (.aload_n 0, 1) := by decide +kernel
theorem dX11_work_42 : decode cX11_work 42 = .ok (.iconst 0, 1) := by decide +kernel
theorem dX11_work_43 : decode cX11_work 43 = .ok (.putfield 242, 3) := by decide +kernel
theorem dX11_work_46 : decode cX11_work 46 = .ok (.aload_n 0, 1) := by decide +kernel
theorem dX11_work_47 : decode cX11_work 47 = .ok (.getfield 29, 3) := by decide +kernel
theorem dX11_work_50 : decode cX11_work 50 = .ok (.iload_n 1, 1) := by decide +kernel
theorem dX11_work_51 : decode cX11_work 51 = .ok (.laload, 1) := by decide +kernel
theorem dX11_work_52 : decode cX11_work 52 = .ok (.l2i, 1) := by decide +kernel
theorem dX11_work_53 : decode cX11_work 53 = .ok (.ireturn, 1) := by decide +kernel
theorem dX11_work_54 : decode cX11_work 54 = .ok (.iload_n 2, 1) := by decide +kernel
theorem dX11_work_55 : decode cX11_work 55 = .ok (.bipush 61, 2) := by decide +kernel
theorem dX11_work_57 : decode cX11_work 57 = .ok (.if_icmp .ne 67, 3) := by decide +kernel
theorem dX11_work_60 : decode cX11_work 60 = .ok (.bipush 96, 2) := by decide +kernel
theorem dX11_work_62 : decode cX11_work 62 = .ok (.aload_n 0, 1) := by decide +kernel
theorem dX11_work_63 : decode cX11_work 63 = .ok (.getfield 66, 3) := by decide +kernel
theorem dX11_work_66 : decode cX11_work 66 = .ok (.aload_n 0, 1) := by decide +kernel
theorem dX11_work_67 : decode cX11_work 67 = .ok (.getfield 35, 3) := by decide +kernel
theorem dX11_work_70 : decode cX11_work 70 = .ok (.iload_n 1, 1) := by decide +kernel
theorem dX11_work_71 : decode cX11_work 71 = .ok (.iaload, 1) := by decide +kernel
theorem dX11_work_72 : decode cX11_work 72 = .ok (.iaload, 1) := by decide +kernel
theorem dX11_work_73 : decode cX11_work 73 = .ok (.imul, 1) := by decide +kernel
theorem dX11_work_74 : decode cX11_work 74 = .ok (.iconst 4, 1) := by decide +kernel
theorem dX11_work_75 : decode cX11_work 75 = .ok (.aload_n 0, 1) := by decide +kernel
theorem dX11_work_76 : decode cX11_work 76 = .ok (.getfield 69, 3) := by decide +kernel
theorem dX11_work_79 : decode cX11_work 79 = .ok (.aload_n 0, 1) := by decide +kernel
theorem dX11_work_80 : decode cX11_work 80 = .ok (.getfield 35, 3) := by decide +kernel
theorem dX11_work_83 : decode cX11_work 83 = .ok (.iload_n 1, 1) := by decide +kernel
theorem dX11_work_84 : decode cX11_work 84 = .ok (.iaload, 1) := by decide +kernel
theorem dX11_work_85 : decode cX11_work 85 = .ok (.iaload, 1) := by decide +kernel
theorem dX11_work_86 : decode cX11_work 86 = .ok (.imul, 1) := by decide +kernel
theorem dX11_work_87 : decode cX11_work 87 = .ok (.iadd, 1) := by decide +kernel
theorem dX11_work_88 : decode cX11_work 88 = .ok (.aload_n 0, 1) := by decide +kernel
theorem dX11_work_89 : decode cX11_work 89 = .ok (.getfield 38, 3) := by decide +kernel
theorem dX11_work_92 : decode cX11_work 92 = .ok (.iload_n 1, 1) := by decide +kernel
theorem dX11_work_93 : decode cX11_work 93 = .ok (.iaload, 1) := by decide +kernel
theorem dX11_work_94 : decode cX11_work 94 = .ok (.iadd, 1) := by decide +kernel
theorem dX11_work_95 : decode cX11_work 95 = .ok (.istore_n 3, 1) := by decide +kernel
theorem dX11_work_96 : decode cX11_work 96 = .ok (.aload_n 0, 1) := by decide +kernel
theorem dX11_work_97 : decode cX11_work 97 = .ok (.aload_n 0, 1) := by decide +kernel
theorem dX11_work_98 : decode cX11_work 98 = .ok (.getfield 60, 3) := by decide +kernel
theorem dX11_work_101 : decode cX11_work 101 = .ok (.iload_n 3, 1) := by decide +kernel
theorem dX11_work_102 : decode cX11_work 102 = .ok (.baload, 1) := by decide +kernel
theorem dX11_work_103 : decode cX11_work 103 = .ok (.putfield 242, 3) := by decide +kernel
theorem dX11_work_106 : decode cX11_work 106 = .ok (.aload_n 0, 1) := by decide +kernel
theorem dX11_work_107 : decode cX11_work 107 = .ok (.getfield 242, 3) := by decide +kernel
theorem dX11_work_110 : decode cX11_work 110 = .ok (.ifCond .eq 7, 3) := by decide +kernel
theorem dX11_work_113 : decode cX11_work 113 = .ok (.iconst 0, 1) := by decide +kernel
theorem dX11_work_114 : decode cX11_work 114 = .ok (.goto 9, 3) := by decide +kernel
theorem dX11_work_117 : decode cX11_work 117 = .ok (.aload_n 0, 1) := by decide +kernel
theorem dX11_work_118 : decode cX11_work 118 = .ok (.getfield 57, 3) := by decide +kernel
theorem dX11_work_121 : decode cX11_work 121 = .ok (.iload_n 3, 1) := by decide +kernel
theorem dX11_work_122 : decode cX11_work 122 = .ok (.iaload, 1) := by decide +kernel
theorem dX11_work_123 : decode cX11_work 123 = .ok (.ireturn, 1) := by decide +kernel
theorem dX11_work_124 : decode cX11_work 124 = .ok (.aload_n 0, 1) := by decide +kernel
theorem dX11_work_125 : decode cX11_work 125 = .ok (.aload_n 0, 1) := by decide +kernel
theorem dX11_work_126 : decode cX11_work 126 = .ok (.getfield 23, 3) := by decide +kernel
theorem dX11_work_129 : decode cX11_work 129 = .ok (.iload_n 1, 1) := by decide +kernel
theorem dX11_work_130 : decode cX11_work 130 = .ok (.iaload, 1) := by decide +kernel
theorem dX11_work_131 : decode cX11_work 131 = .ok (.invokevirtual 246, 3) := by decide +kernel
theorem dX11_work_134 : decode cX11_work 134 = .ok (.istore_n 3, 1) := by decide +kernel
theorem dX11_work_135 : decode cX11_work 135 = .ok (.aload_n 0, 1) := by decide +kernel
theorem dX11_work_136 : decode cX11_work 136 = .ok (.getfield 242, 3) := by decide +kernel
theorem dX11_work_139 : decode cX11_work 139 = .ok (.istore 4, 2) := by decide +kernel
theorem dX11_work_141 : decode cX11_work 141 = .ok (.aload_n 0, 1) := by decide +kernel
theorem dX11_work_142 : decode cX11_work 142 = .ok (.getfield 26, 3) := by decide +kernel
theorem dX11_work_145 : decode cX11_work 145 = .ok (.iload_n 1, 1) := by decide +kernel
theorem dX11_work_146 : decode cX11_work 146 = .ok (.iaload, 1) := by decide +kernel
theorem dX11_work_147 : decode cX11_work 147 = .ok (.ifCond .ge 7, 3) := by decide +kernel
theorem dX11_work_150 : decode cX11_work 150 = .ok (.iconst 0, 1) := by decide +kernel
theorem dX11_work_151 : decode cX11_work 151 = .ok (.goto 13, 3) := by decide +kernel
theorem dX11_work_154 : decode cX11_work 154 = .ok (.aload_n 0, 1) := by decide +kernel
theorem dX11_work_155 : decode cX11_work 155 = .ok (.aload_n 0, 1) := by decide +kernel
theorem dX11_work_156 : decode cX11_work 156 = .ok (.getfield 26, 3) := by decide +kernel
theorem dX11_work_159 : decode cX11_work 159 = .ok (.iload_n 1, 1) := by decide +kernel
theorem dX11_work_160 : decode cX11_work 160 = .ok (.iaload, 1) := by decide +kernel
theorem dX11_work_161 : decode cX11_work 161 = .ok (.invokevirtual 246, 3) := by decide +kernel
theorem dX11_work_164 : decode cX11_work 164 = .ok (.istore 5, 2) := by decide +kernel
theorem dX11_work_166 : decode cX11_work 166 = .ok (.aload_n 0, 1) := by decide +kernel
theorem dX11_work_167 : decode cX11_work 167 = .ok (.iload 4, 2) := by decide +kernel
theorem dX11_work_169 : decode cX11_work 169 = .ok (.ifCond .ne 19, 3) := by decide +kernel
theorem dX11_work_172 : decode cX11_work 172 = .ok (.aload_n 0, 1) := by decide +kernel
theorem dX11_work_173 : decode cX11_work 173 = .ok (.getfield 26, 3) := by decide +kernel
theorem dX11_work_176 : decode cX11_work 176 = .ok (.iload_n 1, 1) := by decide +kernel
theorem dX11_work_177 : decode cX11_work 177 = .ok (.iaload, 1) := by decide +kernel
theorem dX11_work_178 : decode cX11_work 178 = .ok (.ifCond .lt 14, 3) := by decide +kernel
theorem dX11_work_181 : decode cX11_work 181 = .ok (.aload_n 0, 1) := by decide +kernel
theorem dX11_work_182 : decode cX11_work 182 = .ok (.getfield 242, 3) := by decide +kernel
theorem dX11_work_185 : decode cX11_work 185 = .ok (.ifCond .eq 7, 3) := by decide +kernel
theorem dX11_work_188 : decode cX11_work 188 = .ok (.iconst 1, 1) := by decide +kernel
theorem dX11_work_189 : decode cX11_work 189 = .ok (.goto 4, 3) := by decide +kernel
theorem dX11_work_192 : decode cX11_work 192 = .ok (.iconst 0, 1) := by decide +kernel
theorem dX11_work_193 : decode cX11_work 193 = .ok (.putfield 242, 3) := by decide +kernel
theorem dX11_work_196 : decode cX11_work 196 = .ok (.aload_n 0, 1) := by decide +kernel
theorem dX11_work_197 : decode cX11_work 197 = .ok (.getfield 242, 3) := by decide +kernel
theorem dX11_work_200 : decode cX11_work 200 = .ok (.ifCond .ne 10, 3) := by decide +kernel
theorem dX11_work_203 : decode cX11_work 203 = .ok (.aload_n 0, 1) := by decide +kernel
theorem dX11_work_204 : decode cX11_work 204 = .ok (.getfield 219, 3) := by decide +kernel
theorem dX11_work_207 : decode cX11_work 207 = .ok (.ifCond .eq 5, 3) := by decide +kernel
theorem dX11_work_210 : decode cX11_work 210 = .ok (.iconst 0, 1) := by decide +kernel
theorem dX11_work_211 : decode cX11_work 211 = .ok (.ireturn, 1) := by decide +kernel
theorem dX11_work_212 : decode cX11_work 212 = .ok (.iload_n 2, 1) := by decide +kernel
theorem dX11_work_213 : decode cX11_work 213 = .ok (.tableswitch 89 36 39 #[31, 42, 53, 64], 31) := by decide +kernel
theorem dX11_work_244 : decode cX11_work 244 = .ok (.aload_n 0, 1) := by decide +kernel
theorem dX11_work_245 : decode cX11_work 245 = .ok (.iload_n 3, 1) := by decide +kernel
theorem dX11_work_246 : decode cX11_work 246 = .ok (.i2l, 1) := by decide +kernel
theorem dX11_work_247 : decode cX11_work 247 = .ok (.iload 5, 2) := by decide +kernel
theorem dX11_work_249 : decode cX11_work 249 = .ok (.i2l, 1) := by decide +kernel
theorem dX11_work_250 : decode cX11_work 250 = .ok (.ladd, 1) := by decide +kernel
theorem dX11_work_251 : decode cX11_work 251 = .ok (.invokevirtual 249, 3) := by decide +kernel
theorem dX11_work_254 : decode cX11_work 254 = .ok (.ireturn, 1) := by decide +kernel
theorem dX11_work_255 : decode cX11_work 255 = .ok (.aload_n 0, 1) := by decide +kernel
theorem dX11_work_256 : decode cX11_work 256 = .ok (.iload_n 3, 1) := by decide +kernel
theorem dX11_work_257 : decode cX11_work 257 = .ok (.i2l, 1) := by decide +kernel
theorem dX11_work_258 : decode cX11_work 258 = .ok (.iload 5, 2) := by decide +kernel
theorem dX11_work_260 : decode cX11_work 260 = .ok (.i2l, 1) := by decide +kernel
theorem dX11_work_261 : decode cX11_work 261 = .ok (.lsub, 1) := by decide +kernel
theorem dX11_work_262 : decode cX11_work 262 = .ok (.invokevirtual 249, 3) := by decide +kernel
theorem dX11_work_265 : decode cX11_work 265 = .ok (.ireturn, 1) := by decide +kernel
theorem dX11_work_266 : decode cX11_work 266 = .ok (.aload_n 0, 1) := by decide +kernel
theorem dX11_work_267 : decode cX11_work 267 = .ok (.iload_n 3, 1) := by decide +kernel
theorem dX11_work_268 : decode cX11_work 268 = .ok (.i2l, 1) := by decide +kernel
theorem dX11_work_269 : decode cX11_work 269 = .ok (.iload 5, 2) := by decide +kernel
theorem dX11_work_271 : decode cX11_work 271 = .ok (.i2l, 1) := by decide +kernel
theorem dX11_work_272 : decode cX11_work 272 = .ok (.lmul, 1) := by decide +kernel
theorem dX11_work_273 : decode cX11_work 273 = .ok (.invokevirtual 249, 3) := by decide +kernel
theorem dX11_work_276 : decode cX11_work 276 = .ok (.ireturn, 1) := by decide +kernel
theorem dX11_work_277 : decode cX11_work 277 = .ok (.iload 5, 2) := by decide +kernel
theorem dX11_work_279 : decode cX11_work 279 = .ok (.ifCond .ne 12, 3) := by decide +kernel
theorem dX11_work_282 : decode cX11_work 282 = .ok (.aload_n 0, 1) := by decide +kernel
theorem dX11_work_283 : decode cX11_work 283 = .ok (.sipush (-1004), 3) := by decide +kernel
theorem dX11_work_286 : decode cX11_work 286 = .ok (.invokevirtual 229, 3) := by decide +kernel
theorem dX11_work_289 : decode cX11_work 289 = .ok (.iconst 0, 1) := by decide +kernel
theorem dX11_work_290 : decode cX11_work 290 = .ok (.ireturn, 1) := by decide +kernel
theorem dX11_work_291 : decode cX11_work 291 = .ok (.aload_n 0, 1) := by decide +kernel
theorem dX11_work_292 : decode cX11_work 292 = .ok (.iload_n 3, 1) := by decide +kernel
theorem dX11_work_293 : decode cX11_work 293 = .ok (.i2l, 1) := by decide +kernel
theorem dX11_work_294 : decode cX11_work 294 = .ok (.iload 5, 2) := by decide +kernel
theorem dX11_work_296 : decode cX11_work 296 = .ok (.i2l, 1) := by decide +kernel
theorem dX11_work_297 : decode cX11_work 297 = .ok (.ldiv, 1) := by decide +kernel
theorem dX11_work_298 : decode cX11_work 298 = .ok (.invokevirtual 249, 3) := by decide +kernel
theorem dX11_work_301 : decode cX11_work 301 = .ok (.ireturn, 1) := by decide +kernel
theorem dX11_work_302 : decode cX11_work 302 = .ok (.aload_n 0, 1) := by decide +kernel
theorem dX11_work_303 : decode cX11_work 303 = .ok (.iload_n 3, 1) := by decide +kernel
theorem dX11_work_304 : decode cX11_work 304 = .ok (.i2l, 1) := by decide +kernel
theorem dX11_work_305 : decode cX11_work 305 = .ok (.lneg, 1) := by decide +kernel
theorem dX11_work_306 : decode cX11_work 306 = .ok (.invokevirtual 249, 3) := by decide +kernel
theorem dX11_work_309 : decode cX11_work 309 = .ok (.ireturn, 1) := by decide +kernel
theorem b_X11_work_0 {h : Nat} {L : LVs} {st : List AV} {S : ST} {Q : Option AV → ST → Prop} (k : o_al L st S (fun L st S => o_get L st S (fun L st S => o_il L st S (fun L st S => o_iald L st S (fun L st S => o_is L st S (fun L st S => o_al L st S (fun L st S => o_get L st S (fun L st S => t_1 L st S (fun x => x = nI 0) (fun L st S => V MX11_work h 16 L st S Q) (fun L st S => V MX11_work h 14 L st S Q)) 11 28 (0, 0, 0)) 0) 2)) 1) 11 8 (3, 43, 0)) 0) : V MX11_work h 0 L st S Q :=
  v_aload_n dX11_work_0 rfl (fun L st S k => v_get dX11_work_1 rfl iX11 LY_11 rfl (by decide) rfl fl_X11_20 (fun L st S k => v_iload_n dX11_work_4 rfl (fun L st S k => v_iaload dX11_work_5 (fun L st S k => v_istore_n dX11_work_6 rfl (by decide) (fun L st S k => v_aload_n dX11_work_7 rfl (fun L st S k => v_get dX11_work_8 rfl iX11 LY_11 rfl (by decide) rfl fl_X11_219 (fun L st S k => w_if_eq dX11_work_11 (by decide) rfl k) k) k) k) k) k) k) k
theorem b_X11_work_14 {h : Nat} {L : LVs} {st : List AV} {S : ST} {Q : Option AV → ST → Prop} (k : o_c L st S (fun L st S => t_ir st S Q) (nI 0)) : V MX11_work h 14 L st S Q :=
  v_iconst dX11_work_14 (by decide) (fun L st S k => w_ir dX11_work_15 rfl k) k
theorem b_X11_work_16 {h : Nat} {L : LVs} {st : List AV} {S : ST} {Q : Option AV → ST → Prop} (k : o_il L st S (fun L st S => o_c L st S (fun L st S => t_2 L st S (fun x y => x = y) (fun L st S => V MX11_work h 22 L st S Q) (fun L st S => V MX11_work h 29 L st S Q)) (nI 13)) 2) : V MX11_work h 16 L st S Q :=
  v_iload_n dX11_work_16 rfl (fun L st S k => v_bipush dX11_work_17 (by decide) (fun L st S k => w_icmp_ne dX11_work_19 (by decide) rfl k) k) k
theorem b_X11_work_22 {h : Nat} {L : LVs} {st : List AV} {S : ST} {Q : Option AV → ST → Prop} (k : o_al L st S (fun L st S => o_c L st S (fun L st S => o_putz L st S (fun L st S => o_c L st S (fun L st S => t_ir st S Q) (nI 0)) 11 29) (nI 1)) 0) : V MX11_work h 22 L st S Q :=
  v_aload_n dX11_work_22 rfl (fun L st S k => v_iconst dX11_work_23 (by decide) (fun L st S k => v_putz dX11_work_24 rfl iX11 tyX11_ok nmX11 LY_11 rfl (by decide) rfl fl_X11_242 rfl rfl (fun L st S k => v_iconst dX11_work_27 (by decide) (fun L st S k => w_ir dX11_work_28 rfl k) k) k) k) k
theorem b_X11_work_29 {h : Nat} {L : LVs} {st : List AV} {S : ST} {Q : Option AV → ST → Prop} (k : o_il L st S (fun L st S => o_c L st S (fun L st S => t_2 L st S (fun x y => x = y) (fun L st S => V MX11_work h 41 L st S Q) (fun L st S => V MX11_work h 35 L st S Q)) (nI 51)) 2) : V MX11_work h 29 L st S Q :=
  v_iload_n dX11_work_29 rfl (fun L st S k => v_bipush dX11_work_30 (by decide) (fun L st S k => w_icmp_eq dX11_work_32 (by decide) rfl k) k) k
theorem b_X11_work_35 {h : Nat} {L : LVs} {st : List AV} {S : ST} {Q : Option AV → ST → Prop} (k : o_il L st S (fun L st S => o_c L st S (fun L st S => t_2 L st S (fun x y => x = y) (fun L st S => V MX11_work h 41 L st S Q) (fun L st S => V MX11_work h 54 L st S Q)) (nI 52)) 2) : V MX11_work h 35 L st S Q :=
  v_iload_n dX11_work_35 rfl (fun L st S k => v_bipush dX11_work_36 (by decide) (fun L st S k => w_icmp_ne dX11_work_38 (by decide) rfl k) k) k
theorem b_X11_work_41 {h : Nat} {L : LVs} {st : List AV} {S : ST} {Q : Option AV → ST → Prop} (k : o_al L st S (fun L st S => o_c L st S (fun L st S => o_putz L st S (fun L st S => o_al L st S (fun L st S => o_get L st S (fun L st S => o_il L st S (fun L st S => o_lald L st S (fun L st S => o_l2i L st S (fun L st S => t_ir st S Q))) 1) 11 11 (3, 46, 0)) 0) 11 29) (nI 0)) 0) : V MX11_work h 41 L st S Q :=
  v_aload_n dX11_work_41 rfl (fun L st S k => v_iconst dX11_work_42 (by decide) (fun L st S k => v_putz dX11_work_43 rfl iX11 tyX11_ok nmX11 LY_11 rfl (by decide) rfl fl_X11_242 rfl rfl (fun L st S k => v_aload_n dX11_work_46 rfl (fun L st S k => v_get dX11_work_47 rfl iX11 LY_11 rfl (by decide) rfl fl_X11_29 (fun L st S k => v_iload_n dX11_work_50 rfl (fun L st S k => v_laload dX11_work_51 (fun L st S k => v_l2i dX11_work_52 (fun L st S k => w_ir dX11_work_53 rfl k) k) k) k) k) k) k) k) k
theorem b_X11_work_54 {h : Nat} {L : LVs} {st : List AV} {S : ST} {Q : Option AV → ST → Prop} (k : o_il L st S (fun L st S => o_c L st S (fun L st S => t_2 L st S (fun x y => x = y) (fun L st S => V MX11_work h 60 L st S Q) (fun L st S => V MX11_work h 124 L st S Q)) (nI 61)) 2) : V MX11_work h 54 L st S Q :=
  v_iload_n dX11_work_54 rfl (fun L st S k => v_bipush dX11_work_55 (by decide) (fun L st S k => w_icmp_ne dX11_work_57 (by decide) rfl k) k) k
theorem b_X11_work_60 {h : Nat} {L : LVs} {st : List AV} {S : ST} {Q : Option AV → ST → Prop} (k : o_c L st S (fun L st S => o_al L st S (fun L st S => o_get L st S (fun L st S => o_al L st S (fun L st S => o_get L st S (fun L st S => o_il L st S (fun L st S => o_iald L st S (fun L st S => o_iald L st S (fun L st S => o_imul L st S (fun L st S => o_c L st S (fun L st S => o_al L st S (fun L st S => o_get L st S (fun L st S => o_al L st S (fun L st S => o_get L st S (fun L st S => o_il L st S (fun L st S => o_iald L st S (fun L st S => o_iald L st S (fun L st S => o_imul L st S (fun L st S => o_iadd L st S (fun L st S => o_al L st S (fun L st S => o_get L st S (fun L st S => o_il L st S (fun L st S => o_iald L st S (fun L st S => o_iadd L st S (fun L st S => o_is L st S (fun L st S => o_al L st S (fun L st S => o_al L st S (fun L st S => o_get L st S (fun L st S => o_il L st S (fun L st S => o_zald L st S (fun L st S => o_putz L st S (fun L st S => o_al L st S (fun L st S => o_get L st S (fun L st S => t_1 L st S (fun x => x = nI 0) (fun L st S => V MX11_work h 117 L st S Q) (fun L st S => V MX11_work h 113 L st S Q)) 11 29 (2, 0, 0)) 0) 11 29)) 3) 11 23 (3, 56, 0)) 0) 0) 3))) 1) 11 14 (3, 49, 0)) 0))))) 1) 11 13 (3, 48, 0)) 0) 11 27 (3, 59, 0)) 0) (nI 4))))) 1) 11 13 (3, 48, 0)) 0) 11 26 (3, 58, 0)) 0) (nI 96)) : V MX11_work h 60 L st S Q :=
  v_bipush dX11_work_60 (by decide) (fun L st S k => v_aload_n dX11_work_62 rfl (fun L st S k => v_get dX11_work_63 rfl iX11 LY_11 rfl (by decide) rfl fl_X11_66 (fun L st S k => v_aload_n dX11_work_66 rfl (fun L st S k => v_get dX11_work_67 rfl iX11 LY_11 rfl (by decide) rfl fl_X11_35 (fun L st S k => v_iload_n dX11_work_70 rfl (fun L st S k => v_iaload dX11_work_71 (fun L st S k => v_iaload dX11_work_72 (fun L st S k => v_imul dX11_work_73 (fun L st S k => v_iconst dX11_work_74 (by decide) (fun L st S k => v_aload_n dX11_work_75 rfl (fun L st S k => v_get dX11_work_76 rfl iX11 LY_11 rfl (by decide) rfl fl_X11_69 (fun L st S k => v_aload_n dX11_work_79 rfl (fun L st S k => v_get dX11_work_80 rfl iX11 LY_11 rfl (by decide) rfl fl_X11_35 (fun L st S k => v_iload_n dX11_work_83 rfl (fun L st S k => v_iaload dX11_work_84 (fun L st S k => v_iaload dX11_work_85 (fun L st S k => v_imul dX11_work_86 (fun L st S k => v_iadd dX11_work_87 (fun L st S k => v_aload_n dX11_work_88 rfl (fun L st S k => v_get dX11_work_89 rfl iX11 LY_11 rfl (by decide) rfl fl_X11_38 (fun L st S k => v_iload_n dX11_work_92 rfl (fun L st S k => v_iaload dX11_work_93 (fun L st S k => v_iadd dX11_work_94 (fun L st S k => v_istore_n dX11_work_95 rfl (by decide) (fun L st S k => v_aload_n dX11_work_96 rfl (fun L st S k => v_aload_n dX11_work_97 rfl (fun L st S k => v_get dX11_work_98 rfl iX11 LY_11 rfl (by decide) rfl fl_X11_60 (fun L st S k => v_iload_n dX11_work_101 rfl (fun L st S k => v_zaload dX11_work_102 (fun L st S k => v_putz dX11_work_103 rfl iX11 tyX11_ok nmX11 LY_11 rfl (by decide) rfl fl_X11_242 rfl rfl (fun L st S k => v_aload_n dX11_work_106 rfl (fun L st S k => v_get dX11_work_107 rfl iX11 LY_11 rfl (by decide) rfl fl_X11_242 (fun L st S k => w_if_eq dX11_work_110 (by decide) rfl k) k) k) k) k) k) k) k) k) k) k) k) k) k) k) k) k) k) k) k) k) k) k) k) k) k) k) k) k) k) k) k) k) k
theorem b_X11_work_113 {h : Nat} {L : LVs} {st : List AV} {S : ST} {Q : Option AV → ST → Prop} (k : o_c L st S (fun L st S => V MX11_work h 123 L st S Q) (nI 0)) : V MX11_work h 113 L st S Q :=
  v_iconst dX11_work_113 (by decide) (fun L st S k => v_goto dX11_work_114 (by decide) k) k
theorem b_X11_work_117 {h : Nat} {L : LVs} {st : List AV} {S : ST} {Q : Option AV → ST → Prop} (k : o_al L st S (fun L st S => o_get L st S (fun L st S => o_il L st S (fun L st S => o_iald L st S (fun L st S => V MX11_work h 123 L st S Q)) 3) 11 22 (3, 55, 0)) 0) : V MX11_work h 117 L st S Q :=
  v_aload_n dX11_work_117 rfl (fun L st S k => v_get dX11_work_118 rfl iX11 LY_11 rfl (by decide) rfl fl_X11_57 (fun L st S k => v_iload_n dX11_work_121 rfl (fun L st S k => v_iaload dX11_work_122 (fun L st S k => k) k) k) k) k
theorem b_X11_work_123 {h : Nat} {L : LVs} {st : List AV} {S : ST} {Q : Option AV → ST → Prop} (k : t_ir st S Q) : V MX11_work h 123 L st S Q :=
  w_ir dX11_work_123 rfl k
theorem b_X11_work_124 {h : Nat} {L : LVs} {st : List AV} {S : ST} {Q : Option AV → ST → Prop} (k : o_al L st S (fun L st S => o_al L st S (fun L st S => o_get L st S (fun L st S => o_il L st S (fun L st S => o_iald L st S (fun L st S => V MX11_work h 131 L st S Q)) 1) 11 9 (3, 44, 0)) 0) 0) : V MX11_work h 124 L st S Q :=
  v_aload_n dX11_work_124 rfl (fun L st S k => v_aload_n dX11_work_125 rfl (fun L st S k => v_get dX11_work_126 rfl iX11 LY_11 rfl (by decide) rfl fl_X11_23 (fun L st S k => v_iload_n dX11_work_129 rfl (fun L st S k => v_iaload dX11_work_130 (fun L st S k => k) k) k) k) k) k
theorem k_X11_work_131 {h : Nat} {L : LVs} {st : List AV} {S : ST} {Q Q' : Option AV → ST → Prop} {j : Nat} {a0 : AV} (hC : Ct MX11_work h [vR 11 j, a0] S Q') (k : ∀ (r : Option AV) (S' : ST), Q' r S' → V MX11_work (h + 1) 134 L (r.toList ++ st) S' Q) (hj : j < NI 11) (hw : wid st ≤ 8) : V MX11_work (h + 1) 131 L (a0 :: vR 11 j :: st) S Q :=
  v_callV (M' := MX11_work) (c := 11) (As := [a0]) dX11_work_131 ml_X11_246 im_X11_work se_X11_work in_X11 cd_X11_work rfl LY_11 np_X11_work (by decide) hw hj hC k
theorem b_X11_work_134 {h : Nat} {L : LVs} {st : List AV} {S : ST} {Q : Option AV → ST → Prop} (k : o_is L st S (fun L st S => o_al L st S (fun L st S => o_get L st S (fun L st S => o_is L st S (fun L st S => o_al L st S (fun L st S => o_get L st S (fun L st S => o_il L st S (fun L st S => o_iald L st S (fun L st S => t_1 L st S (fun x => nI 0 ≤ x) (fun L st S => V MX11_work h 154 L st S Q) (fun L st S => V MX11_work h 150 L st S Q))) 1) 11 10 (3, 45, 0)) 0) 4) 11 29 (2, 0, 0)) 0) 3) : V MX11_work h 134 L st S Q :=
  v_istore_n dX11_work_134 rfl (by decide) (fun L st S k => v_aload_n dX11_work_135 rfl (fun L st S k => v_get dX11_work_136 rfl iX11 LY_11 rfl (by decide) rfl fl_X11_242 (fun L st S k => v_istore dX11_work_139 (by decide) (fun L st S k => v_aload_n dX11_work_141 rfl (fun L st S k => v_get dX11_work_142 rfl iX11 LY_11 rfl (by decide) rfl fl_X11_26 (fun L st S k => v_iload_n dX11_work_145 rfl (fun L st S k => v_iaload dX11_work_146 (fun L st S k => w_if_ge dX11_work_147 (by decide) rfl k) k) k) k) k) k) k) k) k
theorem b_X11_work_150 {h : Nat} {L : LVs} {st : List AV} {S : ST} {Q : Option AV → ST → Prop} (k : o_c L st S (fun L st S => V MX11_work h 164 L st S Q) (nI 0)) : V MX11_work h 150 L st S Q :=
  v_iconst dX11_work_150 (by decide) (fun L st S k => v_goto dX11_work_151 (by decide) k) k
theorem b_X11_work_154 {h : Nat} {L : LVs} {st : List AV} {S : ST} {Q : Option AV → ST → Prop} (k : o_al L st S (fun L st S => o_al L st S (fun L st S => o_get L st S (fun L st S => o_il L st S (fun L st S => o_iald L st S (fun L st S => V MX11_work h 161 L st S Q)) 1) 11 10 (3, 45, 0)) 0) 0) : V MX11_work h 154 L st S Q :=
  v_aload_n dX11_work_154 rfl (fun L st S k => v_aload_n dX11_work_155 rfl (fun L st S k => v_get dX11_work_156 rfl iX11 LY_11 rfl (by decide) rfl fl_X11_26 (fun L st S k => v_iload_n dX11_work_159 rfl (fun L st S k => v_iaload dX11_work_160 (fun L st S k => k) k) k) k) k) k
theorem k_X11_work_161 {h : Nat} {L : LVs} {st : List AV} {S : ST} {Q Q' : Option AV → ST → Prop} {j : Nat} {a0 : AV} (hC : Ct MX11_work h [vR 11 j, a0] S Q') (k : ∀ (r : Option AV) (S' : ST), Q' r S' → V MX11_work (h + 1) 164 L (r.toList ++ st) S' Q) (hj : j < NI 11) (hw : wid st ≤ 8) : V MX11_work (h + 1) 161 L (a0 :: vR 11 j :: st) S Q :=
  v_callV (M' := MX11_work) (c := 11) (As := [a0]) dX11_work_161 ml_X11_246 im_X11_work se_X11_work in_X11 cd_X11_work rfl LY_11 np_X11_work (by decide) hw hj hC k
theorem b_X11_work_164 {h : Nat} {L : LVs} {st : List AV} {S : ST} {Q : Option AV → ST → Prop} (k : o_is L st S (fun L st S => o_al L st S (fun L st S => o_il L st S (fun L st S => t_1 L st S (fun x => x = nI 0) (fun L st S => V MX11_work h 172 L st S Q) (fun L st S => V MX11_work h 188 L st S Q)) 4) 0) 5) : V MX11_work h 164 L st S Q :=
  v_istore dX11_work_164 (by decide) (fun L st S k => v_aload_n dX11_work_166 rfl (fun L st S k => v_iload dX11_work_167 (fun L st S k => w_if_ne dX11_work_169 (by decide) rfl k) k) k) k
theorem b_X11_work_172 {h : Nat} {L : LVs} {st : List AV} {S : ST} {Q : Option AV → ST → Prop} (k : o_al L st S (fun L st S => o_get L st S (fun L st S => o_il L st S (fun L st S => o_iald L st S (fun L st S => t_1 L st S (fun x => x < nI 0) (fun L st S => V MX11_work h 192 L st S Q) (fun L st S => V MX11_work h 181 L st S Q))) 1) 11 10 (3, 45, 0)) 0) : V MX11_work h 172 L st S Q :=
  v_aload_n dX11_work_172 rfl (fun L st S k => v_get dX11_work_173 rfl iX11 LY_11 rfl (by decide) rfl fl_X11_26 (fun L st S k => v_iload_n dX11_work_176 rfl (fun L st S k => v_iaload dX11_work_177 (fun L st S k => w_if_lt dX11_work_178 (by decide) rfl k) k) k) k) k
theorem b_X11_work_181 {h : Nat} {L : LVs} {st : List AV} {S : ST} {Q : Option AV → ST → Prop} (k : o_al L st S (fun L st S => o_get L st S (fun L st S => t_1 L st S (fun x => x = nI 0) (fun L st S => V MX11_work h 192 L st S Q) (fun L st S => V MX11_work h 188 L st S Q)) 11 29 (2, 0, 0)) 0) : V MX11_work h 181 L st S Q :=
  v_aload_n dX11_work_181 rfl (fun L st S k => v_get dX11_work_182 rfl iX11 LY_11 rfl (by decide) rfl fl_X11_242 (fun L st S k => w_if_eq dX11_work_185 (by decide) rfl k) k) k
theorem b_X11_work_188 {h : Nat} {L : LVs} {st : List AV} {S : ST} {Q : Option AV → ST → Prop} (k : o_c L st S (fun L st S => V MX11_work h 193 L st S Q) (nI 1)) : V MX11_work h 188 L st S Q :=
  v_iconst dX11_work_188 (by decide) (fun L st S k => v_goto dX11_work_189 (by decide) k) k
theorem b_X11_work_192 {h : Nat} {L : LVs} {st : List AV} {S : ST} {Q : Option AV → ST → Prop} (k : o_c L st S (fun L st S => V MX11_work h 193 L st S Q) (nI 0)) : V MX11_work h 192 L st S Q :=
  v_iconst dX11_work_192 (by decide) (fun L st S k => k) k
theorem b_X11_work_193 {h : Nat} {L : LVs} {st : List AV} {S : ST} {Q : Option AV → ST → Prop} (k : o_putz L st S (fun L st S => o_al L st S (fun L st S => o_get L st S (fun L st S => t_1 L st S (fun x => x = nI 0) (fun L st S => V MX11_work h 203 L st S Q) (fun L st S => V MX11_work h 210 L st S Q)) 11 29 (2, 0, 0)) 0) 11 29) : V MX11_work h 193 L st S Q :=
  v_putz dX11_work_193 rfl iX11 tyX11_ok nmX11 LY_11 rfl (by decide) rfl fl_X11_242 rfl rfl (fun L st S k => v_aload_n dX11_work_196 rfl (fun L st S k => v_get dX11_work_197 rfl iX11 LY_11 rfl (by decide) rfl fl_X11_242 (fun L st S k => w_if_ne dX11_work_200 (by decide) rfl k) k) k) k
theorem b_X11_work_203 {h : Nat} {L : LVs} {st : List AV} {S : ST} {Q : Option AV → ST → Prop} (k : o_al L st S (fun L st S => o_get L st S (fun L st S => t_1 L st S (fun x => x = nI 0) (fun L st S => V MX11_work h 212 L st S Q) (fun L st S => V MX11_work h 210 L st S Q)) 11 28 (0, 0, 0)) 0) : V MX11_work h 203 L st S Q :=
  v_aload_n dX11_work_203 rfl (fun L st S k => v_get dX11_work_204 rfl iX11 LY_11 rfl (by decide) rfl fl_X11_219 (fun L st S k => w_if_eq dX11_work_207 (by decide) rfl k) k) k
theorem b_X11_work_210 {h : Nat} {L : LVs} {st : List AV} {S : ST} {Q : Option AV → ST → Prop} (k : o_c L st S (fun L st S => t_ir st S Q) (nI 0)) : V MX11_work h 210 L st S Q :=
  v_iconst dX11_work_210 (by decide) (fun L st S k => w_ir dX11_work_211 rfl k) k
theorem b_X11_work_212 {h : Nat} {L : LVs} {st : List AV} {S : ST} {Q : Option AV → ST → Prop} (k : o_il L st S (fun L st S => t_sw L st S [((nI 36), fun L st S => V MX11_work h 244 L st S Q), ((nI 37), fun L st S => V MX11_work h 255 L st S Q), ((nI 38), fun L st S => V MX11_work h 266 L st S Q), ((nI 39), fun L st S => V MX11_work h 277 L st S Q)] (fun L st S => V MX11_work h 302 L st S Q)) 2) : V MX11_work h 212 L st S Q :=
  v_iload_n dX11_work_212 rfl (fun L st S k => w_tsw [((nI 36), 244), ((nI 37), 255), ((nI 38), 266), ((nI 39), 277)] dX11_work_213 (n := 4) (by decide) rfl (by decide) (by decide) (by decide) k) k
theorem b_X11_work_244 {h : Nat} {L : LVs} {st : List AV} {S : ST} {Q : Option AV → ST → Prop} (k : o_al L st S (fun L st S => o_il L st S (fun L st S => o_i2l L st S (fun L st S => o_il L st S (fun L st S => o_i2l L st S (fun L st S => o_ladd L st S (fun L st S => V MX11_work h 251 L st S Q))) 5)) 3) 0) : V MX11_work h 244 L st S Q :=
  v_aload_n dX11_work_244 rfl (fun L st S k => v_iload_n dX11_work_245 rfl (fun L st S k => v_i2l dX11_work_246 (fun L st S k => v_iload dX11_work_247 (fun L st S k => v_i2l dX11_work_249 (fun L st S k => v_ladd dX11_work_250 (fun L st S k => k) k) k) k) k) k) k
theorem k_X11_work_251 {h : Nat} {L : LVs} {st : List AV} {S : ST} {Q Q' : Option AV → ST → Prop} {j : Nat} {a0 : AV} (hC : Ct MX11_inBounds h [vR 11 j, a0] S Q') (k : ∀ (r : Option AV) (S' : ST), Q' r S' → V MX11_work (h + 1) 254 L (r.toList ++ st) S' Q) (hj : j < NI 11) (hw : wid st ≤ 8) : V MX11_work (h + 1) 251 L (a0 :: vR 11 j :: st) S Q :=
  v_callV (M' := MX11_inBounds) (c := 11) (As := [a0]) dX11_work_251 ml_X11_249 im_X11_inBounds se_X11_inBounds in_X11 cd_X11_inBounds rfl LY_11 np_X11_inBounds (by decide) hw hj hC k
theorem b_X11_work_254 {h : Nat} {L : LVs} {st : List AV} {S : ST} {Q : Option AV → ST → Prop} (k : t_ir st S Q) : V MX11_work h 254 L st S Q :=
  w_ir dX11_work_254 rfl k
theorem b_X11_work_255 {h : Nat} {L : LVs} {st : List AV} {S : ST} {Q : Option AV → ST → Prop} (k : o_al L st S (fun L st S => o_il L st S (fun L st S => o_i2l L st S (fun L st S => o_il L st S (fun L st S => o_i2l L st S (fun L st S => o_lsub L st S (fun L st S => V MX11_work h 262 L st S Q))) 5)) 3) 0) : V MX11_work h 255 L st S Q :=
  v_aload_n dX11_work_255 rfl (fun L st S k => v_iload_n dX11_work_256 rfl (fun L st S k => v_i2l dX11_work_257 (fun L st S k => v_iload dX11_work_258 (fun L st S k => v_i2l dX11_work_260 (fun L st S k => v_lsub dX11_work_261 (fun L st S k => k) k) k) k) k) k) k
theorem k_X11_work_262 {h : Nat} {L : LVs} {st : List AV} {S : ST} {Q Q' : Option AV → ST → Prop} {j : Nat} {a0 : AV} (hC : Ct MX11_inBounds h [vR 11 j, a0] S Q') (k : ∀ (r : Option AV) (S' : ST), Q' r S' → V MX11_work (h + 1) 265 L (r.toList ++ st) S' Q) (hj : j < NI 11) (hw : wid st ≤ 8) : V MX11_work (h + 1) 262 L (a0 :: vR 11 j :: st) S Q :=
  v_callV (M' := MX11_inBounds) (c := 11) (As := [a0]) dX11_work_262 ml_X11_249 im_X11_inBounds se_X11_inBounds in_X11 cd_X11_inBounds rfl LY_11 np_X11_inBounds (by decide) hw hj hC k
theorem b_X11_work_265 {h : Nat} {L : LVs} {st : List AV} {S : ST} {Q : Option AV → ST → Prop} (k : t_ir st S Q) : V MX11_work h 265 L st S Q :=
  w_ir dX11_work_265 rfl k
theorem b_X11_work_266 {h : Nat} {L : LVs} {st : List AV} {S : ST} {Q : Option AV → ST → Prop} (k : o_al L st S (fun L st S => o_il L st S (fun L st S => o_i2l L st S (fun L st S => o_il L st S (fun L st S => o_i2l L st S (fun L st S => o_lmul L st S (fun L st S => V MX11_work h 273 L st S Q))) 5)) 3) 0) : V MX11_work h 266 L st S Q :=
  v_aload_n dX11_work_266 rfl (fun L st S k => v_iload_n dX11_work_267 rfl (fun L st S k => v_i2l dX11_work_268 (fun L st S k => v_iload dX11_work_269 (fun L st S k => v_i2l dX11_work_271 (fun L st S k => v_lmul dX11_work_272 (fun L st S k => k) k) k) k) k) k) k
theorem k_X11_work_273 {h : Nat} {L : LVs} {st : List AV} {S : ST} {Q Q' : Option AV → ST → Prop} {j : Nat} {a0 : AV} (hC : Ct MX11_inBounds h [vR 11 j, a0] S Q') (k : ∀ (r : Option AV) (S' : ST), Q' r S' → V MX11_work (h + 1) 276 L (r.toList ++ st) S' Q) (hj : j < NI 11) (hw : wid st ≤ 8) : V MX11_work (h + 1) 273 L (a0 :: vR 11 j :: st) S Q :=
  v_callV (M' := MX11_inBounds) (c := 11) (As := [a0]) dX11_work_273 ml_X11_249 im_X11_inBounds se_X11_inBounds in_X11 cd_X11_inBounds rfl LY_11 np_X11_inBounds (by decide) hw hj hC k
theorem b_X11_work_276 {h : Nat} {L : LVs} {st : List AV} {S : ST} {Q : Option AV → ST → Prop} (k : t_ir st S Q) : V MX11_work h 276 L st S Q :=
  w_ir dX11_work_276 rfl k
theorem b_X11_work_277 {h : Nat} {L : LVs} {st : List AV} {S : ST} {Q : Option AV → ST → Prop} (k : o_il L st S (fun L st S => t_1 L st S (fun x => x = nI 0) (fun L st S => V MX11_work h 282 L st S Q) (fun L st S => V MX11_work h 291 L st S Q)) 5) : V MX11_work h 277 L st S Q :=
  v_iload dX11_work_277 (fun L st S k => w_if_ne dX11_work_279 (by decide) rfl k) k
theorem b_X11_work_282 {h : Nat} {L : LVs} {st : List AV} {S : ST} {Q : Option AV → ST → Prop} (k : o_al L st S (fun L st S => o_c L st S (fun L st S => V MX11_work h 286 L st S Q) (-1004)) 0) : V MX11_work h 282 L st S Q :=
  v_aload_n dX11_work_282 rfl (fun L st S k => v_sipush dX11_work_283 (by decide) (fun L st S k => k) k) k
theorem k_X11_work_286 {h : Nat} {L : LVs} {st : List AV} {S : ST} {Q Q' : Option AV → ST → Prop} {j : Nat} {a0 : AV} (hC : Ct MX11_fails h [vR 11 j, a0] S Q') (k : ∀ (r : Option AV) (S' : ST), Q' r S' → V MX11_work (h + 1) 289 L (r.toList ++ st) S' Q) (hj : j < NI 11) (hw : wid st ≤ 8) : V MX11_work (h + 1) 286 L (a0 :: vR 11 j :: st) S Q :=
  v_callV (M' := MX11_fails) (c := 11) (As := [a0]) dX11_work_286 ml_X11_229 im_X11_fails se_X11_fails in_X11 cd_X11_fails rfl LY_11 np_X11_fails (by decide) hw hj hC k
theorem b_X11_work_289 {h : Nat} {L : LVs} {st : List AV} {S : ST} {Q : Option AV → ST → Prop} (k : o_c L st S (fun L st S => t_ir st S Q) (nI 0)) : V MX11_work h 289 L st S Q :=
  v_iconst dX11_work_289 (by decide) (fun L st S k => w_ir dX11_work_290 rfl k) k
theorem b_X11_work_291 {h : Nat} {L : LVs} {st : List AV} {S : ST} {Q : Option AV → ST → Prop} (k : o_al L st S (fun L st S => o_il L st S (fun L st S => o_i2l L st S (fun L st S => o_il L st S (fun L st S => o_i2l L st S (fun L st S => o_ldiv L st S (fun L st S => V MX11_work h 298 L st S Q))) 5)) 3) 0) : V MX11_work h 291 L st S Q :=
  v_aload_n dX11_work_291 rfl (fun L st S k => v_iload_n dX11_work_292 rfl (fun L st S k => v_i2l dX11_work_293 (fun L st S k => v_iload dX11_work_294 (fun L st S k => v_i2l dX11_work_296 (fun L st S k => v_ldiv dX11_work_297 (fun L st S k => k) k) k) k) k) k) k
theorem k_X11_work_298 {h : Nat} {L : LVs} {st : List AV} {S : ST} {Q Q' : Option AV → ST → Prop} {j : Nat} {a0 : AV} (hC : Ct MX11_inBounds h [vR 11 j, a0] S Q') (k : ∀ (r : Option AV) (S' : ST), Q' r S' → V MX11_work (h + 1) 301 L (r.toList ++ st) S' Q) (hj : j < NI 11) (hw : wid st ≤ 8) : V MX11_work (h + 1) 298 L (a0 :: vR 11 j :: st) S Q :=
  v_callV (M' := MX11_inBounds) (c := 11) (As := [a0]) dX11_work_298 ml_X11_249 im_X11_inBounds se_X11_inBounds in_X11 cd_X11_inBounds rfl LY_11 np_X11_inBounds (by decide) hw hj hC k
theorem b_X11_work_301 {h : Nat} {L : LVs} {st : List AV} {S : ST} {Q : Option AV → ST → Prop} (k : t_ir st S Q) : V MX11_work h 301 L st S Q :=
  w_ir dX11_work_301 rfl k
theorem b_X11_work_302 {h : Nat} {L : LVs} {st : List AV} {S : ST} {Q : Option AV → ST → Prop} (k : o_al L st S (fun L st S => o_il L st S (fun L st S => o_i2l L st S (fun L st S => o_lneg L st S (fun L st S => V MX11_work h 306 L st S Q))) 3) 0) : V MX11_work h 302 L st S Q :=
  v_aload_n dX11_work_302 rfl (fun L st S k => v_iload_n dX11_work_303 rfl (fun L st S k => v_i2l dX11_work_304 (fun L st S k => v_lneg dX11_work_305 (fun L st S k => k) k) k) k) k
theorem k_X11_work_306 {h : Nat} {L : LVs} {st : List AV} {S : ST} {Q Q' : Option AV → ST → Prop} {j : Nat} {a0 : AV} (hC : Ct MX11_inBounds h [vR 11 j, a0] S Q') (k : ∀ (r : Option AV) (S' : ST), Q' r S' → V MX11_work (h + 1) 309 L (r.toList ++ st) S' Q) (hj : j < NI 11) (hw : wid st ≤ 8) : V MX11_work (h + 1) 306 L (a0 :: vR 11 j :: st) S Q :=
  v_callV (M' := MX11_inBounds) (c := 11) (As := [a0]) dX11_work_306 ml_X11_249 im_X11_inBounds se_X11_inBounds in_X11 cd_X11_inBounds rfl LY_11 np_X11_inBounds (by decide) hw hj hC k
theorem b_X11_work_309 {h : Nat} {L : LVs} {st : List AV} {S : ST} {Q : Option AV → ST → Prop} (k : t_ir st S Q) : V MX11_work h 309 L st S Q :=
  w_ir dX11_work_309 rfl k
-- QueryForgeModel.judge(I)I
theorem dX11_judge_0 : decode cX11_judge 0 = .ok (.aload_n 0, 1) := by decide +kernel
theorem dX11_judge_1 : decode cX11_judge 1 = .ok (.getfield 20, 3) := by decide +kernel
theorem dX11_judge_4 : decode cX11_judge 4 = .ok (.iload_n 1, 1) := by decide +kernel
theorem dX11_judge_5 : decode cX11_judge 5 = .ok (.iaload, 1) := by decide +kernel
theorem dX11_judge_6 : decode cX11_judge 6 = .ok (.istore_n 2, 1) := by decide +kernel
theorem dX11_judge_7 : decode cX11_judge 7 = .ok (.aload_n 0, 1) := by decide +kernel
theorem dX11_judge_8 : decode cX11_judge 8 = .ok (.getfield 219, 3) := by decide +kernel
theorem dX11_judge_11 : decode cX11_judge 11 = .ok (.ifCond .eq 5, 3) := by decide +kernel
theorem dX11_judge_14 : decode cX11_judge 14 = .ok (.iconst 0, 1) := by decide +kernel
theorem dX11_judge_15 : decode cX11_judge 15 = .ok (.ireturn, 1) := by decide +kernel
theorem dX11_judge_16 : decode cX11_judge 16 = .ok (.iload_n 2, 1) := by decide +kernel
theorem dX11_judge_17 : decode cX11_judge 17 = .ok (.bipush 17, 2) := by decide +kernel
theorem dX11_judge_19 : decode cX11_judge 19 = .ok (.if_icmp .ne 16, 3) := by decide +kernel
theorem dX11_judge_22 : decode cX11_judge 22 = .ok (.iconst 2, 1) := by decide +kernel
theorem dX11_judge_23 : decode cX11_judge 23 = .ok (.aload_n 0, 1) := by decide +kernel
theorem dX11_judge_24 : decode cX11_judge 24 = .ok (.aload_n 0, 1) := by decide +kernel
theorem dX11_judge_25 : decode cX11_judge 25 = .ok (.getfield 23, 3) := by decide +kernel
theorem dX11_judge_28 : decode cX11_judge 28 = .ok (.iload_n 1, 1) := by decide +kernel
theorem dX11_judge_29 : decode cX11_judge 29 = .ok (.iaload, 1) := by decide +kernel
theorem dX11_judge_30 : decode cX11_judge 30 = .ok (.invokevirtual 252, 3) := by decide +kernel
theorem dX11_judge_33 : decode cX11_judge 33 = .ok (.isub, 1) := by decide +kernel
theorem dX11_judge_34 : decode cX11_judge 34 = .ok (.ireturn, 1) := by decide +kernel
theorem dX11_judge_35 : decode cX11_judge 35 = .ok (.iload_n 2, 1) := by decide +kernel
theorem dX11_judge_36 : decode cX11_judge 36 = .ok (.bipush 15, 2) := by decide +kernel
theorem dX11_judge_38 : decode cX11_judge 38 = .ok (.if_icmp .eq 9, 3) := by decide +kernel
theorem dX11_judge_41 : decode cX11_judge 41 = .ok (.iload_n 2, 1) := by decide +kernel
theorem dX11_judge_42 : decode cX11_judge 42 = .ok (.bipush 16, 2) := by decide +kernel
theorem dX11_judge_44 : decode cX11_judge 44 = .ok (.if_icmp .ne 58, 3) := by decide +kernel
theorem dX11_judge_47 : decode cX11_judge 47 = .ok (.aload_n 0, 1) := by decide +kernel
theorem dX11_judge_48 : decode cX11_judge 48 = .ok (.aload_n 0, 1) := by decide +kernel
theorem dX11_judge_49 : decode cX11_judge 49 = .ok (.getfield 23, 3) := by decide +kernel
theorem dX11_judge_52 : decode cX11_judge 52 = .ok (.iload_n 1, 1) := by decide +kernel
theorem dX11_judge_53 : decode cX11_judge 53 = .ok (.iaload, 1) := by decide +kernel
theorem dX11_judge_54 : decode cX11_judge 54 = .ok (.invokevirtual 252, 3) := by decide +kernel
theorem dX11_judge_57 : decode cX11_judge 57 = .ok (.istore_n 3, 1) := by decide +kernel
theorem dX11_judge_58 : decode cX11_judge 58 = .ok (.aload_n 0, 1) := by decide +kernel
theorem dX11_judge_59 : decode cX11_judge 59 = .ok (.aload_n 0, 1) := by decide +kernel
theorem dX11_judge_60 : decode cX11_judge 60 = .ok (.getfield 26, 3) := by decide +kernel
theorem dX11_judge_63 : decode cX11_judge 63 = .ok (.iload_n 1, 1) := by decide +kernel
theorem dX11_judge_64 : decode cX11_judge 64 = .ok (.iaload, 1) := by decide +kernel
theorem dX11_judge_65 : decode cX11_judge 65 = .ok (.invokevirtual 252, 3) := by decide +kernel
theorem dX11_judge_68 : decode cX11_judge 68 = .ok (.istore 4, 2) := by decide +kernel
theorem dX11_judge_70 : decode cX11_judge 70 = .ok (.iload_n 2, 1) := by decide +kernel
theorem dX11_judge_71 : decode cX11_judge 71 = .ok (.bipush 15, 2) := by decide +kernel
theorem dX11_judge_73 : decode cX11_judge 73 = .ok (.if_icmp .ne 7, 3) := by decide +kernel
theorem dX11_judge_76 : decode cX11_judge 76 = .ok (.iconst 1, 1) := by decide +kernel
theorem dX11_judge_77 : decode cX11_judge 77 = .ok (.goto 4, 3) := by decide +kernel
theorem dX11_judge_80 : decode cX11_judge 80 = .ok (.iconst 0, 1) := by decide +kernel
theorem dX11_judge_81 : decode cX11_judge 81 = .ok (.iload_n 3, 1) := by decide +kernel
theorem dX11_judge_82 : decode cX11_judge 82 = .ok (.iload 4, 2) := by decide +kernel
theorem dX11_judge_84 : decode cX11_judge 84 = .ok (.if_icmp .ge 7, 3) := by decide +kernel
theorem dX11_judge_87 : decode cX11_judge 87 = .ok (.iconst 1, 1) := by decide +kernel
theorem dX11_judge_88 : decode cX11_judge 88 = .ok (.goto 4, 3) := by decide +kernel
theorem dX11_judge_91 : decode cX11_judge 91 = .ok (.iconst 0, 1) := by decide +kernel
theorem dX11_judge_92 : decode cX11_judge 92 = .ok (.if_icmp .ne 7, 3) := by decide +kernel
theorem dX11_judge_95 : decode cX11_judge 95 = .ok (.iload_n 3, 1) := by decide +kernel
theorem dX11_judge_96 : decode cX11_judge 96 = .ok (.goto 5, 3) := by decide +kernel
theorem dX11_judge_99 : decode cX11_judge 99 = .ok (.iload 4, 2) := by decide +kernel
theorem dX11_judge_101 : decode cX11_judge 101 = .ok (.ireturn, 1) := by decide +kernel
theorem dX11_judge_102 : decode cX11_judge 102 = .ok (.aload_n 0, 1) := by decide +kernel
theorem dX11_judge_103 : decode cX11_judge 103 = .ok (.aload_n 0, 1) := by decide +kernel
theorem dX11_judge_104 : decode cX11_judge 104 = .ok (.getfield 23, 3) := by decide +kernel
theorem dX11_judge_107 : decode cX11_judge 107 = .ok (.iload_n 1, 1) := by decide +kernel
theorem dX11_judge_108 : decode cX11_judge 108 = .ok (.iaload, 1) := by decide +kernel
theorem dX11_judge_109 : decode cX11_judge 109 = .ok (.invokevirtual 246, 3) := by decide +kernel
theorem dX11_judge_112 : decode cX11_judge 112 = .ok (.istore_n 3, 1) := by decide +kernel
theorem dX11_judge_113 : decode cX11_judge 113 = .ok (.aload_n 0, 1) := by decide +kernel
theorem dX11_judge_114 : decode cX11_judge 114 = .ok (.getfield 242, 3) := by decide +kernel
theorem dX11_judge_117 : decode cX11_judge 117 = .ok (.istore 4, 2) := by decide +kernel
theorem dX11_judge_119 : decode cX11_judge 119 = .ok (.iload_n 2, 1) := by decide +kernel
theorem dX11_judge_120 : decode cX11_judge 120 = .ok (.bipush 14, 2) := by decide +kernel
theorem dX11_judge_122 : decode cX11_judge 122 = .ok (.if_icmp .ne 14, 3) := by decide +kernel
theorem dX11_judge_125 : decode cX11_judge 125 = .ok (.iload 4, 2) := by decide +kernel
theorem dX11_judge_127 : decode cX11_judge 127 = .ok (.ifCond .eq 7, 3) := by decide +kernel
theorem dX11_judge_130 : decode cX11_judge 130 = .ok (.iconst 2, 1) := by decide +kernel
theorem dX11_judge_131 : decode cX11_judge 131 = .ok (.goto 4, 3) := by decide +kernel
theorem dX11_judge_134 : decode cX11_judge 134 = .ok (.iconst 0, 1) := by decide +kernel
theorem dX11_judge_135 : decode cX11_judge 135 = .ok (.ireturn, 1) := by decide +kernel
theorem dX11_judge_136 : decode cX11_judge 136 = .ok (.aload_n 0, 1) := by decide +kernel
theorem dX11_judge_137 : decode cX11_judge 137 = .ok (.aload_n 0, 1) := by decide +kernel
theorem dX11_judge_138 : decode cX11_judge 138 = .ok (.getfield 26, 3) := by decide +kernel
theorem dX11_judge_141 : decode cX11_judge 141 = .ok (.iload_n 1, 1) := by decide +kernel
theorem dX11_judge_142 : decode cX11_judge 142 = .ok (.iaload, 1) := by decide +kernel
theorem dX11_judge_143 : decode cX11_judge 143 = .ok (.invokevirtual 246, 3) := by decide +kernel
theorem dX11_judge_146 : decode cX11_judge 146 = .ok (.istore 5, 2) := by decide +kernel
theorem dX11_judge_148 : decode cX11_judge 148 = .ok (.iload 4, 2) := by decide +kernel
theorem dX11_judge_150 : decode cX11_judge 150 = .ok (.ifCond .ne 10, 3) := by decide +kernel
theorem dX11_judge_153 : decode cX11_judge 153 = .ok (.aload_n 0, 1) := by decide +kernel
theorem dX11_judge_154 : decode cX11_judge 154 = .ok (.getfield 242, 3) := by decide +kernel
theorem dX11_judge_157 : decode cX11_judge 157 = .ok (.ifCond .eq 5, 3) := by decide +kernel
theorem dX11_judge_160 : decode cX11_judge 160 = .ok (.iconst 1, 1) := by decide +kernel
theorem dX11_judge_161 : decode cX11_judge 161 = .ok (.ireturn, 1) := by decide +kernel
theorem dX11_judge_162 : decode cX11_judge 162 = .ok (.iload_n 2, 1) := by decide +kernel
theorem dX11_judge_163 : decode cX11_judge 163 = .ok (.bipush 40, 2) := by decide +kernel
theorem dX11_judge_165 : decode cX11_judge 165 = .ok (.if_icmp .ne 17, 3) := by decide +kernel
theorem dX11_judge_168 : decode cX11_judge 168 = .ok (.iload_n 3, 1) := by decide +kernel
theorem dX11_judge_169 : decode cX11_judge 169 = .ok (.iload 5, 2) := by decide +kernel
theorem dX11_judge_171 : decode cX11_judge 171 = .ok (.if_icmp .ne 7, 3) := by decide +kernel
theorem dX11_judge_174 : decode cX11_judge 174 = .ok (.iconst 1, 1) := by decide +kernel
theorem dX11_judge_175 : decode cX11_judge 175 = .ok (.goto 98, 3) := by decide +kernel
theorem dX11_judge_178 : decode cX11_judge 178 = .ok (.iconst 0, 1) := by decide +kernel
theorem dX11_judge_179 : decode cX11_judge 179 = .ok (.goto 94, 3) := by decide +kernel
theorem dX11_judge_182 : decode cX11_judge 182 = .ok (.iload_n 2, 1) := by decide +kernel
theorem dX11_judge_183 : decode cX11_judge 183 = .ok (.bipush 45, 2) := by decide +kernel
theorem dX11_judge_185 : decode cX11_judge 185 = .ok (.if_icmp .ne 17, 3) := by decide +kernel
theorem dX11_judge_188 : decode cX11_judge 188 = .ok (.iload_n 3, 1) := by decide +kernel
theorem dX11_judge_189 : decode cX11_judge 189 = .ok (.iload 5, 2) := by decide +kernel
theorem dX11_judge_191 : decode cX11_judge 191 = .ok (.if_icmp .eq 7, 3) := by decide +kernel
theorem dX11_judge_194 : decode cX11_judge 194 = .ok (.iconst 1, 1) := by decide +kernel
theorem dX11_judge_195 : decode cX11_judge 195 = .ok (.goto 78, 3) := by decide +kernel
theorem dX11_judge_198 : decode cX11_judge 198 = .ok (.iconst 0, 1) := by decide +kernel
theorem dX11_judge_199 : decode cX11_judge 199 = .ok (.goto 74, 3) := by decide +kernel
theorem dX11_judge_202 : decode cX11_judge 202 = .ok (.iload_n 2, 1) := by decide +kernel
theorem dX11_judge_203 : decode cX11_judge 203 = .ok (.bipush 41, 2) := by decide +kernel
theorem dX11_judge_205 : decode cX11_judge 205 = .ok (.if_icmp .ne 17, 3) := by decide +kernel
theorem dX11_judge_208 : decode cX11_judge 208 = .ok (.iload_n 3, 1) := by decide +kernel
theorem dX11_judge_209 : decode cX11_judge 209 = .ok (.iload 5, 2) := by decide +kernel
theorem dX11_judge_211 : decode cX11_judge 211 = .ok (.if_icmp .ge 7, 3) := by decide +kernel
theorem dX11_judge_214 : decode cX11_judge 214 = .ok (.iconst 1, 1) := by decide +kernel
theorem dX11_judge_215 : decode cX11_judge 215 = .ok (.goto 58, 3) := by decide +kernel
theorem dX11_judge_218 : decode cX11_judge 218 = .ok (.iconst 0, 1) := by decide +kernel
theorem dX11_judge_219 : decode cX11_judge 219 = .ok (.goto 54, 3) := by decide +kernel
theorem dX11_judge_222 : decode cX11_judge 222 = .ok (.iload_n 2, 1) := by decide +kernel
theorem dX11_judge_223 : decode cX11_judge 223 = .ok (.bipush 42, 2) := by decide +kernel
theorem dX11_judge_225 : decode cX11_judge 225 = .ok (.if_icmp .ne 17, 3) := by decide +kernel
theorem dX11_judge_228 : decode cX11_judge 228 = .ok (.iload_n 3, 1) := by decide +kernel
theorem dX11_judge_229 : decode cX11_judge 229 = .ok (.iload 5, 2) := by decide +kernel
theorem dX11_judge_231 : decode cX11_judge 231 = .ok (.if_icmp .le 7, 3) := by decide +kernel
theorem dX11_judge_234 : decode cX11_judge 234 = .ok (.iconst 1, 1) := by decide +kernel
theorem dX11_judge_235 : decode cX11_judge 235 = .ok (.goto 38, 3) := by decide +kernel
theorem dX11_judge_238 : decode cX11_judge 238 = .ok (.iconst 0, 1) := by decide +kernel
theorem dX11_judge_239 : decode cX11_judge 239 = .ok (.goto 34, 3) := by decide +kernel
theorem dX11_judge_242 : decode cX11_judge 242 = .ok (.iload_n 2, 1) := by decide +kernel
theorem dX11_judge_243 : decode cX11_judge 243 = .ok (.bipush 43, 2) := by decide +kernel
theorem dX11_judge_245 : decode cX11_judge 245 = .ok (.if_icmp .ne 17, 3) := by decide +kernel
theorem dX11_judge_248 : decode cX11_judge 248 = .ok (.iload_n 3, 1) := by decide +kernel
theorem dX11_judge_249 : decode cX11_judge 249 = .ok (.iload 5, 2) := by decide +kernel
theorem dX11_judge_251 : decode cX11_judge 251 = .ok (.if_icmp .gt 7, 3) := by decide +kernel
theorem dX11_judge_254 : decode cX11_judge 254 = .ok (.iconst 1, 1) := by decide +kernel
theorem dX11_judge_255 : decode cX11_judge 255 = .ok (.goto 18, 3) := by decide +kernel
theorem dX11_judge_258 : decode cX11_judge 258 = .ok (.iconst 0, 1) := by decide +kernel
theorem dX11_judge_259 : decode cX11_judge 259 = .ok (.goto 14, 3) := by decide +kernel
theorem dX11_judge_262 : decode cX11_judge 262 = .ok (.iload_n 3, 1) := by decide +kernel
theorem dX11_judge_263 : decode cX11_judge 263 = .ok (.iload 5, 2) := by decide +kernel
theorem dX11_judge_265 : decode cX11_judge 265 = .ok (.if_icmp .lt 7, 3) := by decide +kernel
theorem dX11_judge_268 : decode cX11_judge 268 = .ok (.iconst 1, 1) := by decide +kernel
theorem dX11_judge_269 : decode cX11_judge 269 = .ok (.goto 4, 3) := by decide +kernel
theorem dX11_judge_272 : decode cX11_judge 272 = .ok (.iconst 0, 1) := by decide +kernel
theorem dX11_judge_273 : decode cX11_judge 273 = .ok (.istore 6, 2) := by decide +kernel
theorem dX11_judge_275 : decode cX11_judge 275 = .ok (.iload 6, 2) := by decide +kernel
theorem dX11_judge_277 : decode cX11_judge 277 = .ok (.ifCond .eq 7, 3) := by decide +kernel
theorem dX11_judge_280 : decode cX11_judge 280 = .ok (.iconst 2, 1) := by decide +kernel
theorem dX11_judge_281 : decode cX11_judge 281 = .ok (.goto 4, 3) := by decide +kernel
theorem dX11_judge_284 : decode cX11_judge 284 = .ok (.iconst 0, 1) := by decide +kernel
theorem dX11_judge_285 : decode cX11_judge 285 = .ok (.ireturn, 1) := by decide +kernel
theorem b_X11_judge_0 {h : Nat} {L : LVs} {st : List AV} {S : ST} {Q : Option AV → ST → Prop} (k : o_al L st S (fun L st S => o_get L st S (fun L st S => o_il L st S (fun L st S => o_iald L st S (fun L st S => o_is L st S (fun L st S => o_al L st S (fun L st S => o_get L st S (fun L st S => t_1 L st S (fun x => x = nI 0) (fun L st S => V MX11_judge h 16 L st S Q) (fun L st S => V MX11_judge h 14 L st S Q)) 11 28 (0, 0, 0)) 0) 2)) 1) 11 8 (3, 43, 0)) 0) : V MX11_judge h 0 L st S Q :=
  v_aload_n dX11_judge_0 rfl (fun L st S k => v_get dX11_judge_1 rfl iX11 LY_11 rfl (by decide) rfl fl_X11_20 (fun L st S k => v_iload_n dX11_judge_4 rfl (fun L st S k => v_iaload dX11_judge_5 (fun L st S k => v_istore_n dX11_judge_6 rfl (by decide) (fun L st S k => v_aload_n dX11_judge_7 rfl (fun L st S k => v_get dX11_judge_8 rfl iX11 LY_11 rfl (by decide) rfl fl_X11_219 (fun L st S k => w_if_eq dX11_judge_11 (by decide) rfl k) k) k) k) k) k) k) k
theorem b_X11_judge_14 {h : Nat} {L : LVs} {st : List AV} {S : ST} {Q : Option AV → ST → Prop} (k : o_c L st S (fun L st S => t_ir st S Q) (nI 0)) : V MX11_judge h 14 L st S Q :=
  v_iconst dX11_judge_14 (by decide) (fun L st S k => w_ir dX11_judge_15 rfl k) k
theorem b_X11_judge_16 {h : Nat} {L : LVs} {st : List AV} {S : ST} {Q : Option AV → ST → Prop} (k : o_il L st S (fun L st S => o_c L st S (fun L st S => t_2 L st S (fun x y => x = y) (fun L st S => V MX11_judge h 22 L st S Q) (fun L st S => V MX11_judge h 35 L st S Q)) (nI 17)) 2) : V MX11_judge h 16 L st S Q :=
  v_iload_n dX11_judge_16 rfl (fun L st S k => v_bipush dX11_judge_17 (by decide) (fun L st S k => w_icmp_ne dX11_judge_19 (by decide) rfl k) k) k
theorem b_X11_judge_22 {h : Nat} {L : LVs} {st : List AV} {S : ST} {Q : Option AV → ST → Prop} (k : o_c L st S (fun L st S => o_al L st S (fun L st S => o_al L st S (fun L st S => o_get L st S (fun L st S => o_il L st S (fun L st S => o_iald L st S (fun L st S => V MX11_judge h 30 L st S Q)) 1) 11 9 (3, 44, 0)) 0) 0) (nI 2)) : V MX11_judge h 22 L st S Q :=
  v_iconst dX11_judge_22 (by decide) (fun L st S k => v_aload_n dX11_judge_23 rfl (fun L st S k => v_aload_n dX11_judge_24 rfl (fun L st S k => v_get dX11_judge_25 rfl iX11 LY_11 rfl (by decide) rfl fl_X11_23 (fun L st S k => v_iload_n dX11_judge_28 rfl (fun L st S k => v_iaload dX11_judge_29 (fun L st S k => k) k) k) k) k) k) k
theorem k_X11_judge_30 {h : Nat} {L : LVs} {st : List AV} {S : ST} {Q Q' : Option AV → ST → Prop} {j : Nat} {a0 : AV} (hC : Ct MX11_judge h [vR 11 j, a0] S Q') (k : ∀ (r : Option AV) (S' : ST), Q' r S' → V MX11_judge (h + 1) 33 L (r.toList ++ st) S' Q) (hj : j < NI 11) (hw : wid st ≤ 8) : V MX11_judge (h + 1) 30 L (a0 :: vR 11 j :: st) S Q :=
  v_callV (M' := MX11_judge) (c := 11) (As := [a0]) dX11_judge_30 ml_X11_252 im_X11_judge se_X11_judge in_X11 cd_X11_judge rfl LY_11 np_X11_judge (by decide) hw hj hC k
theorem b_X11_judge_33 {h : Nat} {L : LVs} {st : List AV} {S : ST} {Q : Option AV → ST → Prop} (k : o_isub L st S (fun L st S => t_ir st S Q)) : V MX11_judge h 33 L st S Q :=
  v_isub dX11_judge_33 (fun L st S k => w_ir dX11_judge_34 rfl k) k
theorem b_X11_judge_35 {h : Nat} {L : LVs} {st : List AV} {S : ST} {Q : Option AV → ST → Prop} (k : o_il L st S (fun L st S => o_c L st S (fun L st S => t_2 L st S (fun x y => x = y) (fun L st S => V MX11_judge h 47 L st S Q) (fun L st S => V MX11_judge h 41 L st S Q)) (nI 15)) 2) : V MX11_judge h 35 L st S Q :=
  v_iload_n dX11_judge_35 rfl (fun L st S k => v_bipush dX11_judge_36 (by decide) (fun L st S k => w_icmp_eq dX11_judge_38 (by decide) rfl k) k) k
theorem b_X11_judge_41 {h : Nat} {L : LVs} {st : List AV} {S : ST} {Q : Option AV → ST → Prop} (k : o_il L st S (fun L st S => o_c L st S (fun L st S => t_2 L st S (fun x y => x = y) (fun L st S => V MX11_judge h 47 L st S Q) (fun L st S => V MX11_judge h 102 L st S Q)) (nI 16)) 2) : V MX11_judge h 41 L st S Q :=
  v_iload_n dX11_judge_41 rfl (fun L st S k => v_bipush dX11_judge_42 (by decide) (fun L st S k => w_icmp_ne dX11_judge_44 (by decide) rfl k) k) k
theorem b_X11_judge_47 {h : Nat} {L : LVs} {st : List AV} {S : ST} {Q : Option AV → ST → Prop} (k : o_al L st S (fun L st S => o_al L st S (fun L st S => o_get L st S (fun L st S => o_il L st S (fun L st S => o_iald L st S (fun L st S => V MX11_judge h 54 L st S Q)) 1) 11 9 (3, 44, 0)) 0) 0) : V MX11_judge h 47 L st S Q :=
  v_aload_n dX11_judge_47 rfl (fun L st S k => v_aload_n dX11_judge_48 rfl (fun L st S k => v_get dX11_judge_49 rfl iX11 LY_11 rfl (by decide) rfl fl_X11_23 (fun L st S k => v_iload_n dX11_judge_52 rfl (fun L st S k => v_iaload dX11_judge_53 (fun L st S k => k) k) k) k) k) k
theorem k_X11_judge_54 {h : Nat} {L : LVs} {st : List AV} {S : ST} {Q Q' : Option AV → ST → Prop} {j : Nat} {a0 : AV} (hC : Ct MX11_judge h [vR 11 j, a0] S Q') (k : ∀ (r : Option AV) (S' : ST), Q' r S' → V MX11_judge (h + 1) 57 L (r.toList ++ st) S' Q) (hj : j < NI 11) (hw : wid st ≤ 8) : V MX11_judge (h + 1) 54 L (a0 :: vR 11 j :: st) S Q :=
  v_callV (M' := MX11_judge) (c := 11) (As := [a0]) dX11_judge_54 ml_X11_252 im_X11_judge se_X11_judge in_X11 cd_X11_judge rfl LY_11 np_X11_judge (by decide) hw hj hC k
theorem b_X11_judge_57 {h : Nat} {L : LVs} {st : List AV} {S : ST} {Q : Option AV → ST → Prop} (k : o_is L st S (fun L st S => o_al L st S (fun L st S => o_al L st S (fun L st S => o_get L st S (fun L st S => o_il L st S (fun L st S => o_iald L st S (fun L st S => V MX11_judge h 65 L st S Q)) 1) 11 10 (3, 45, 0)) 0) 0) 3) : V MX11_judge h 57 L st S Q :=
  v_istore_n dX11_judge_57 rfl (by decide) (fun L st S k => v_aload_n dX11_judge_58 rfl (fun L st S k => v_aload_n dX11_judge_59 rfl (fun L st S k => v_get dX11_judge_60 rfl iX11 LY_11 rfl (by decide) rfl fl_X11_26 (fun L st S k => v_iload_n dX11_judge_63 rfl (fun L st S k => v_iaload dX11_judge_64 (fun L st S k => k) k) k) k) k) k) k
theorem k_X11_judge_65 {h : Nat} {L : LVs} {st : List AV} {S : ST} {Q Q' : Option AV → ST → Prop} {j : Nat} {a0 : AV} (hC : Ct MX11_judge h [vR 11 j, a0] S Q') (k : ∀ (r : Option AV) (S' : ST), Q' r S' → V MX11_judge (h + 1) 68 L (r.toList ++ st) S' Q) (hj : j < NI 11) (hw : wid st ≤ 8) : V MX11_judge (h + 1) 65 L (a0 :: vR 11 j :: st) S Q :=
  v_callV (M' := MX11_judge) (c := 11) (As := [a0]) dX11_judge_65 ml_X11_252 im_X11_judge se_X11_judge in_X11 cd_X11_judge rfl LY_11 np_X11_judge (by decide) hw hj hC k
theorem b_X11_judge_68 {h : Nat} {L : LVs} {st : List AV} {S : ST} {Q : Option AV → ST → Prop} (k : o_is L st S (fun L st S => o_il L st S (fun L st S => o_c L st S (fun L st S => t_2 L st S (fun x y => x = y) (fun L st S => V MX11_judge h 76 L st S Q) (fun L st S => V MX11_judge h 80 L st S Q)) (nI 15)) 2) 4) : V MX11_judge h 68 L st S Q :=
  v_istore dX11_judge_68 (by decide) (fun L st S k => v_iload_n dX11_judge_70 rfl (fun L st S k => v_bipush dX11_judge_71 (by decide) (fun L st S k => w_icmp_ne dX11_judge_73 (by decide) rfl k) k) k) k
theorem b_X11_judge_76 {h : Nat} {L : LVs} {st : List AV} {S : ST} {Q : Option AV → ST → Prop} (k : o_c L st S (fun L st S => V MX11_judge h 81 L st S Q) (nI 1)) : V MX11_judge h 76 L st S Q :=
  v_iconst dX11_judge_76 (by decide) (fun L st S k => v_goto dX11_judge_77 (by decide) k) k
theorem b_X11_judge_80 {h : Nat} {L : LVs} {st : List AV} {S : ST} {Q : Option AV → ST → Prop} (k : o_c L st S (fun L st S => V MX11_judge h 81 L st S Q) (nI 0)) : V MX11_judge h 80 L st S Q :=
  v_iconst dX11_judge_80 (by decide) (fun L st S k => k) k
theorem b_X11_judge_81 {h : Nat} {L : LVs} {st : List AV} {S : ST} {Q : Option AV → ST → Prop} (k : o_il L st S (fun L st S => o_il L st S (fun L st S => t_2 L st S (fun x y => y ≤ x) (fun L st S => V MX11_judge h 91 L st S Q) (fun L st S => V MX11_judge h 87 L st S Q)) 4) 3) : V MX11_judge h 81 L st S Q :=
  v_iload_n dX11_judge_81 rfl (fun L st S k => v_iload dX11_judge_82 (fun L st S k => w_icmp_ge dX11_judge_84 (by decide) rfl k) k) k
theorem b_X11_judge_87 {h : Nat} {L : LVs} {st : List AV} {S : ST} {Q : Option AV → ST → Prop} (k : o_c L st S (fun L st S => V MX11_judge h 92 L st S Q) (nI 1)) : V MX11_judge h 87 L st S Q :=
  v_iconst dX11_judge_87 (by decide) (fun L st S k => v_goto dX11_judge_88 (by decide) k) k
theorem b_X11_judge_91 {h : Nat} {L : LVs} {st : List AV} {S : ST} {Q : Option AV → ST → Prop} (k : o_c L st S (fun L st S => V MX11_judge h 92 L st S Q) (nI 0)) : V MX11_judge h 91 L st S Q :=
  v_iconst dX11_judge_91 (by decide) (fun L st S k => k) k
theorem b_X11_judge_92 {h : Nat} {L : LVs} {st : List AV} {S : ST} {Q : Option AV → ST → Prop} (k : t_2 L st S (fun x y => x = y) (fun L st S => V MX11_judge h 95 L st S Q) (fun L st S => V MX11_judge h 99 L st S Q)) : V MX11_judge h 92 L st S Q :=
  w_icmp_ne dX11_judge_92 (by decide) rfl k
theorem b_X11_judge_95 {h : Nat} {L : LVs} {st : List AV} {S : ST} {Q : Option AV → ST → Prop} (k : o_il L st S (fun L st S => V MX11_judge h 101 L st S Q) 3) : V MX11_judge h 95 L st S Q :=
  v_iload_n dX11_judge_95 rfl (fun L st S k => v_goto dX11_judge_96 (by decide) k) k
theorem b_X11_judge_99 {h : Nat} {L : LVs} {st : List AV} {S : ST} {Q : Option AV → ST → Prop} (k : o_il L st S (fun L st S => V MX11_judge h 101 L st S Q) 4) : V MX11_judge h 99 L st S Q :=
  v_iload dX11_judge_99 (fun L st S k => k) k
theorem b_X11_judge_101 {h : Nat} {L : LVs} {st : List AV} {S : ST} {Q : Option AV → ST → Prop} (k : t_ir st S Q) : V MX11_judge h 101 L st S Q :=
  w_ir dX11_judge_101 rfl k
theorem b_X11_judge_102 {h : Nat} {L : LVs} {st : List AV} {S : ST} {Q : Option AV → ST → Prop} (k : o_al L st S (fun L st S => o_al L st S (fun L st S => o_get L st S (fun L st S => o_il L st S (fun L st S => o_iald L st S (fun L st S => V MX11_judge h 109 L st S Q)) 1) 11 9 (3, 44, 0)) 0) 0) : V MX11_judge h 102 L st S Q :=
  v_aload_n dX11_judge_102 rfl (fun L st S k => v_aload_n dX11_judge_103 rfl (fun L st S k => v_get dX11_judge_104 rfl iX11 LY_11 rfl (by decide) rfl fl_X11_23 (fun L st S k => v_iload_n dX11_judge_107 rfl (fun L st S k => v_iaload dX11_judge_108 (fun L st S k => k) k) k) k) k) k
theorem k_X11_judge_109 {h : Nat} {L : LVs} {st : List AV} {S : ST} {Q Q' : Option AV → ST → Prop} {j : Nat} {a0 : AV} (hC : Ct MX11_work h [vR 11 j, a0] S Q') (k : ∀ (r : Option AV) (S' : ST), Q' r S' → V MX11_judge (h + 1) 112 L (r.toList ++ st) S' Q) (hj : j < NI 11) (hw : wid st ≤ 8) : V MX11_judge (h + 1) 109 L (a0 :: vR 11 j :: st) S Q :=
  v_callV (M' := MX11_work) (c := 11) (As := [a0]) dX11_judge_109 ml_X11_246 im_X11_work se_X11_work in_X11 cd_X11_work rfl LY_11 np_X11_work (by decide) hw hj hC k
theorem b_X11_judge_112 {h : Nat} {L : LVs} {st : List AV} {S : ST} {Q : Option AV → ST → Prop} (k : o_is L st S (fun L st S => o_al L st S (fun L st S => o_get L st S (fun L st S => o_is L st S (fun L st S => o_il L st S (fun L st S => o_c L st S (fun L st S => t_2 L st S (fun x y => x = y) (fun L st S => V MX11_judge h 125 L st S Q) (fun L st S => V MX11_judge h 136 L st S Q)) (nI 14)) 2) 4) 11 29 (2, 0, 0)) 0) 3) : V MX11_judge h 112 L st S Q :=
  v_istore_n dX11_judge_112 rfl (by decide) (fun L st S k => v_aload_n dX11_judge_113 rfl (fun L st S k => v_get dX11_judge_114 rfl iX11 LY_11 rfl (by decide) rfl fl_X11_242 (fun L st S k => v_istore dX11_judge_117 (by decide) (fun L st S k => v_iload_n dX11_judge_119 rfl (fun L st S k => v_bipush dX11_judge_120 (by decide) (fun L st S k => w_icmp_ne dX11_judge_122 (by decide) rfl k) k) k) k) k) k) k
theorem b_X11_judge_125 {h : Nat} {L : LVs} {st : List AV} {S : ST} {Q : Option AV → ST → Prop} (k : o_il L st S (fun L st S => t_1 L st S (fun x => x = nI 0) (fun L st S => V MX11_judge h 134 L st S Q) (fun L st S => V MX11_judge h 130 L st S Q)) 4) : V MX11_judge h 125 L st S Q :=
  v_iload dX11_judge_125 (fun L st S k => w_if_eq dX11_judge_127 (by decide) rfl k) k
theorem b_X11_judge_130 {h : Nat} {L : LVs} {st : List AV} {S : ST} {Q : Option AV → ST → Prop} (k : o_c L st S (fun L st S => V MX11_judge h 135 L st S Q) (nI 2)) : V MX11_judge h 130 L st S Q :=
  v_iconst dX11_judge_130 (by decide) (fun L st S k => v_goto dX11_judge_131 (by decide) k) k
theorem b_X11_judge_134 {h : Nat} {L : LVs} {st : List AV} {S : ST} {Q : Option AV → ST → Prop} (k : o_c L st S (fun L st S => V MX11_judge h 135 L st S Q) (nI 0)) : V MX11_judge h 134 L st S Q :=
  v_iconst dX11_judge_134 (by decide) (fun L st S k => k) k
theorem b_X11_judge_135 {h : Nat} {L : LVs} {st : List AV} {S : ST} {Q : Option AV → ST → Prop} (k : t_ir st S Q) : V MX11_judge h 135 L st S Q :=
  w_ir dX11_judge_135 rfl k
theorem b_X11_judge_136 {h : Nat} {L : LVs} {st : List AV} {S : ST} {Q : Option AV → ST → Prop} (k : o_al L st S (fun L st S => o_al L st S (fun L st S => o_get L st S (fun L st S => o_il L st S (fun L st S => o_iald L st S (fun L st S => V MX11_judge h 143 L st S Q)) 1) 11 10 (3, 45, 0)) 0) 0) : V MX11_judge h 136 L st S Q :=
  v_aload_n dX11_judge_136 rfl (fun L st S k => v_aload_n dX11_judge_137 rfl (fun L st S k => v_get dX11_judge_138 rfl iX11 LY_11 rfl (by decide) rfl fl_X11_26 (fun L st S k => v_iload_n dX11_judge_141 rfl (fun L st S k => v_iaload dX11_judge_142 (fun L st S k => k) k) k) k) k) k
theorem k_X11_judge_143 {h : Nat} {L : LVs} {st : List AV} {S : ST} {Q Q' : Option AV → ST → Prop} {j : Nat} {a0 : AV} (hC : Ct MX11_work h [vR 11 j, a0] S Q') (k : ∀ (r : Option AV) (S' : ST), Q' r S' → V MX11_judge (h + 1) 146 L (r.toList ++ st) S' Q) (hj : j < NI 11) (hw : wid st ≤ 8) : V MX11_judge (h + 1) 143 L (a0 :: vR 11 j :: st) S Q :=
  v_callV (M' := MX11_work) (c := 11) (As := [a0]) dX11_judge_143 ml_X11_246 im_X11_work se_X11_work in_X11 cd_X11_work rfl LY_11 np_X11_work (by decide) hw hj hC k
theorem b_X11_judge_146 {h : Nat} {L : LVs} {st : List AV} {S : ST} {Q : Option AV → ST → Prop} (k : o_is L st S (fun L st S => o_il L st S (fun L st S => t_1 L st S (fun x => x = nI 0) (fun L st S => V MX11_judge h 153 L st S Q) (fun L st S => V MX11_judge h 160 L st S Q)) 4) 5) : V MX11_judge h 146 L st S Q :=
  v_istore dX11_judge_146 (by decide) (fun L st S k => v_iload dX11_judge_148 (fun L st S k => w_if_ne dX11_judge_150 (by decide) rfl k) k) k
theorem b_X11_judge_153 {h : Nat} {L : LVs} {st : List AV} {S : ST} {Q : Option AV → ST → Prop} (k : o_al L st S (fun L st S => o_get L st S (fun L st S => t_1 L st S (fun x => x = nI 0) (fun L st S => V MX11_judge h 162 L st S Q) (fun L st S => V MX11_judge h 160 L st S Q)) 11 29 (2, 0, 0)) 0) : V MX11_judge h 153 L st S Q :=
  v_aload_n dX11_judge_153 rfl (fun L st S k => v_get dX11_judge_154 rfl iX11 LY_11 rfl (by decide) rfl fl_X11_242 (fun L st S k => w_if_eq dX11_judge_157 (by decide) rfl k) k) k
theorem b_X11_judge_160 {h : Nat} {L : LVs} {st : List AV} {S : ST} {Q : Option AV → ST → Prop} (k : o_c L st S (fun L st S => t_ir st S Q) (nI 1)) : V MX11_judge h 160 L st S Q :=
  v_iconst dX11_judge_160 (by decide) (fun L st S k => w_ir dX11_judge_161 rfl k) k
theorem b_X11_judge_162 {h : Nat} {L : LVs} {st : List AV} {S : ST} {Q : Option AV → ST → Prop} (k : o_il L st S (fun L st S => o_c L st S (fun L st S => t_2 L st S (fun x y => x = y) (fun L st S => V MX11_judge h 168 L st S Q) (fun L st S => V MX11_judge h 182 L st S Q)) (nI 40)) 2) : V MX11_judge h 162 L st S Q :=
  v_iload_n dX11_judge_162 rfl (fun L st S k => v_bipush dX11_judge_163 (by decide) (fun L st S k => w_icmp_ne dX11_judge_165 (by decide) rfl k) k) k
theorem b_X11_judge_168 {h : Nat} {L : LVs} {st : List AV} {S : ST} {Q : Option AV → ST → Prop} (k : o_il L st S (fun L st S => o_il L st S (fun L st S => t_2 L st S (fun x y => x = y) (fun L st S => V MX11_judge h 174 L st S Q) (fun L st S => V MX11_judge h 178 L st S Q)) 5) 3) : V MX11_judge h 168 L st S Q :=
  v_iload_n dX11_judge_168 rfl (fun L st S k => v_iload dX11_judge_169 (fun L st S k => w_icmp_ne dX11_judge_171 (by decide) rfl k) k) k
theorem b_X11_judge_174 {h : Nat} {L : LVs} {st : List AV} {S : ST} {Q : Option AV → ST → Prop} (k : o_c L st S (fun L st S => V MX11_judge h 273 L st S Q) (nI 1)) : V MX11_judge h 174 L st S Q :=
  v_iconst dX11_judge_174 (by decide) (fun L st S k => v_goto dX11_judge_175 (by decide) k) k
theorem b_X11_judge_178 {h : Nat} {L : LVs} {st : List AV} {S : ST} {Q : Option AV → ST → Prop} (k : o_c L st S (fun L st S => V MX11_judge h 273 L st S Q) (nI 0)) : V MX11_judge h 178 L st S Q :=
  v_iconst dX11_judge_178 (by decide) (fun L st S k => v_goto dX11_judge_179 (by decide) k) k
theorem b_X11_judge_182 {h : Nat} {L : LVs} {st : List AV} {S : ST} {Q : Option AV → ST → Prop} (k : o_il L st S (fun L st S => o_c L st S (fun L st S => t_2 L st S (fun x y => x = y) (fun L st S => V MX11_judge h 188 L st S Q) (fun L st S => V MX11_judge h 202 L st S Q)) (nI 45)) 2) : V MX11_judge h 182 L st S Q :=
  v_iload_n dX11_judge_182 rfl (fun L st S k => v_bipush dX11_judge_183 (by decide) (fun L st S k => w_icmp_ne dX11_judge_185 (by decide) rfl k) k) k
theorem b_X11_judge_188 {h : Nat} {L : LVs} {st : List AV} {S : ST} {Q : Option AV → ST → Prop} (k : o_il L st S (fun L st S => o_il L st S (fun L st S => t_2 L st S (fun x y => x = y) (fun L st S => V MX11_judge h 198 L st S Q) (fun L st S => V MX11_judge h 194 L st S Q)) 5) 3) : V MX11_judge h 188 L st S Q :=
  v_iload_n dX11_judge_188 rfl (fun L st S k => v_iload dX11_judge_189 (fun L st S k => w_icmp_eq dX11_judge_191 (by decide) rfl k) k) k
theorem b_X11_judge_194 {h : Nat} {L : LVs} {st : List AV} {S : ST} {Q : Option AV → ST → Prop} (k : o_c L st S (fun L st S => V MX11_judge h 273 L st S Q) (nI 1)) : V MX11_judge h 194 L st S Q :=
  v_iconst dX11_judge_194 (by decide) (fun L st S k => v_goto dX11_judge_195 (by decide) k) k
theorem b_X11_judge_198 {h : Nat} {L : LVs} {st : List AV} {S : ST} {Q : Option AV → ST → Prop} (k : o_c L st S (fun L st S => V MX11_judge h 273 L st S Q) (nI 0)) : V MX11_judge h 198 L st S Q :=
  v_iconst dX11_judge_198 (by decide) (fun L st S k => v_goto dX11_judge_199 (by decide) k) k
theorem b_X11_judge_202 {h : Nat} {L : LVs} {st : List AV} {S : ST} {Q : Option AV → ST → Prop} (k : o_il L st S (fun L st S => o_c L st S (fun L st S => t_2 L st S (fun x y => x = y) (fun L st S => V MX11_judge h 208 L st S Q) (fun L st S => V MX11_judge h 222 L st S Q)) (nI 41)) 2) : V MX11_judge h 202 L st S Q :=
  v_iload_n dX11_judge_202 rfl (fun L st S k => v_bipush dX11_judge_203 (by decide) (fun L st S k => w_icmp_ne dX11_judge_205 (by decide) rfl k) k) k
theorem b_X11_judge_208 {h : Nat} {L : LVs} {st : List AV} {S : ST} {Q : Option AV → ST → Prop} (k : o_il L st S (fun L st S => o_il L st S (fun L st S => t_2 L st S (fun x y => y ≤ x) (fun L st S => V MX11_judge h 218 L st S Q) (fun L st S => V MX11_judge h 214 L st S Q)) 5) 3) : V MX11_judge h 208 L st S Q :=
  v_iload_n dX11_judge_208 rfl (fun L st S k => v_iload dX11_judge_209 (fun L st S k => w_icmp_ge dX11_judge_211 (by decide) rfl k) k) k
theorem b_X11_judge_214 {h : Nat} {L : LVs} {st : List AV} {S : ST} {Q : Option AV → ST → Prop} (k : o_c L st S (fun L st S => V MX11_judge h 273 L st S Q) (nI 1)) : V MX11_judge h 214 L st S Q :=
  v_iconst dX11_judge_214 (by decide) (fun L st S k => v_goto dX11_judge_215 (by decide) k) k
theorem b_X11_judge_218 {h : Nat} {L : LVs} {st : List AV} {S : ST} {Q : Option AV → ST → Prop} (k : o_c L st S (fun L st S => V MX11_judge h 273 L st S Q) (nI 0)) : V MX11_judge h 218 L st S Q :=
  v_iconst dX11_judge_218 (by decide) (fun L st S k => v_goto dX11_judge_219 (by decide) k) k
theorem b_X11_judge_222 {h : Nat} {L : LVs} {st : List AV} {S : ST} {Q : Option AV → ST → Prop} (k : o_il L st S (fun L st S => o_c L st S (fun L st S => t_2 L st S (fun x y => x = y) (fun L st S => V MX11_judge h 228 L st S Q) (fun L st S => V MX11_judge h 242 L st S Q)) (nI 42)) 2) : V MX11_judge h 222 L st S Q :=
  v_iload_n dX11_judge_222 rfl (fun L st S k => v_bipush dX11_judge_223 (by decide) (fun L st S k => w_icmp_ne dX11_judge_225 (by decide) rfl k) k) k
theorem b_X11_judge_228 {h : Nat} {L : LVs} {st : List AV} {S : ST} {Q : Option AV → ST → Prop} (k : o_il L st S (fun L st S => o_il L st S (fun L st S => t_2 L st S (fun x y => x ≤ y) (fun L st S => V MX11_judge h 238 L st S Q) (fun L st S => V MX11_judge h 234 L st S Q)) 5) 3) : V MX11_judge h 228 L st S Q :=
  v_iload_n dX11_judge_228 rfl (fun L st S k => v_iload dX11_judge_229 (fun L st S k => w_icmp_le dX11_judge_231 (by decide) rfl k) k) k
theorem b_X11_judge_234 {h : Nat} {L : LVs} {st : List AV} {S : ST} {Q : Option AV → ST → Prop} (k : o_c L st S (fun L st S => V MX11_judge h 273 L st S Q) (nI 1)) : V MX11_judge h 234 L st S Q :=
  v_iconst dX11_judge_234 (by decide) (fun L st S k => v_goto dX11_judge_235 (by decide) k) k
theorem b_X11_judge_238 {h : Nat} {L : LVs} {st : List AV} {S : ST} {Q : Option AV → ST → Prop} (k : o_c L st S (fun L st S => V MX11_judge h 273 L st S Q) (nI 0)) : V MX11_judge h 238 L st S Q :=
  v_iconst dX11_judge_238 (by decide) (fun L st S k => v_goto dX11_judge_239 (by decide) k) k
theorem b_X11_judge_242 {h : Nat} {L : LVs} {st : List AV} {S : ST} {Q : Option AV → ST → Prop} (k : o_il L st S (fun L st S => o_c L st S (fun L st S => t_2 L st S (fun x y => x = y) (fun L st S => V MX11_judge h 248 L st S Q) (fun L st S => V MX11_judge h 262 L st S Q)) (nI 43)) 2) : V MX11_judge h 242 L st S Q :=
  v_iload_n dX11_judge_242 rfl (fun L st S k => v_bipush dX11_judge_243 (by decide) (fun L st S k => w_icmp_ne dX11_judge_245 (by decide) rfl k) k) k
theorem b_X11_judge_248 {h : Nat} {L : LVs} {st : List AV} {S : ST} {Q : Option AV → ST → Prop} (k : o_il L st S (fun L st S => o_il L st S (fun L st S => t_2 L st S (fun x y => y < x) (fun L st S => V MX11_judge h 258 L st S Q) (fun L st S => V MX11_judge h 254 L st S Q)) 5) 3) : V MX11_judge h 248 L st S Q :=
  v_iload_n dX11_judge_248 rfl (fun L st S k => v_iload dX11_judge_249 (fun L st S k => w_icmp_gt dX11_judge_251 (by decide) rfl k) k) k
theorem b_X11_judge_254 {h : Nat} {L : LVs} {st : List AV} {S : ST} {Q : Option AV → ST → Prop} (k : o_c L st S (fun L st S => V MX11_judge h 273 L st S Q) (nI 1)) : V MX11_judge h 254 L st S Q :=
  v_iconst dX11_judge_254 (by decide) (fun L st S k => v_goto dX11_judge_255 (by decide) k) k
theorem b_X11_judge_258 {h : Nat} {L : LVs} {st : List AV} {S : ST} {Q : Option AV → ST → Prop} (k : o_c L st S (fun L st S => V MX11_judge h 273 L st S Q) (nI 0)) : V MX11_judge h 258 L st S Q :=
  v_iconst dX11_judge_258 (by decide) (fun L st S k => v_goto dX11_judge_259 (by decide) k) k
theorem b_X11_judge_262 {h : Nat} {L : LVs} {st : List AV} {S : ST} {Q : Option AV → ST → Prop} (k : o_il L st S (fun L st S => o_il L st S (fun L st S => t_2 L st S (fun x y => x < y) (fun L st S => V MX11_judge h 272 L st S Q) (fun L st S => V MX11_judge h 268 L st S Q)) 5) 3) : V MX11_judge h 262 L st S Q :=
  v_iload_n dX11_judge_262 rfl (fun L st S k => v_iload dX11_judge_263 (fun L st S k => w_icmp_lt dX11_judge_265 (by decide) rfl k) k) k
theorem b_X11_judge_268 {h : Nat} {L : LVs} {st : List AV} {S : ST} {Q : Option AV → ST → Prop} (k : o_c L st S (fun L st S => V MX11_judge h 273 L st S Q) (nI 1)) : V MX11_judge h 268 L st S Q :=
  v_iconst dX11_judge_268 (by decide) (fun L st S k => v_goto dX11_judge_269 (by decide) k) k
theorem b_X11_judge_272 {h : Nat} {L : LVs} {st : List AV} {S : ST} {Q : Option AV → ST → Prop} (k : o_c L st S (fun L st S => V MX11_judge h 273 L st S Q) (nI 0)) : V MX11_judge h 272 L st S Q :=
  v_iconst dX11_judge_272 (by decide) (fun L st S k => k) k
theorem b_X11_judge_273 {h : Nat} {L : LVs} {st : List AV} {S : ST} {Q : Option AV → ST → Prop} (k : o_is L st S (fun L st S => o_il L st S (fun L st S => t_1 L st S (fun x => x = nI 0) (fun L st S => V MX11_judge h 284 L st S Q) (fun L st S => V MX11_judge h 280 L st S Q)) 6) 6) : V MX11_judge h 273 L st S Q :=
  v_istore dX11_judge_273 (by decide) (fun L st S k => v_iload dX11_judge_275 (fun L st S k => w_if_eq dX11_judge_277 (by decide) rfl k) k) k
theorem b_X11_judge_280 {h : Nat} {L : LVs} {st : List AV} {S : ST} {Q : Option AV → ST → Prop} (k : o_c L st S (fun L st S => V MX11_judge h 285 L st S Q) (nI 2)) : V MX11_judge h 280 L st S Q :=
  v_iconst dX11_judge_280 (by decide) (fun L st S k => v_goto dX11_judge_281 (by decide) k) k
theorem b_X11_judge_284 {h : Nat} {L : LVs} {st : List AV} {S : ST} {Q : Option AV → ST → Prop} (k : o_c L st S (fun L st S => V MX11_judge h 285 L st S Q) (nI 0)) : V MX11_judge h 284 L st S Q :=
  v_iconst dX11_judge_284 (by decide) (fun L st S k => k) k
theorem b_X11_judge_285 {h : Nat} {L : LVs} {st : List AV} {S : ST} {Q : Option AV → ST → Prop} (k : t_ir st S Q) : V MX11_judge h 285 L st S Q :=
  w_ir dX11_judge_285 rfl k
-- QueryForgeModel.holds(I)Z
theorem dX11_holds_0 : decode cX11_holds 0 = .ok (.iload_n 1, 1) := by decide +kernel
theorem dX11_holds_1 : decode cX11_holds 1 = .ok (.ifCond .lt 12, 3) := by decide +kernel
theorem dX11_holds_4 : decode cX11_holds 4 = .ok (.aload_n 0, 1) := by decide +kernel
theorem dX11_holds_5 : decode cX11_holds 5 = .ok (.iload_n 1, 1) := by decide +kernel
theorem dX11_holds_6 : decode cX11_holds 6 = .ok (.invokevirtual 252, 3) := by decide +kernel
theorem dX11_holds_9 : decode cX11_holds 9 = .ok (.iconst 2, 1) := by decide +kernel
theorem dX11_holds_10 : decode cX11_holds 10 = .ok (.if_icmp .ne 7, 3) := by decide +kernel
theorem dX11_holds_13 : decode cX11_holds 13 = .ok (.iconst 1, 1) := by decide +kernel
theorem dX11_holds_14 : decode cX11_holds 14 = .ok (.goto 4, 3) := by decide +kernel
theorem dX11_holds_17 : decode cX11_holds 17 = .ok (.iconst 0, 1) := by decide +kernel
theorem dX11_holds_18 : decode cX11_holds 18 = .ok (.ireturn, 1) := by decide +kernel
theorem b_X11_holds_0 {h : Nat} {L : LVs} {st : List AV} {S : ST} {Q : Option AV → ST → Prop} (k : o_il L st S (fun L st S => t_1 L st S (fun x => x < nI 0) (fun L st S => V MX11_holds h 13 L st S Q) (fun L st S => V MX11_holds h 4 L st S Q)) 1) : V MX11_holds h 0 L st S Q :=
  v_iload_n dX11_holds_0 rfl (fun L st S k => w_if_lt dX11_holds_1 (by decide) rfl k) k
theorem b_X11_holds_4 {h : Nat} {L : LVs} {st : List AV} {S : ST} {Q : Option AV → ST → Prop} (k : o_al L st S (fun L st S => o_il L st S (fun L st S => V MX11_holds h 6 L st S Q) 1) 0) : V MX11_holds h 4 L st S Q :=
  v_aload_n dX11_holds_4 rfl (fun L st S k => v_iload_n dX11_holds_5 rfl (fun L st S k => k) k) k
theorem k_X11_holds_6 {h : Nat} {L : LVs} {st : List AV} {S : ST} {Q Q' : Option AV → ST → Prop} {j : Nat} {a0 : AV} (hC : Ct MX11_judge h [vR 11 j, a0] S Q') (k : ∀ (r : Option AV) (S' : ST), Q' r S' → V MX11_holds (h + 1) 9 L (r.toList ++ st) S' Q) (hj : j < NI 11) (hw : wid st ≤ 8) : V MX11_holds (h + 1) 6 L (a0 :: vR 11 j :: st) S Q :=
  v_callV (M' := MX11_judge) (c := 11) (As := [a0]) dX11_holds_6 ml_X11_252 im_X11_judge se_X11_judge in_X11 cd_X11_judge rfl LY_11 np_X11_judge (by decide) hw hj hC k
theorem b_X11_holds_9 {h : Nat} {L : LVs} {st : List AV} {S : ST} {Q : Option AV → ST → Prop} (k : o_c L st S (fun L st S => t_2 L st S (fun x y => x = y) (fun L st S => V MX11_holds h 13 L st S Q) (fun L st S => V MX11_holds h 17 L st S Q)) (nI 2)) : V MX11_holds h 9 L st S Q :=
  v_iconst dX11_holds_9 (by decide) (fun L st S k => w_icmp_ne dX11_holds_10 (by decide) rfl k) k
theorem b_X11_holds_13 {h : Nat} {L : LVs} {st : List AV} {S : ST} {Q : Option AV → ST → Prop} (k : o_c L st S (fun L st S => V MX11_holds h 18 L st S Q) (nI 1)) : V MX11_holds h 13 L st S Q :=
  v_iconst dX11_holds_13 (by decide) (fun L st S k => v_goto dX11_holds_14 (by decide) k) k
theorem b_X11_holds_17 {h : Nat} {L : LVs} {st : List AV} {S : ST} {Q : Option AV → ST → Prop} (k : o_c L st S (fun L st S => V MX11_holds h 18 L st S Q) (nI 0)) : V MX11_holds h 17 L st S Q :=
  v_iconst dX11_holds_17 (by decide) (fun L st S k => k) k
theorem b_X11_holds_18 {h : Nat} {L : LVs} {st : List AV} {S : ST} {Q : Option AV → ST → Prop} (k : t_zr st S Q) : V MX11_holds h 18 L st S Q :=
  w_zr dX11_holds_18 rfl k
-- QueryForgeModel.create()I
theorem dX11_create_0 : decode cX11_create 0 = .ok (.aload_n 0, 1) := by decide +kernel
theorem dX11_create_1 : decode cX11_create 1 = .ok (.bipush 50, 2) := by decide +kernel
theorem dX11_create_3 : decode cX11_create 3 = .ok (.invokevirtual 181, 3) := by decide +kernel
theorem dX11_create_6 : decode cX11_create 6 = .ok (.lstore_n 1, 1) := by decide +kernel
theorem dX11_create_7 : decode cX11_create 7 = .ok (.aload_n 0, 1) := by decide +kernel
theorem dX11_create_8 : decode cX11_create 8 = .ok (.bipush 30, 2) := by decide +kernel
theorem dX11_create_10 : decode cX11_create 10 = .ok (.invokevirtual 181, 3) := by decide +kernel
theorem dX11_create_13 : decode cX11_create 13 = .ok (.lstore_n 3, 1) := by decide +kernel
theorem dX11_create_14 : decode cX11_create 14 = .ok (.iconst 0, 1) := by decide +kernel
theorem dX11_create_15 : decode cX11_create 15 = .ok (.istore 5, 2) := by decide +kernel
theorem dX11_create_17 : decode cX11_create 17 = .ok (.iconst 1, 1) := by decide +kernel
theorem dX11_create_18 : decode cX11_create 18 = .ok (.istore 6, 2) := by decide +kernel
theorem dX11_create_20 : decode cX11_create 20 = .ok (.iconst 0, 1) := by decide +kernel
theorem dX11_create_21 : decode cX11_create 21 = .ok (.istore 7, 2) := by decide +kernel
theorem dX11_create_23 : decode cX11_create 23 = .ok (.iload 6, 2) := by decide +kernel
theorem dX11_create_25 : decode cX11_create 25 = .ok (.ifCond .eq 178, 3) := by decide +kernel
theorem dX11_create_28 : decode cX11_create 28 = .ok (.aload_n 0, 1) := by decide +kernel
theorem dX11_create_29 : decode cX11_create 29 = .ok (.getfield 169, 3) := by decide +kernel
theorem dX11_create_32 : decode cX11_create 32 = .ok (.ifCond .ge 171, 3) := by decide +kernel
theorem dX11_create_35 : decode cX11_create 35 = .ok (.aload_n 0, 1) := by decide +kernel
theorem dX11_create_36 : decode cX11_create 36 = .ok (.bipush 50, 2) := by decide +kernel
theorem dX11_create_38 : decode cX11_create 38 = .ok (.invokevirtual 181, 3) := by decide +kernel
theorem dX11_create_41 : decode cX11_create 41 = .ok (.lstore 8, 2) := by decide +kernel
theorem dX11_create_43 : decode cX11_create 43 = .ok (.aload_n 0, 1) := by decide +kernel
theorem dX11_create_44 : decode cX11_create 44 = .ok (.getfield 169, 3) := by decide +kernel
theorem dX11_create_47 : decode cX11_create 47 = .ok (.ifCond .ge 39, 3) := by decide +kernel
theorem dX11_create_50 : decode cX11_create 50 = .ok (.aload_n 0, 1) := by decide +kernel
theorem dX11_create_51 : decode cX11_create 51 = .ok (.getfield 13, 3) := by decide +kernel
theorem dX11_create_54 : decode cX11_create 54 = .ok (.aload_n 0, 1) := by decide +kernel
theorem dX11_create_55 : decode cX11_create 55 = .ok (.getfield 172, 3) := by decide +kernel
theorem dX11_create_58 : decode cX11_create 58 = .ok (.iaload, 1) := by decide +kernel
theorem dX11_create_59 : decode cX11_create 59 = .ok (.bipush 11, 2) := by decide +kernel
theorem dX11_create_61 : decode cX11_create 61 = .ok (.if_icmp .eq 25, 3) := by decide +kernel
theorem dX11_create_64 : decode cX11_create 64 = .ok (.aload_n 0, 1) := by decide +kernel
theorem dX11_create_65 : decode cX11_create 65 = .ok (.getfield 13, 3) := by decide +kernel
theorem dX11_create_68 : decode cX11_create 68 = .ok (.aload_n 0, 1) := by decide +kernel
theorem dX11_create_69 : decode cX11_create 69 = .ok (.getfield 172, 3) := by decide +kernel
theorem dX11_create_72 : decode cX11_create 72 = .ok (.iaload, 1) := by decide +kernel
theorem dX11_create_73 : decode cX11_create 73 = .ok (.bipush 12, 2) := by decide +kernel
theorem dX11_create_75 : decode cX11_create 75 = .ok (.if_icmp .eq 11, 3) := by decide +kernel
theorem dX11_create_78 : decode cX11_create 78 = .ok (.aload_n 0, 1) := by decide +kernel
theorem dX11_create_79 : decode cX11_create 79 = .ok (.aload_n 0, 1) := by decide +kernel
theorem dX11_create_80 : decode cX11_create 80 = .ok (.getfield 172, 3) := by decide +kernel
theorem dX11_create_83 : decode cX11_create 83 = .ok (.putfield 169, 3) := by decide +kernel
theorem dX11_create_86 : decode cX11_create 86 = .ok (.aload_n 0, 1) := by decide +kernel
theorem dX11_create_87 : decode cX11_create 87 = .ok (.aload_n 0, 1) := by decide +kernel
theorem dX11_create_88 : decode cX11_create 88 = .ok (.getfield 13, 3) := by decide +kernel
theorem dX11_create_91 : decode cX11_create 91 = .ok (.aload_n 0, 1) := by decide +kernel
theorem dX11_create_92 : decode cX11_create 92 = .ok (.getfield 172, 3) := by decide +kernel
theorem dX11_create_95 : decode cX11_create 95 = .ok (.iaload, 1) := by decide +kernel
theorem dX11_create_96 : decode cX11_create 96 = .ok (.iconst (-1), 1) := by decide +kernel
theorem dX11_create_97 : decode cX11_create 97 = .ok (.iconst (-1), 1) := by decide +kernel
theorem dX11_create_98 : decode cX11_create 98 = .ok (.lload 8, 2) := by decide +kernel
theorem dX11_create_100 : decode cX11_create 100 = .ok (.invokevirtual 185, 3) := by decide +kernel
theorem dX11_create_103 : decode cX11_create 103 = .ok (.istore 10, 2) := by decide +kernel
theorem dX11_create_105 : decode cX11_create 105 = .ok (.aload_n 0, 1) := by decide +kernel
theorem dX11_create_106 : decode cX11_create 106 = .ok (.dup, 1) := by decide +kernel
theorem dX11_create_107 : decode cX11_create 107 = .ok (.getfield 172, 3) := by decide +kernel
theorem dX11_create_110 : decode cX11_create 110 = .ok (.iconst 1, 1) := by decide +kernel
theorem dX11_create_111 : decode cX11_create 111 = .ok (.iadd, 1) := by decide +kernel
theorem dX11_create_112 : decode cX11_create 112 = .ok (.putfield 172, 3) := by decide +kernel
theorem dX11_create_115 : decode cX11_create 115 = .ok (.iconst 0, 1) := by decide +kernel
theorem dX11_create_116 : decode cX11_create 116 = .ok (.istore 11, 2) := by decide +kernel
theorem dX11_create_118 : decode cX11_create 118 = .ok (.iload 11, 2) := by decide +kernel
theorem dX11_create_120 : decode cX11_create 120 = .ok (.iload 10, 2) := by decide +kernel
theorem dX11_create_122 : decode cX11_create 122 = .ok (.if_icmp .ge 34, 3) := by decide +kernel
theorem dX11_create_125 : decode cX11_create 125 = .ok (.iload 7, 2) := by decide +kernel
theorem dX11_create_127 : decode cX11_create 127 = .ok (.ifCond .ne 16, 3) := by decide +kernel
theorem dX11_create_130 : decode cX11_create 130 = .ok (.aload_n 0, 1) := by decide +kernel
theorem dX11_create_131 : decode cX11_create 131 = .ok (.getfield 29, 3) := by decide +kernel
theorem dX11_create_134 : decode cX11_create 134 = .ok (.iload 11, 2) := by decide +kernel
theorem dX11_create_136 : decode cX11_create 136 = .ok (.laload, 1) := by decide +kernel
theorem dX11_create_137 : decode cX11_create 137 = .ok (.lload 8, 2) := by decide +kernel
theorem dX11_create_139 : decode cX11_create 139 = .ok (.lcmp, 1) := by decide +kernel
theorem dX11_create_140 : decode cX11_create 140 = .ok (.ifCond .ne 7, 3) := by decide +kernel
theorem dX11_create_143 : decode cX11_create 143 = .ok (.iconst 1, 1) := by decide +kernel
theorem dX11_create_144 : decode cX11_create 144 = .ok (.goto 4, 3) := by decide +kernel
theorem dX11_create_147 : decode cX11_create 147 = .ok (.iconst 0, 1) := by decide +kernel
theorem dX11_create_148 : decode cX11_create 148 = .ok (.istore 7, 2) := by decide +kernel
theorem dX11_create_150 : decode cX11_create 150 = .ok (.iinc 11 1, 3) := by decide +kernel
theorem dX11_create_153 : decode cX11_create 153 = .ok (.goto (-35), 3) := by decide +kernel
theorem dX11_create_156 : decode cX11_create 156 = .ok (.iinc 5 1, 3) := by decide +kernel
theorem dX11_create_159 : decode cX11_create 159 = .ok (.iload 5, 2) := by decide +kernel
theorem dX11_create_161 : decode cX11_create 161 = .ok (.iconst 4, 1) := by decide +kernel
theorem dX11_create_162 : decode cX11_create 162 = .ok (.if_icmp .ge 16, 3) := by decide +kernel
theorem dX11_create_165 : decode cX11_create 165 = .ok (.aload_n 0, 1) := by decide +kernel
theorem dX11_create_166 : decode cX11_create 166 = .ok (.bipush 34, 2) := by decide +kernel
theorem dX11_create_168 : decode cX11_create 168 = .ok (.invokevirtual 189, 3) := by decide +kernel
theorem dX11_create_171 : decode cX11_create 171 = .ok (.ifCond .eq 7, 3) := by decide +kernel
theorem dX11_create_174 : decode cX11_create 174 = .ok (.iconst 1, 1) := by decide +kernel
theorem dX11_create_175 : decode cX11_create 175 = .ok (.goto 4, 3) := by decide +kernel
theorem dX11_create_178 : decode cX11_create 178 = .ok (.iconst 0, 1) := by decide +kernel
theorem dX11_create_179 : decode cX11_create 179 = .ok (.istore 6, 2) := by decide +kernel
theorem dX11_create_181 : decode cX11_create 181 = .ok (.aload_n 0, 1) := by decide +kernel
theorem dX11_create_182 : decode cX11_create 182 = .ok (.dup, 1) := by decide +kernel
theorem dX11_create_183 : decode cX11_create 183 = .ok (.getfield 172, 3) := by decide +kernel
theorem dX11_create_186 : decode cX11_create 186 = .ok (.iload 6, 2) := by decide +kernel
theorem dX11_create_188 : decode cX11_create 188 = .ok (.ifCond .eq 7, 3) := by decide +kernel
theorem dX11_create_191 : decode cX11_create 191 = .ok (.iconst 1, 1) := by decide +kernel
theorem dX11_create_192 : decode cX11_create 192 = .ok (.goto 4, 3) := by decide +kernel
theorem dX11_create_195 : decode cX11_create 195 = .ok (.iconst 0, 1) := by decide +kernel
theorem dX11_create_196 : decode cX11_create 196 = .ok (.iadd, 1) := by decide +kernel
theorem dX11_create_197 : decode cX11_create 197 = .ok (.putfield 172, 3) := by decide +kernel
theorem dX11_create_200 : decode cX11_create 200 = .ok (.goto (-177), 3) := by decide +kernel
theorem dX11_create_203 : decode cX11_create 203 = .ok (.aload_n 0, 1) := by decide +kernel
theorem dX11_create_204 : decode cX11_create 204 = .ok (.bipush 31, 2) := by decide +kernel
theorem dX11_create_206 : decode cX11_create 206 = .ok (.invokevirtual 181, 3) := by decide +kernel
theorem dX11_create_209 : decode cX11_create 209 = .ok (.lstore_n 3, 1) := by decide +kernel
theorem dX11_create_210 : decode cX11_create 210 = .ok (.aload_n 0, 1) := by decide +kernel
theorem dX11_create_211 : decode cX11_create 211 = .ok (.invokevirtual 255, 3) := by decide +kernel
theorem dX11_create_214 : decode cX11_create 214 = .ok (.ifCond .ne 5, 3) := by decide +kernel
theorem dX11_create_217 : decode cX11_create 217 = .ok (.iconst 0, 1) := by decide +kernel
theorem dX11_create_218 : decode cX11_create 218 = .ok (.ireturn, 1) := by decide +kernel
theorem dX11_create_219 : decode cX11_create 219 = .ok (.aload_n 0, 1) := by decide +kernel
theorem dX11_create_220 : decode cX11_create 220 = .ok (.aload_n 0, 1) := by decide +kernel
theorem dX11_create_221 : decode cX11_create 221 = .ok (.lload_n 1, 1) := by decide +kernel
theorem dX11_create_222 : decode cX11_create 222 = .ok (.invokevirtual 225, 3) := by decide +kernel
theorem dX11_create_225 : decode cX11_create 225 = .ok (.ifCond .lt 9, 3) := by decide +kernel
theorem dX11_create_228 : decode cX11_create 228 = .ok (.sipush (-1003), 3) := by decide +kernel
theorem dX11_create_231 : decode cX11_create 231 = .ok (.goto 29, 3) := by decide +kernel
theorem dX11_create_234 : decode cX11_create 234 = .ok (.aload_n 0, 1) := by decide +kernel
theorem dX11_create_235 : decode cX11_create 235 = .ok (.getfield 216, 3) := by decide +kernel
theorem dX11_create_238 : decode cX11_create 238 = .ok (.iconst 4, 1) := by decide +kernel
theorem dX11_create_239 : decode cX11_create 239 = .ok (.if_icmp .ne 9, 3) := by decide +kernel
theorem dX11_create_242 : decode cX11_create 242 = .ok (.sipush (-1006), 3) := by decide +kernel
theorem dX11_create_245 : decode cX11_create 245 = .ok (.goto 15, 3) := by decide +kernel
theorem dX11_create_248 : decode cX11_create 248 = .ok (.iload 7, 2) := by decide +kernel
theorem dX11_create_250 : decode cX11_create 250 = .ok (.ifCond .eq 9, 3) := by decide +kernel
theorem dX11_create_253 : decode cX11_create 253 = .ok (.sipush (-1003), 3) := by decide +kernel
theorem dX11_create_256 : decode cX11_create 256 = .ok (.goto 4, 3) := by decide +kernel
theorem dX11_create_259 : decode cX11_create 259 = .ok (.iconst 0, 1) := by decide +kernel
theorem dX11_create_260 : decode cX11_create 260 = .ok (.invokevirtual 229, 3) := by decide +kernel
theorem dX11_create_263 : decode cX11_create 263 = .ok (.aload_n 0, 1) := by decide +kernel
theorem dX11_create_264 : decode cX11_create 264 = .ok (.getfield 219, 3) := by decide +kernel
theorem dX11_create_267 : decode cX11_create 267 = .ok (.ifCond .ne 112, 3) := by decide +kernel
theorem dX11_create_270 : decode cX11_create 270 = .ok (.aload_n 0, 1) := by decide +kernel
theorem dX11_create_271 : decode cX11_create 271 = .ok (.getfield 41, 3) := by decide +kernel
theorem dX11_create_274 : decode cX11_create 274 = .ok (.aload_n 0, 1) := by decide +kernel
theorem dX11_create_275 : decode cX11_create 275 = .ok (.getfield 216, 3) := by decide +kernel
theorem dX11_create_278 : decode cX11_create 278 = .ok (.lload_n 1, 1) := by decide +kernel
theorem dX11_create_279 : decode cX11_create 279 = .ok (.lastore, 1) := by decide +kernel
theorem dX11_create_280 : decode cX11_create 280 = .ok (.aload_n 0, 1) := by decide +kernel
theorem dX11_create_281 : decode cX11_create 281 = .ok (.getfield 44, 3) := by decide +kernel
theorem dX11_create_284 : decode cX11_create 284 = .ok (.aload_n 0, 1) := by decide +kernel
theorem dX11_create_285 : decode cX11_create 285 = .ok (.getfield 216, 3) := by decide +kernel
theorem dX11_create_288 : decode cX11_create 288 = .ok (.iload 5, 2) := by decide +kernel
theorem dX11_create_290 : decode cX11_create 290 = .ok (.iastore, 1) := by decide +kernel
theorem dX11_create_291 : decode cX11_create 291 = .ok (.aload_n 0, 1) := by decide +kernel
theorem dX11_create_292 : decode cX11_create 292 = .ok (.getfield 54, 3) := by decide +kernel
theorem dX11_create_295 : decode cX11_create 295 = .ok (.aload_n 0, 1) := by decide +kernel
theorem dX11_create_296 : decode cX11_create 296 = .ok (.getfield 216, 3) := by decide +kernel
theorem dX11_create_299 : decode cX11_create 299 = .ok (.iconst 0, 1) := by decide +kernel
theorem dX11_create_300 : decode cX11_create 300 = .ok (.iastore, 1) := by decide +kernel
theorem dX11_create_301 : decode cX11_create 301 = .ok (.iconst 0, 1) := by decide +kernel
theorem dX11_create_302 : decode cX11_create 302 = .ok (.istore 8, 2) := by decide +kernel
theorem dX11_create_304 : decode cX11_create 304 = .ok (.iload 8, 2) := by decide +kernel
theorem dX11_create_306 : decode cX11_create 306 = .ok (.iload 5, 2) := by decide +kernel
theorem dX11_create_308 : decode cX11_create 308 = .ok (.if_icmp .ge 61, 3) := by decide +kernel
theorem dX11_create_311 : decode cX11_create 311 = .ok (.aload_n 0, 1) := by decide +kernel
theorem dX11_create_312 : decode cX11_create 312 = .ok (.getfield 47, 3) := by decide +kernel
theorem dX11_create_315 : decode cX11_create 315 = .ok (.iconst 4, 1) := by decide +kernel
theorem dX11_create_316 : decode cX11_create 316 = .ok (.aload_n 0, 1) := by decide +kernel
theorem dX11_create_317 : decode cX11_create 317 = .ok (.getfield 216, 3) := by decide +kernel
theorem dX11_create_320 : decode cX11_create 320 = .ok (.imul, 1) := by decide +kernel
theorem dX11_create_321 : decode cX11_create 321 = .ok (.iload 8, 2) := by decide +kernel
theorem dX11_create_323 : decode cX11_create 323 = .ok (.iadd, 1) := by decide +kernel
theorem dX11_create_324 : decode cX11_create 324 = .ok (.aload_n 0, 1) := by decide +kernel
theorem dX11_create_325 : decode cX11_create 325 = .ok (.getfield 29, 3) := by decide +kernel
theorem dX11_create_328 : decode cX11_create 328 = .ok (.iload 8, 2) := by decide +kernel
theorem dX11_create_330 : decode cX11_create 330 = .ok (.laload, 1) := by decide +kernel
theorem dX11_create_331 : decode cX11_create 331 = .ok (.lastore, 1) := by decide +kernel
theorem dX11_create_332 : decode cX11_create 332 = .ok (.aload_n 0, 1) := by decide +kernel
theorem dX11_create_333 : decode cX11_create 333 = .ok (.getfield 50, 3) := by decide +kernel
theorem dX11_create_336 : decode cX11_create 336 = .ok (.iconst 4, 1) := by decide +kernel
theorem dX11_create_337 : decode cX11_create 337 = .ok (.aload_n 0, 1) := by decide +kernel
theorem dX11_create_338 : decode cX11_create 338 = .ok (.getfield 216, 3) := by decide +kernel
theorem dX11_create_341 : decode cX11_create 341 = .ok (.imul, 1) := by decide +kernel
theorem dX11_create_342 : decode cX11_create 342 = .ok (.iload 8, 2) := by decide +kernel
theorem dX11_create_344 : decode cX11_create 344 = .ok (.iadd, 1) := by decide +kernel
theorem dX11_create_345 : decode cX11_create 345 = .ok (.aload_n 0, 1) := by decide +kernel
theorem dX11_create_346 : decode cX11_create 346 = .ok (.getfield 20, 3) := by decide +kernel
theorem dX11_create_349 : decode cX11_create 349 = .ok (.iload 8, 2) := by decide +kernel
theorem dX11_create_351 : decode cX11_create 351 = .ok (.iaload, 1) := by decide +kernel
theorem dX11_create_352 : decode cX11_create 352 = .ok (.bipush 12, 2) := by decide +kernel
theorem dX11_create_354 : decode cX11_create 354 = .ok (.if_icmp .ne 7, 3) := by decide +kernel
theorem dX11_create_357 : decode cX11_create 357 = .ok (.iconst 1, 1) := by decide +kernel
theorem dX11_create_358 : decode cX11_create 358 = .ok (.goto 4, 3) := by decide +kernel
theorem dX11_create_361 : decode cX11_create 361 = .ok (.iconst 0, 1) := by decide +kernel
theorem dX11_create_362 : decode cX11_create 362 = .ok (.bastore, 1) := by decide +kernel
theorem dX11_create_363 : decode cX11_create 363 = .ok (.iinc 8 1, 3) := by decide +kernel
theorem dX11_create_366 : decode cX11_create 366 = .ok (.goto (-62), 3) := by decide +kernel
theorem dX11_create_369 : decode cX11_create 369 = .ok (.aload_n 0, 1) := by decide +kernel
theorem dX11_create_370 : decode cX11_create 370 = .ok (.dup, 1) := by decide +kernel
theorem dX11_create_371 : decode cX11_create 371 = .ok (.getfield 216, 3) := by decide +kernel
theorem dX11_create_374 : decode cX11_create 374 = .ok (.iconst 1, 1) := by decide +kernel
theorem dX11_create_375 : decode cX11_create 375 = .ok (.iadd, 1) := by decide +kernel
theorem dX11_create_376 : decode cX11_create 376 = .ok (.putfield 216, 3) := by decide +kernel
theorem dX11_create_379 : decode cX11_create 379 = .ok (.iconst 0, 1) := by decide +kernel
theorem dX11_create_380 : decode cX11_create 380 = .ok (.ireturn, 1) := by decide +kernel
theorem b_X11_create_0 {h : Nat} {L : LVs} {st : List AV} {S : ST} {Q : Option AV → ST → Prop} (k : o_al L st S (fun L st S => o_c L st S (fun L st S => V MX11_create h 3 L st S Q) (nI 50)) 0) : V MX11_create h 0 L st S Q :=
  v_aload_n dX11_create_0 rfl (fun L st S k => v_bipush dX11_create_1 (by decide) (fun L st S k => k) k) k
theorem k_X11_create_3 {h : Nat} {L : LVs} {st : List AV} {S : ST} {Q Q' : Option AV → ST → Prop} {j : Nat} {a0 : AV} (hC : Ct MX11_take h [vR 11 j, a0] S Q') (k : ∀ (r : Option AV) (S' : ST), Q' r S' → V MX11_create (h + 1) 6 L (r.toList ++ st) S' Q) (hj : j < NI 11) (hw : wid st ≤ 8) : V MX11_create (h + 1) 3 L (a0 :: vR 11 j :: st) S Q :=
  v_callV (M' := MX11_take) (c := 11) (As := [a0]) dX11_create_3 ml_X11_181 im_X11_take se_X11_take in_X11 cd_X11_take rfl LY_11 np_X11_take (by decide) hw hj hC k
theorem b_X11_create_6 {h : Nat} {L : LVs} {st : List AV} {S : ST} {Q : Option AV → ST → Prop} (k : o_ls L st S (fun L st S => o_al L st S (fun L st S => o_c L st S (fun L st S => V MX11_create h 10 L st S Q) (nI 30)) 0) 1) : V MX11_create h 6 L st S Q :=
  v_lstore_n dX11_create_6 rfl (by decide) (fun L st S k => v_aload_n dX11_create_7 rfl (fun L st S k => v_bipush dX11_create_8 (by decide) (fun L st S k => k) k) k) k
theorem k_X11_create_10 {h : Nat} {L : LVs} {st : List AV} {S : ST} {Q Q' : Option AV → ST → Prop} {j : Nat} {a0 : AV} (hC : Ct MX11_take h [vR 11 j, a0] S Q') (k : ∀ (r : Option AV) (S' : ST), Q' r S' → V MX11_create (h + 1) 13 L (r.toList ++ st) S' Q) (hj : j < NI 11) (hw : wid st ≤ 8) : V MX11_create (h + 1) 10 L (a0 :: vR 11 j :: st) S Q :=
  v_callV (M' := MX11_take) (c := 11) (As := [a0]) dX11_create_10 ml_X11_181 im_X11_take se_X11_take in_X11 cd_X11_take rfl LY_11 np_X11_take (by decide) hw hj hC k
theorem b_X11_create_13 {h : Nat} {L : LVs} {st : List AV} {S : ST} {Q : Option AV → ST → Prop} (k : o_ls L st S (fun L st S => o_c L st S (fun L st S => o_is L st S (fun L st S => o_c L st S (fun L st S => o_is L st S (fun L st S => o_c L st S (fun L st S => o_is L st S (fun L st S => V MX11_create h 23 L st S Q) 7) (nI 0)) 6) (nI 1)) 5) (nI 0)) 3) : V MX11_create h 13 L st S Q :=
  v_lstore_n dX11_create_13 rfl (by decide) (fun L st S k => v_iconst dX11_create_14 (by decide) (fun L st S k => v_istore dX11_create_15 (by decide) (fun L st S k => v_iconst dX11_create_17 (by decide) (fun L st S k => v_istore dX11_create_18 (by decide) (fun L st S k => v_iconst dX11_create_20 (by decide) (fun L st S k => v_istore dX11_create_21 (by decide) (fun L st S k => k) k) k) k) k) k) k) k
theorem b_X11_create_23 {h : Nat} {L : LVs} {st : List AV} {S : ST} {Q : Option AV → ST → Prop} (k : o_il L st S (fun L st S => t_1 L st S (fun x => x = nI 0) (fun L st S => V MX11_create h 203 L st S Q) (fun L st S => V MX11_create h 28 L st S Q)) 6) : V MX11_create h 23 L st S Q :=
  v_iload dX11_create_23 (fun L st S k => w_if_eq dX11_create_25 (by decide) rfl k) k
theorem b_X11_create_28 {h : Nat} {L : LVs} {st : List AV} {S : ST} {Q : Option AV → ST → Prop} (k : o_al L st S (fun L st S => o_get L st S (fun L st S => t_1 L st S (fun x => nI 0 ≤ x) (fun L st S => V MX11_create h 203 L st S Q) (fun L st S => V MX11_create h 35 L st S Q)) 11 6 (0, 0, 0)) 0) : V MX11_create h 28 L st S Q :=
  v_aload_n dX11_create_28 rfl (fun L st S k => v_get dX11_create_29 rfl iX11 LY_11 rfl (by decide) rfl fl_X11_169 (fun L st S k => w_if_ge dX11_create_32 (by decide) rfl k) k) k
theorem b_X11_create_35 {h : Nat} {L : LVs} {st : List AV} {S : ST} {Q : Option AV → ST → Prop} (k : o_al L st S (fun L st S => o_c L st S (fun L st S => V MX11_create h 38 L st S Q) (nI 50)) 0) : V MX11_create h 35 L st S Q :=
  v_aload_n dX11_create_35 rfl (fun L st S k => v_bipush dX11_create_36 (by decide) (fun L st S k => k) k) k
theorem k_X11_create_38 {h : Nat} {L : LVs} {st : List AV} {S : ST} {Q Q' : Option AV → ST → Prop} {j : Nat} {a0 : AV} (hC : Ct MX11_take h [vR 11 j, a0] S Q') (k : ∀ (r : Option AV) (S' : ST), Q' r S' → V MX11_create (h + 1) 41 L (r.toList ++ st) S' Q) (hj : j < NI 11) (hw : wid st ≤ 8) : V MX11_create (h + 1) 38 L (a0 :: vR 11 j :: st) S Q :=
  v_callV (M' := MX11_take) (c := 11) (As := [a0]) dX11_create_38 ml_X11_181 im_X11_take se_X11_take in_X11 cd_X11_take rfl LY_11 np_X11_take (by decide) hw hj hC k
theorem b_X11_create_41 {h : Nat} {L : LVs} {st : List AV} {S : ST} {Q : Option AV → ST → Prop} (k : o_ls L st S (fun L st S => o_al L st S (fun L st S => o_get L st S (fun L st S => t_1 L st S (fun x => nI 0 ≤ x) (fun L st S => V MX11_create h 86 L st S Q) (fun L st S => V MX11_create h 50 L st S Q)) 11 6 (0, 0, 0)) 0) 8) : V MX11_create h 41 L st S Q :=
  v_lstore dX11_create_41 (by decide) (fun L st S k => v_aload_n dX11_create_43 rfl (fun L st S k => v_get dX11_create_44 rfl iX11 LY_11 rfl (by decide) rfl fl_X11_169 (fun L st S k => w_if_ge dX11_create_47 (by decide) rfl k) k) k) k
theorem b_X11_create_50 {h : Nat} {L : LVs} {st : List AV} {S : ST} {Q : Option AV → ST → Prop} (k : o_al L st S (fun L st S => o_get L st S (fun L st S => o_al L st S (fun L st S => o_get L st S (fun L st S => o_iald L st S (fun L st S => o_c L st S (fun L st S => t_2 L st S (fun x y => x = y) (fun L st S => V MX11_create h 86 L st S Q) (fun L st S => V MX11_create h 64 L st S Q)) (nI 11))) 11 5 (0, 0, 0)) 0) 11 2 (3, 41, 0)) 0) : V MX11_create h 50 L st S Q :=
  v_aload_n dX11_create_50 rfl (fun L st S k => v_get dX11_create_51 rfl iX11 LY_11 rfl (by decide) rfl fl_X11_13 (fun L st S k => v_aload_n dX11_create_54 rfl (fun L st S k => v_get dX11_create_55 rfl iX11 LY_11 rfl (by decide) rfl fl_X11_172 (fun L st S k => v_iaload dX11_create_58 (fun L st S k => v_bipush dX11_create_59 (by decide) (fun L st S k => w_icmp_eq dX11_create_61 (by decide) rfl k) k) k) k) k) k) k
theorem b_X11_create_64 {h : Nat} {L : LVs} {st : List AV} {S : ST} {Q : Option AV → ST → Prop} (k : o_al L st S (fun L st S => o_get L st S (fun L st S => o_al L st S (fun L st S => o_get L st S (fun L st S => o_iald L st S (fun L st S => o_c L st S (fun L st S => t_2 L st S (fun x y => x = y) (fun L st S => V MX11_create h 86 L st S Q) (fun L st S => V MX11_create h 78 L st S Q)) (nI 12))) 11 5 (0, 0, 0)) 0) 11 2 (3, 41, 0)) 0) : V MX11_create h 64 L st S Q :=
  v_aload_n dX11_create_64 rfl (fun L st S k => v_get dX11_create_65 rfl iX11 LY_11 rfl (by decide) rfl fl_X11_13 (fun L st S k => v_aload_n dX11_create_68 rfl (fun L st S k => v_get dX11_create_69 rfl iX11 LY_11 rfl (by decide) rfl fl_X11_172 (fun L st S k => v_iaload dX11_create_72 (fun L st S k => v_bipush dX11_create_73 (by decide) (fun L st S k => w_icmp_eq dX11_create_75 (by decide) rfl k) k) k) k) k) k) k
theorem b_X11_create_78 {h : Nat} {L : LVs} {st : List AV} {S : ST} {Q : Option AV → ST → Prop} (k : o_al L st S (fun L st S => o_al L st S (fun L st S => o_get L st S (fun L st S => o_puti L st S (fun L st S => V MX11_create h 86 L st S Q) 11 6) 11 5 (0, 0, 0)) 0) 0) : V MX11_create h 78 L st S Q :=
  v_aload_n dX11_create_78 rfl (fun L st S k => v_aload_n dX11_create_79 rfl (fun L st S k => v_get dX11_create_80 rfl iX11 LY_11 rfl (by decide) rfl fl_X11_172 (fun L st S k => v_puti dX11_create_83 rfl iX11 tyX11_ok nmX11 LY_11 rfl (by decide) rfl fl_X11_169 rfl rfl (fun L st S k => k) k) k) k) k
theorem b_X11_create_86 {h : Nat} {L : LVs} {st : List AV} {S : ST} {Q : Option AV → ST → Prop} (k : o_al L st S (fun L st S => o_al L st S (fun L st S => o_get L st S (fun L st S => o_al L st S (fun L st S => o_get L st S (fun L st S => o_iald L st S (fun L st S => o_c L st S (fun L st S => o_c L st S (fun L st S => o_ll L st S (fun L st S => V MX11_create h 100 L st S Q) 8) (-1)) (-1))) 11 5 (0, 0, 0)) 0) 11 2 (3, 41, 0)) 0) 0) : V MX11_create h 86 L st S Q :=
  v_aload_n dX11_create_86 rfl (fun L st S k => v_aload_n dX11_create_87 rfl (fun L st S k => v_get dX11_create_88 rfl iX11 LY_11 rfl (by decide) rfl fl_X11_13 (fun L st S k => v_aload_n dX11_create_91 rfl (fun L st S k => v_get dX11_create_92 rfl iX11 LY_11 rfl (by decide) rfl fl_X11_172 (fun L st S k => v_iaload dX11_create_95 (fun L st S k => v_iconst dX11_create_96 (by decide) (fun L st S k => v_iconst dX11_create_97 (by decide) (fun L st S k => v_lload dX11_create_98 (fun L st S k => k) k) k) k) k) k) k) k) k) k
theorem k_X11_create_100 {h : Nat} {L : LVs} {st : List AV} {S : ST} {Q Q' : Option AV → ST → Prop} {j : Nat} {a0 a1 a2 a3 : AV} (hC : Ct MX11_knot h [vR 11 j, a0, a1, a2, a3] S Q') (k : ∀ (r : Option AV) (S' : ST), Q' r S' → V MX11_create (h + 1) 103 L (r.toList ++ st) S' Q) (hj : j < NI 11) (hw : wid st ≤ 8) : V MX11_create (h + 1) 100 L (a3 :: a2 :: a1 :: a0 :: vR 11 j :: st) S Q :=
  v_callV (M' := MX11_knot) (c := 11) (As := [a0, a1, a2, a3]) dX11_create_100 ml_X11_185 im_X11_knot se_X11_knot in_X11 cd_X11_knot rfl LY_11 np_X11_knot (by decide) hw hj hC k
theorem b_X11_create_103 {h : Nat} {L : LVs} {st : List AV} {S : ST} {Q : Option AV → ST → Prop} (k : o_is L st S (fun L st S => o_al L st S (fun L st S => o_dup L st S (fun L st S => o_get L st S (fun L st S => o_c L st S (fun L st S => o_iadd L st S (fun L st S => o_puti L st S (fun L st S => o_c L st S (fun L st S => o_is L st S (fun L st S => V MX11_create h 118 L st S Q) 11) (nI 0)) 11 5)) (nI 1)) 11 5 (0, 0, 0))) 0) 10) : V MX11_create h 103 L st S Q :=
  v_istore dX11_create_103 (by decide) (fun L st S k => v_aload_n dX11_create_105 rfl (fun L st S k => v_dup dX11_create_106 (fun L st S k => v_get dX11_create_107 rfl iX11 LY_11 rfl (by decide) rfl fl_X11_172 (fun L st S k => v_iconst dX11_create_110 (by decide) (fun L st S k => v_iadd dX11_create_111 (fun L st S k => v_puti dX11_create_112 rfl iX11 tyX11_ok nmX11 LY_11 rfl (by decide) rfl fl_X11_172 rfl rfl (fun L st S k => v_iconst dX11_create_115 (by decide) (fun L st S k => v_istore dX11_create_116 (by decide) (fun L st S k => k) k) k) k) k) k) k) k) k) k
theorem b_X11_create_118 {h : Nat} {L : LVs} {st : List AV} {S : ST} {Q : Option AV → ST → Prop} (k : o_il L st S (fun L st S => o_il L st S (fun L st S => t_2 L st S (fun x y => y ≤ x) (fun L st S => V MX11_create h 156 L st S Q) (fun L st S => V MX11_create h 125 L st S Q)) 10) 11) : V MX11_create h 118 L st S Q :=
  v_iload dX11_create_118 (fun L st S k => v_iload dX11_create_120 (fun L st S k => w_icmp_ge dX11_create_122 (by decide) rfl k) k) k
theorem b_X11_create_125 {h : Nat} {L : LVs} {st : List AV} {S : ST} {Q : Option AV → ST → Prop} (k : o_il L st S (fun L st S => t_1 L st S (fun x => x = nI 0) (fun L st S => V MX11_create h 130 L st S Q) (fun L st S => V MX11_create h 143 L st S Q)) 7) : V MX11_create h 125 L st S Q :=
  v_iload dX11_create_125 (fun L st S k => w_if_ne dX11_create_127 (by decide) rfl k) k
theorem b_X11_create_130 {h : Nat} {L : LVs} {st : List AV} {S : ST} {Q : Option AV → ST → Prop} (k : o_al L st S (fun L st S => o_get L st S (fun L st S => o_il L st S (fun L st S => o_lald L st S (fun L st S => o_ll L st S (fun L st S => o_lcmp L st S (fun L st S => t_1 L st S (fun x => x = nI 0) (fun L st S => V MX11_create h 143 L st S Q) (fun L st S => V MX11_create h 147 L st S Q))) 8)) 11) 11 11 (3, 46, 0)) 0) : V MX11_create h 130 L st S Q :=
  v_aload_n dX11_create_130 rfl (fun L st S k => v_get dX11_create_131 rfl iX11 LY_11 rfl (by decide) rfl fl_X11_29 (fun L st S k => v_iload dX11_create_134 (fun L st S k => v_laload dX11_create_136 (fun L st S k => v_lload dX11_create_137 (fun L st S k => v_lcmp dX11_create_139 (fun L st S k => w_if_ne dX11_create_140 (by decide) rfl k) k) k) k) k) k) k
theorem b_X11_create_143 {h : Nat} {L : LVs} {st : List AV} {S : ST} {Q : Option AV → ST → Prop} (k : o_c L st S (fun L st S => V MX11_create h 148 L st S Q) (nI 1)) : V MX11_create h 143 L st S Q :=
  v_iconst dX11_create_143 (by decide) (fun L st S k => v_goto dX11_create_144 (by decide) k) k
theorem b_X11_create_147 {h : Nat} {L : LVs} {st : List AV} {S : ST} {Q : Option AV → ST → Prop} (k : o_c L st S (fun L st S => V MX11_create h 148 L st S Q) (nI 0)) : V MX11_create h 147 L st S Q :=
  v_iconst dX11_create_147 (by decide) (fun L st S k => k) k
theorem b_X11_create_148 {h : Nat} {L : LVs} {st : List AV} {S : ST} {Q : Option AV → ST → Prop} (k : o_is L st S (fun L st S => o_inc L st S (fun L st S => V MX11_create h 118 L st S Q) 11 (nI 1)) 7) : V MX11_create h 148 L st S Q :=
  v_istore dX11_create_148 (by decide) (fun L st S k => v_iinc dX11_create_150 (by decide) (by decide) (fun L st S k => v_goto dX11_create_153 (by decide) k) k) k
theorem b_X11_create_156 {h : Nat} {L : LVs} {st : List AV} {S : ST} {Q : Option AV → ST → Prop} (k : o_inc L st S (fun L st S => o_il L st S (fun L st S => o_c L st S (fun L st S => t_2 L st S (fun x y => y ≤ x) (fun L st S => V MX11_create h 178 L st S Q) (fun L st S => V MX11_create h 165 L st S Q)) (nI 4)) 5) 5 (nI 1)) : V MX11_create h 156 L st S Q :=
  v_iinc dX11_create_156 (by decide) (by decide) (fun L st S k => v_iload dX11_create_159 (fun L st S k => v_iconst dX11_create_161 (by decide) (fun L st S k => w_icmp_ge dX11_create_162 (by decide) rfl k) k) k) k
theorem b_X11_create_165 {h : Nat} {L : LVs} {st : List AV} {S : ST} {Q : Option AV → ST → Prop} (k : o_al L st S (fun L st S => o_c L st S (fun L st S => V MX11_create h 168 L st S Q) (nI 34)) 0) : V MX11_create h 165 L st S Q :=
  v_aload_n dX11_create_165 rfl (fun L st S k => v_bipush dX11_create_166 (by decide) (fun L st S k => k) k) k
theorem k_X11_create_168 {h : Nat} {L : LVs} {st : List AV} {S : ST} {Q Q' : Option AV → ST → Prop} {j : Nat} {a0 : AV} (hC : Ct MX11_is h [vR 11 j, a0] S Q') (k : ∀ (r : Option AV) (S' : ST), Q' r S' → V MX11_create (h + 1) 171 L (r.toList ++ st) S' Q) (hj : j < NI 11) (hw : wid st ≤ 8) : V MX11_create (h + 1) 168 L (a0 :: vR 11 j :: st) S Q :=
  v_callV (M' := MX11_is) (c := 11) (As := [a0]) dX11_create_168 ml_X11_189 im_X11_is se_X11_is in_X11 cd_X11_is rfl LY_11 np_X11_is (by decide) hw hj hC k
theorem b_X11_create_171 {h : Nat} {L : LVs} {st : List AV} {S : ST} {Q : Option AV → ST → Prop} (k : t_1 L st S (fun x => x = nI 0) (fun L st S => V MX11_create h 178 L st S Q) (fun L st S => V MX11_create h 174 L st S Q)) : V MX11_create h 171 L st S Q :=
  w_if_eq dX11_create_171 (by decide) rfl k
theorem b_X11_create_174 {h : Nat} {L : LVs} {st : List AV} {S : ST} {Q : Option AV → ST → Prop} (k : o_c L st S (fun L st S => V MX11_create h 179 L st S Q) (nI 1)) : V MX11_create h 174 L st S Q :=
  v_iconst dX11_create_174 (by decide) (fun L st S k => v_goto dX11_create_175 (by decide) k) k
theorem b_X11_create_178 {h : Nat} {L : LVs} {st : List AV} {S : ST} {Q : Option AV → ST → Prop} (k : o_c L st S (fun L st S => V MX11_create h 179 L st S Q) (nI 0)) : V MX11_create h 178 L st S Q :=
  v_iconst dX11_create_178 (by decide) (fun L st S k => k) k
theorem b_X11_create_179 {h : Nat} {L : LVs} {st : List AV} {S : ST} {Q : Option AV → ST → Prop} (k : o_is L st S (fun L st S => o_al L st S (fun L st S => o_dup L st S (fun L st S => o_get L st S (fun L st S => o_il L st S (fun L st S => t_1 L st S (fun x => x = nI 0) (fun L st S => V MX11_create h 195 L st S Q) (fun L st S => V MX11_create h 191 L st S Q)) 6) 11 5 (0, 0, 0))) 0) 6) : V MX11_create h 179 L st S Q :=
  v_istore dX11_create_179 (by decide) (fun L st S k => v_aload_n dX11_create_181 rfl (fun L st S k => v_dup dX11_create_182 (fun L st S k => v_get dX11_create_183 rfl iX11 LY_11 rfl (by decide) rfl fl_X11_172 (fun L st S k => v_iload dX11_create_186 (fun L st S k => w_if_eq dX11_create_188 (by decide) rfl k) k) k) k) k) k
theorem b_X11_create_191 {h : Nat} {L : LVs} {st : List AV} {S : ST} {Q : Option AV → ST → Prop} (k : o_c L st S (fun L st S => V MX11_create h 196 L st S Q) (nI 1)) : V MX11_create h 191 L st S Q :=
  v_iconst dX11_create_191 (by decide) (fun L st S k => v_goto dX11_create_192 (by decide) k) k
theorem b_X11_create_195 {h : Nat} {L : LVs} {st : List AV} {S : ST} {Q : Option AV → ST → Prop} (k : o_c L st S (fun L st S => V MX11_create h 196 L st S Q) (nI 0)) : V MX11_create h 195 L st S Q :=
  v_iconst dX11_create_195 (by decide) (fun L st S k => k) k
theorem b_X11_create_196 {h : Nat} {L : LVs} {st : List AV} {S : ST} {Q : Option AV → ST → Prop} (k : o_iadd L st S (fun L st S => o_puti L st S (fun L st S => V MX11_create h 23 L st S Q) 11 5)) : V MX11_create h 196 L st S Q :=
  v_iadd dX11_create_196 (fun L st S k => v_puti dX11_create_197 rfl iX11 tyX11_ok nmX11 LY_11 rfl (by decide) rfl fl_X11_172 rfl rfl (fun L st S k => v_goto dX11_create_200 (by decide) k) k) k
theorem b_X11_create_203 {h : Nat} {L : LVs} {st : List AV} {S : ST} {Q : Option AV → ST → Prop} (k : o_al L st S (fun L st S => o_c L st S (fun L st S => V MX11_create h 206 L st S Q) (nI 31)) 0) : V MX11_create h 203 L st S Q :=
  v_aload_n dX11_create_203 rfl (fun L st S k => v_bipush dX11_create_204 (by decide) (fun L st S k => k) k) k
theorem k_X11_create_206 {h : Nat} {L : LVs} {st : List AV} {S : ST} {Q Q' : Option AV → ST → Prop} {j : Nat} {a0 : AV} (hC : Ct MX11_take h [vR 11 j, a0] S Q') (k : ∀ (r : Option AV) (S' : ST), Q' r S' → V MX11_create (h + 1) 209 L (r.toList ++ st) S' Q) (hj : j < NI 11) (hw : wid st ≤ 8) : V MX11_create (h + 1) 206 L (a0 :: vR 11 j :: st) S Q :=
  v_callV (M' := MX11_take) (c := 11) (As := [a0]) dX11_create_206 ml_X11_181 im_X11_take se_X11_take in_X11 cd_X11_take rfl LY_11 np_X11_take (by decide) hw hj hC k
theorem b_X11_create_209 {h : Nat} {L : LVs} {st : List AV} {S : ST} {Q : Option AV → ST → Prop} (k : o_ls L st S (fun L st S => o_al L st S (fun L st S => V MX11_create h 211 L st S Q) 0) 3) : V MX11_create h 209 L st S Q :=
  v_lstore_n dX11_create_209 rfl (by decide) (fun L st S k => v_aload_n dX11_create_210 rfl (fun L st S k => k) k) k
theorem k_X11_create_211 {h : Nat} {L : LVs} {st : List AV} {S : ST} {Q Q' : Option AV → ST → Prop} {j : Nat} (hC : Ct MX11_ends h [vR 11 j] S Q') (k : ∀ (r : Option AV) (S' : ST), Q' r S' → V MX11_create (h + 1) 214 L (r.toList ++ st) S' Q) (hj : j < NI 11) (hw : wid st ≤ 8) : V MX11_create (h + 1) 211 L (vR 11 j :: st) S Q :=
  v_callV (M' := MX11_ends) (c := 11) (As := []) dX11_create_211 ml_X11_255 im_X11_ends se_X11_ends in_X11 cd_X11_ends rfl LY_11 np_X11_ends (by decide) hw hj hC k
theorem b_X11_create_214 {h : Nat} {L : LVs} {st : List AV} {S : ST} {Q : Option AV → ST → Prop} (k : t_1 L st S (fun x => x = nI 0) (fun L st S => V MX11_create h 217 L st S Q) (fun L st S => V MX11_create h 219 L st S Q)) : V MX11_create h 214 L st S Q :=
  w_if_ne dX11_create_214 (by decide) rfl k
theorem b_X11_create_217 {h : Nat} {L : LVs} {st : List AV} {S : ST} {Q : Option AV → ST → Prop} (k : o_c L st S (fun L st S => t_ir st S Q) (nI 0)) : V MX11_create h 217 L st S Q :=
  v_iconst dX11_create_217 (by decide) (fun L st S k => w_ir dX11_create_218 rfl k) k
theorem b_X11_create_219 {h : Nat} {L : LVs} {st : List AV} {S : ST} {Q : Option AV → ST → Prop} (k : o_al L st S (fun L st S => o_al L st S (fun L st S => o_ll L st S (fun L st S => V MX11_create h 222 L st S Q) 1) 0) 0) : V MX11_create h 219 L st S Q :=
  v_aload_n dX11_create_219 rfl (fun L st S k => v_aload_n dX11_create_220 rfl (fun L st S k => v_lload_n dX11_create_221 rfl (fun L st S k => k) k) k) k
theorem k_X11_create_222 {h : Nat} {L : LVs} {st : List AV} {S : ST} {Q Q' : Option AV → ST → Prop} {j : Nat} {a0 : AV} (hC : Ct MX11_tableOf h [vR 11 j, a0] S Q') (k : ∀ (r : Option AV) (S' : ST), Q' r S' → V MX11_create (h + 1) 225 L (r.toList ++ st) S' Q) (hj : j < NI 11) (hw : wid st ≤ 8) : V MX11_create (h + 1) 222 L (a0 :: vR 11 j :: st) S Q :=
  v_callV (M' := MX11_tableOf) (c := 11) (As := [a0]) dX11_create_222 ml_X11_225 im_X11_tableOf se_X11_tableOf in_X11 cd_X11_tableOf rfl LY_11 np_X11_tableOf (by decide) hw hj hC k
theorem b_X11_create_225 {h : Nat} {L : LVs} {st : List AV} {S : ST} {Q : Option AV → ST → Prop} (k : t_1 L st S (fun x => x < nI 0) (fun L st S => V MX11_create h 234 L st S Q) (fun L st S => V MX11_create h 228 L st S Q)) : V MX11_create h 225 L st S Q :=
  w_if_lt dX11_create_225 (by decide) rfl k
theorem b_X11_create_228 {h : Nat} {L : LVs} {st : List AV} {S : ST} {Q : Option AV → ST → Prop} (k : o_c L st S (fun L st S => V MX11_create h 260 L st S Q) (-1003)) : V MX11_create h 228 L st S Q :=
  v_sipush dX11_create_228 (by decide) (fun L st S k => v_goto dX11_create_231 (by decide) k) k
theorem b_X11_create_234 {h : Nat} {L : LVs} {st : List AV} {S : ST} {Q : Option AV → ST → Prop} (k : o_al L st S (fun L st S => o_get L st S (fun L st S => o_c L st S (fun L st S => t_2 L st S (fun x y => x = y) (fun L st S => V MX11_create h 242 L st S Q) (fun L st S => V MX11_create h 248 L st S Q)) (nI 4)) 11 16 (0, 0, 0)) 0) : V MX11_create h 234 L st S Q :=
  v_aload_n dX11_create_234 rfl (fun L st S k => v_get dX11_create_235 rfl iX11 LY_11 rfl (by decide) rfl fl_X11_216 (fun L st S k => v_iconst dX11_create_238 (by decide) (fun L st S k => w_icmp_ne dX11_create_239 (by decide) rfl k) k) k) k
theorem b_X11_create_242 {h : Nat} {L : LVs} {st : List AV} {S : ST} {Q : Option AV → ST → Prop} (k : o_c L st S (fun L st S => V MX11_create h 260 L st S Q) (-1006)) : V MX11_create h 242 L st S Q :=
  v_sipush dX11_create_242 (by decide) (fun L st S k => v_goto dX11_create_245 (by decide) k) k
theorem b_X11_create_248 {h : Nat} {L : LVs} {st : List AV} {S : ST} {Q : Option AV → ST → Prop} (k : o_il L st S (fun L st S => t_1 L st S (fun x => x = nI 0) (fun L st S => V MX11_create h 259 L st S Q) (fun L st S => V MX11_create h 253 L st S Q)) 7) : V MX11_create h 248 L st S Q :=
  v_iload dX11_create_248 (fun L st S k => w_if_eq dX11_create_250 (by decide) rfl k) k
theorem b_X11_create_253 {h : Nat} {L : LVs} {st : List AV} {S : ST} {Q : Option AV → ST → Prop} (k : o_c L st S (fun L st S => V MX11_create h 260 L st S Q) (-1003)) : V MX11_create h 253 L st S Q :=
  v_sipush dX11_create_253 (by decide) (fun L st S k => v_goto dX11_create_256 (by decide) k) k
theorem b_X11_create_259 {h : Nat} {L : LVs} {st : List AV} {S : ST} {Q : Option AV → ST → Prop} (k : o_c L st S (fun L st S => V MX11_create h 260 L st S Q) (nI 0)) : V MX11_create h 259 L st S Q :=
  v_iconst dX11_create_259 (by decide) (fun L st S k => k) k
theorem k_X11_create_260 {h : Nat} {L : LVs} {st : List AV} {S : ST} {Q Q' : Option AV → ST → Prop} {j : Nat} {a0 : AV} (hC : Ct MX11_fails h [vR 11 j, a0] S Q') (k : ∀ (r : Option AV) (S' : ST), Q' r S' → V MX11_create (h + 1) 263 L (r.toList ++ st) S' Q) (hj : j < NI 11) (hw : wid st ≤ 8) : V MX11_create (h + 1) 260 L (a0 :: vR 11 j :: st) S Q :=
  v_callV (M' := MX11_fails) (c := 11) (As := [a0]) dX11_create_260 ml_X11_229 im_X11_fails se_X11_fails in_X11 cd_X11_fails rfl LY_11 np_X11_fails (by decide) hw hj hC k
theorem b_X11_create_263 {h : Nat} {L : LVs} {st : List AV} {S : ST} {Q : Option AV → ST → Prop} (k : o_al L st S (fun L st S => o_get L st S (fun L st S => t_1 L st S (fun x => x = nI 0) (fun L st S => V MX11_create h 270 L st S Q) (fun L st S => V MX11_create h 379 L st S Q)) 11 28 (0, 0, 0)) 0) : V MX11_create h 263 L st S Q :=
  v_aload_n dX11_create_263 rfl (fun L st S k => v_get dX11_create_264 rfl iX11 LY_11 rfl (by decide) rfl fl_X11_219 (fun L st S k => w_if_ne dX11_create_267 (by decide) rfl k) k) k
theorem b_X11_create_270 {h : Nat} {L : LVs} {st : List AV} {S : ST} {Q : Option AV → ST → Prop} (k : o_al L st S (fun L st S => o_get L st S (fun L st S => o_al L st S (fun L st S => o_get L st S (fun L st S => o_ll L st S (fun L st S => o_last L st S (fun L st S => o_al L st S (fun L st S => o_get L st S (fun L st S => o_al L st S (fun L st S => o_get L st S (fun L st S => o_il L st S (fun L st S => o_iast L st S (fun L st S => o_al L st S (fun L st S => o_get L st S (fun L st S => o_al L st S (fun L st S => o_get L st S (fun L st S => o_c L st S (fun L st S => o_iast L st S (fun L st S => o_c L st S (fun L st S => o_is L st S (fun L st S => V MX11_create h 304 L st S Q) 8) (nI 0))) (nI 0)) 11 16 (0, 0, 0)) 0) 11 21 (3, 54, 0)) 0)) 5) 11 16 (0, 0, 0)) 0) 11 18 (3, 51, 0)) 0)) 1) 11 16 (0, 0, 0)) 0) 11 17 (3, 50, 0)) 0) : V MX11_create h 270 L st S Q :=
  v_aload_n dX11_create_270 rfl (fun L st S k => v_get dX11_create_271 rfl iX11 LY_11 rfl (by decide) rfl fl_X11_41 (fun L st S k => v_aload_n dX11_create_274 rfl (fun L st S k => v_get dX11_create_275 rfl iX11 LY_11 rfl (by decide) rfl fl_X11_216 (fun L st S k => v_lload_n dX11_create_278 rfl (fun L st S k => v_lastore dX11_create_279 (fun L st S k => v_aload_n dX11_create_280 rfl (fun L st S k => v_get dX11_create_281 rfl iX11 LY_11 rfl (by decide) rfl fl_X11_44 (fun L st S k => v_aload_n dX11_create_284 rfl (fun L st S k => v_get dX11_create_285 rfl iX11 LY_11 rfl (by decide) rfl fl_X11_216 (fun L st S k => v_iload dX11_create_288 (fun L st S k => v_iastore dX11_create_290 (fun L st S k => v_aload_n dX11_create_291 rfl (fun L st S k => v_get dX11_create_292 rfl iX11 LY_11 rfl (by decide) rfl fl_X11_54 (fun L st S k => v_aload_n dX11_create_295 rfl (fun L st S k => v_get dX11_create_296 rfl iX11 LY_11 rfl (by decide) rfl fl_X11_216 (fun L st S k => v_iconst dX11_create_299 (by decide) (fun L st S k => v_iastore dX11_create_300 (fun L st S k => v_iconst dX11_create_301 (by decide) (fun L st S k => v_istore dX11_create_302 (by decide) (fun L st S k => k) k) k) k) k) k) k) k) k) k) k) k) k) k) k) k) k) k) k) k) k
theorem b_X11_create_304 {h : Nat} {L : LVs} {st : List AV} {S : ST} {Q : Option AV → ST → Prop} (k : o_il L st S (fun L st S => o_il L st S (fun L st S => t_2 L st S (fun x y => y ≤ x) (fun L st S => V MX11_create h 369 L st S Q) (fun L st S => V MX11_create h 311 L st S Q)) 5) 8) : V MX11_create h 304 L st S Q :=
  v_iload dX11_create_304 (fun L st S k => v_iload dX11_create_306 (fun L st S k => w_icmp_ge dX11_create_308 (by decide) rfl k) k) k
theorem b_X11_create_311 {h : Nat} {L : LVs} {st : List AV} {S : ST} {Q : Option AV → ST → Prop} (k : o_al L st S (fun L st S => o_get L st S (fun L st S => o_c L st S (fun L st S => o_al L st S (fun L st S => o_get L st S (fun L st S => o_imul L st S (fun L st S => o_il L st S (fun L st S => o_iadd L st S (fun L st S => o_al L st S (fun L st S => o_get L st S (fun L st S => o_il L st S (fun L st S => o_lald L st S (fun L st S => o_last L st S (fun L st S => o_al L st S (fun L st S => o_get L st S (fun L st S => o_c L st S (fun L st S => o_al L st S (fun L st S => o_get L st S (fun L st S => o_imul L st S (fun L st S => o_il L st S (fun L st S => o_iadd L st S (fun L st S => o_al L st S (fun L st S => o_get L st S (fun L st S => o_il L st S (fun L st S => o_iald L st S (fun L st S => o_c L st S (fun L st S => t_2 L st S (fun x y => x = y) (fun L st S => V MX11_create h 357 L st S Q) (fun L st S => V MX11_create h 361 L st S Q)) (nI 12))) 8) 11 8 (3, 43, 0)) 0)) 8)) 11 16 (0, 0, 0)) 0) (nI 4)) 11 20 (3, 53, 0)) 0))) 8) 11 11 (3, 46, 0)) 0)) 8)) 11 16 (0, 0, 0)) 0) (nI 4)) 11 19 (3, 52, 0)) 0) : V MX11_create h 311 L st S Q :=
  v_aload_n dX11_create_311 rfl (fun L st S k => v_get dX11_create_312 rfl iX11 LY_11 rfl (by decide) rfl fl_X11_47 (fun L st S k => v_iconst dX11_create_315 (by decide) (fun L st S k => v_aload_n dX11_create_316 rfl (fun L st S k => v_get dX11_create_317 rfl iX11 LY_11 rfl (by decide) rfl fl_X11_216 (fun L st S k => v_imul dX11_create_320 (fun L st S k => v_iload dX11_create_321 (fun L st S k => v_iadd dX11_create_323 (fun L st S k => v_aload_n dX11_create_324 rfl (fun L st S k => v_get dX11_create_325 rfl iX11 LY_11 rfl (by decide) rfl fl_X11_29 (fun L st S k => v_iload dX11_create_328 (fun L st S k => v_laload dX11_create_330 (fun L st S k => v_lastore dX11_create_331 (fun L st S k => v_aload_n dX11_create_332 rfl (fun L st S k => v_get dX11_create_333 rfl iX11 LY_11 rfl (by decide) rfl fl_X11_50 (fun L st S k => v_iconst dX11_create_336 (by decide) (fun L st S k => v_aload_n dX11_create_337 rfl (fun L st S k => v_get dX11_create_338 rfl iX11 LY_11 rfl (by decide) rfl fl_X11_216 (fun L st S k => v_imul dX11_create_341 (fun L st S k => v_iload dX11_create_342 (fun L st S k => v_iadd dX11_create_344 (fun L st S k => v_aload_n dX11_create_345 rfl (fun L st S k => v_get dX11_create_346 rfl iX11 LY_11 rfl (by decide) rfl fl_X11_20 (fun L st S k => v_iload dX11_create_349 (fun L st S k => v_iaload dX11_create_351 (fun L st S k => v_bipush dX11_create_352 (by decide) (fun L st S k => w_icmp_ne dX11_create_354 (by decide) rfl k) k) k) k) k) k) k) k) k) k) k) k) k) k) k) k) k) k) k) k) k) k) k) k) k) k) k
theorem b_X11_create_357 {h : Nat} {L : LVs} {st : List AV} {S : ST} {Q : Option AV → ST → Prop} (k : o_c L st S (fun L st S => V MX11_create h 362 L st S Q) (nI 1)) : V MX11_create h 357 L st S Q :=
  v_iconst dX11_create_357 (by decide) (fun L st S k => v_goto dX11_create_358 (by decide) k) k
theorem b_X11_create_361 {h : Nat} {L : LVs} {st : List AV} {S : ST} {Q : Option AV → ST → Prop} (k : o_c L st S (fun L st S => V MX11_create h 362 L st S Q) (nI 0)) : V MX11_create h 361 L st S Q :=
  v_iconst dX11_create_361 (by decide) (fun L st S k => k) k
theorem b_X11_create_362 {h : Nat} {L : LVs} {st : List AV} {S : ST} {Q : Option AV → ST → Prop} (k : o_zast L st S (fun L st S => o_inc L st S (fun L st S => V MX11_create h 304 L st S Q) 8 (nI 1))) : V MX11_create h 362 L st S Q :=
  v_zastore dX11_create_362 (fun L st S k => v_iinc dX11_create_363 (by decide) (by decide) (fun L st S k => v_goto dX11_create_366 (by decide) k) k) k
theorem b_X11_create_369 {h : Nat} {L : LVs} {st : List AV} {S : ST} {Q : Option AV → ST → Prop} (k : o_al L st S (fun L st S => o_dup L st S (fun L st S => o_get L st S (fun L st S => o_c L st S (fun L st S => o_iadd L st S (fun L st S => o_puti L st S (fun L st S => V MX11_create h 379 L st S Q) 11 16)) (nI 1)) 11 16 (0, 0, 0))) 0) : V MX11_create h 369 L st S Q :=
  v_aload_n dX11_create_369 rfl (fun L st S k => v_dup dX11_create_370 (fun L st S k => v_get dX11_create_371 rfl iX11 LY_11 rfl (by decide) rfl fl_X11_216 (fun L st S k => v_iconst dX11_create_374 (by decide) (fun L st S k => v_iadd dX11_create_375 (fun L st S k => v_puti dX11_create_376 rfl iX11 tyX11_ok nmX11 LY_11 rfl (by decide) rfl fl_X11_216 rfl rfl (fun L st S k => k) k) k) k) k) k) k
theorem b_X11_create_379 {h : Nat} {L : LVs} {st : List AV} {S : ST} {Q : Option AV → ST → Prop} (k : o_c L st S (fun L st S => t_ir st S Q) (nI 0)) : V MX11_create h 379 L st S Q :=
  v_iconst dX11_create_379 (by decide) (fun L st S k => w_ir dX11_create_380 rfl k) k
-- QueryForgeModel.insert()I
theorem dX11_insert_0 : decode cX11_insert 0 = .ok (.aload_n 0, 1) := by decide +kernel
theorem dX11_insert_1 : decode cX11_insert 1 = .ok (.getfield 63, 3) := by decide +kernel
theorem dX11_insert_4 : decode cX11_insert 4 = .ok (.iconst 0, 1) := by decide +kernel
theorem dX11_insert_5 : decode cX11_insert 5 = .ok (.aload_n 0, 1) := by decide +kernel
theorem dX11_insert_6 : decode cX11_insert 6 = .ok (.bipush 50, 2) := by decide +kernel
theorem dX11_insert_8 : decode cX11_insert 8 = .ok (.invokevirtual 181, 3) := by decide +kernel
theorem dX11_insert_11 : decode cX11_insert 11 = .ok (.lastore, 1) := by decide +kernel
theorem dX11_insert_12 : decode cX11_insert 12 = .ok (.aload_n 0, 1) := by decide +kernel
theorem dX11_insert_13 : decode cX11_insert 13 = .ok (.iconst 1, 1) := by decide +kernel
theorem dX11_insert_14 : decode cX11_insert 14 = .ok (.putfield 222, 3) := by decide +kernel
theorem dX11_insert_17 : decode cX11_insert 17 = .ok (.aload_n 0, 1) := by decide +kernel
theorem dX11_insert_18 : decode cX11_insert 18 = .ok (.bipush 30, 2) := by decide +kernel
theorem dX11_insert_20 : decode cX11_insert 20 = .ok (.invokevirtual 181, 3) := by decide +kernel
theorem dX11_insert_23 : decode cX11_insert 23 = .ok (.lstore_n 1, 1) := by decide +kernel
theorem dX11_insert_24 : decode cX11_insert 24 = .ok (.iconst 0, 1) := by decide +kernel
theorem dX11_insert_25 : decode cX11_insert 25 = .ok (.istore_n 3, 1) := by decide +kernel
theorem dX11_insert_26 : decode cX11_insert 26 = .ok (.iconst 1, 1) := by decide +kernel
theorem dX11_insert_27 : decode cX11_insert 27 = .ok (.istore 4, 2) := by decide +kernel
theorem dX11_insert_29 : decode cX11_insert 29 = .ok (.iload 4, 2) := by decide +kernel
theorem dX11_insert_31 : decode cX11_insert 31 = .ok (.ifCond .eq 178, 3) := by decide +kernel
theorem dX11_insert_34 : decode cX11_insert 34 = .ok (.aload_n 0, 1) := by decide +kernel
theorem dX11_insert_35 : decode cX11_insert 35 = .ok (.getfield 169, 3) := by decide +kernel
theorem dX11_insert_38 : decode cX11_insert 38 = .ok (.ifCond .ge 171, 3) := by decide +kernel
theorem dX11_insert_41 : decode cX11_insert 41 = .ok (.aload_n 0, 1) := by decide +kernel
theorem dX11_insert_42 : decode cX11_insert 42 = .ok (.bipush 37, 2) := by decide +kernel
theorem dX11_insert_44 : decode cX11_insert 44 = .ok (.invokevirtual 189, 3) := by decide +kernel
theorem dX11_insert_47 : decode cX11_insert 47 = .ok (.istore 5, 2) := by decide +kernel
theorem dX11_insert_49 : decode cX11_insert 49 = .ok (.aload_n 0, 1) := by decide +kernel
theorem dX11_insert_50 : decode cX11_insert 50 = .ok (.dup, 1) := by decide +kernel
theorem dX11_insert_51 : decode cX11_insert 51 = .ok (.getfield 172, 3) := by decide +kernel
theorem dX11_insert_54 : decode cX11_insert 54 = .ok (.iload 5, 2) := by decide +kernel
theorem dX11_insert_56 : decode cX11_insert 56 = .ok (.ifCond .eq 7, 3) := by decide +kernel
theorem dX11_insert_59 : decode cX11_insert 59 = .ok (.iconst 1, 1) := by decide +kernel
theorem dX11_insert_60 : decode cX11_insert 60 = .ok (.goto 4, 3) := by decide +kernel
theorem dX11_insert_63 : decode cX11_insert 63 = .ok (.iconst 0, 1) := by decide +kernel
theorem dX11_insert_64 : decode cX11_insert 64 = .ok (.iadd, 1) := by decide +kernel
theorem dX11_insert_65 : decode cX11_insert 65 = .ok (.putfield 172, 3) := by decide +kernel
theorem dX11_insert_68 : decode cX11_insert 68 = .ok (.aload_n 0, 1) := by decide +kernel
theorem dX11_insert_69 : decode cX11_insert 69 = .ok (.getfield 13, 3) := by decide +kernel
theorem dX11_insert_72 : decode cX11_insert 72 = .ok (.aload_n 0, 1) := by decide +kernel
theorem dX11_insert_73 : decode cX11_insert 73 = .ok (.getfield 172, 3) := by decide +kernel
theorem dX11_insert_76 : decode cX11_insert 76 = .ok (.iaload, 1) := by decide +kernel
theorem dX11_insert_77 : decode cX11_insert 77 = .ok (.istore 6, 2) := by decide +kernel
theorem dX11_insert_79 : decode cX11_insert 79 = .ok (.iload 6, 2) := by decide +kernel
theorem dX11_insert_81 : decode cX11_insert 81 = .ok (.bipush 51, 2) := by decide +kernel
theorem dX11_insert_83 : decode cX11_insert 83 = .ok (.if_icmp .eq 33, 3) := by decide +kernel
theorem dX11_insert_86 : decode cX11_insert 86 = .ok (.iload 5, 2) := by decide +kernel
theorem dX11_insert_88 : decode cX11_insert 88 = .ok (.ifCond .ne 17, 3) := by decide +kernel
theorem dX11_insert_91 : decode cX11_insert 91 = .ok (.iload 6, 2) := by decide +kernel
theorem dX11_insert_93 : decode cX11_insert 93 = .ok (.bipush 52, 2) := by decide +kernel
theorem dX11_insert_95 : decode cX11_insert 95 = .ok (.if_icmp .eq 21, 3) := by decide +kernel
theorem dX11_insert_98 : decode cX11_insert 98 = .ok (.iload 6, 2) := by decide +kernel
theorem dX11_insert_100 : decode cX11_insert 100 = .ok (.bipush 13, 2) := by decide +kernel
theorem dX11_insert_102 : decode cX11_insert 102 = .ok (.if_icmp .eq 14, 3) := by decide +kernel
theorem dX11_insert_105 : decode cX11_insert 105 = .ok (.aload_n 0, 1) := by decide +kernel
theorem dX11_insert_106 : decode cX11_insert 106 = .ok (.aload_n 0, 1) := by decide +kernel
theorem dX11_insert_107 : decode cX11_insert 107 = .ok (.getfield 172, 3) := by decide +kernel
theorem dX11_insert_110 : decode cX11_insert 110 = .ok (.putfield 169, 3) := by decide +kernel
theorem dX11_insert_113 : decode cX11_insert 113 = .ok (.goto 93, 3) := by decide +kernel
theorem dX11_insert_116 : decode cX11_insert 116 = .ok (.aload_n 0, 1) := by decide +kernel
theorem dX11_insert_117 : decode cX11_insert 117 = .ok (.iload 6, 2) := by decide +kernel
theorem dX11_insert_119 : decode cX11_insert 119 = .ok (.iconst (-1), 1) := by decide +kernel
theorem dX11_insert_120 : decode cX11_insert 120 = .ok (.iconst (-1), 1) := by decide +kernel
theorem dX11_insert_121 : decode cX11_insert 121 = .ok (.iload 5, 2) := by decide +kernel
theorem dX11_insert_123 : decode cX11_insert 123 = .ok (.ifCond .eq 16, 3) := by decide +kernel
theorem dX11_insert_126 : decode cX11_insert 126 = .ok (.aload_n 0, 1) := by decide +kernel
theorem dX11_insert_127 : decode cX11_insert 127 = .ok (.getfield 16, 3) := by decide +kernel
theorem dX11_insert_130 : decode cX11_insert 130 = .ok (.aload_n 0, 1) := by decide +kernel
theorem dX11_insert_131 : decode cX11_insert 131 = .ok (.getfield 172, 3) := by decide +kernel
theorem dX11_insert_134 : decode cX11_insert 134 = .ok (.laload, 1) := by decide +kernel
theorem dX11_insert_135 : decode cX11_insert 135 = .ok (.lneg, 1) := by decide +kernel
theorem dX11_insert_136 : decode cX11_insert 136 = .ok (.goto 12, 3) := by decide +kernel
theorem dX11_insert_139 : decode cX11_insert 139 = .ok (.aload_n 0, 1) := by decide +kernel
theorem dX11_insert_140 : decode cX11_insert 140 = .ok (.getfield 16, 3) := by decide +kernel
theorem dX11_insert_143 : decode cX11_insert 143 = .ok (.aload_n 0, 1) := by decide +kernel
theorem dX11_insert_144 : decode cX11_insert 144 = .ok (.getfield 172, 3) := by decide +kernel
theorem dX11_insert_147 : decode cX11_insert 147 = .ok (.laload, 1) := by decide +kernel
theorem dX11_insert_148 : decode cX11_insert 148 = .ok (.invokevirtual 185, 3) := by decide +kernel
theorem dX11_insert_151 : decode cX11_insert 151 = .ok (.istore 7, 2) := by decide +kernel
theorem dX11_insert_153 : decode cX11_insert 153 = .ok (.aload_n 0, 1) := by decide +kernel
theorem dX11_insert_154 : decode cX11_insert 154 = .ok (.dup, 1) := by decide +kernel
theorem dX11_insert_155 : decode cX11_insert 155 = .ok (.getfield 172, 3) := by decide +kernel
theorem dX11_insert_158 : decode cX11_insert 158 = .ok (.iconst 1, 1) := by decide +kernel
theorem dX11_insert_159 : decode cX11_insert 159 = .ok (.iadd, 1) := by decide +kernel
theorem dX11_insert_160 : decode cX11_insert 160 = .ok (.putfield 172, 3) := by decide +kernel
theorem dX11_insert_163 : decode cX11_insert 163 = .ok (.iinc 3 1, 3) := by decide +kernel
theorem dX11_insert_166 : decode cX11_insert 166 = .ok (.iload_n 3, 1) := by decide +kernel
theorem dX11_insert_167 : decode cX11_insert 167 = .ok (.iconst 4, 1) := by decide +kernel
theorem dX11_insert_168 : decode cX11_insert 168 = .ok (.if_icmp .ge 16, 3) := by decide +kernel
theorem dX11_insert_171 : decode cX11_insert 171 = .ok (.aload_n 0, 1) := by decide +kernel
theorem dX11_insert_172 : decode cX11_insert 172 = .ok (.bipush 34, 2) := by decide +kernel
theorem dX11_insert_174 : decode cX11_insert 174 = .ok (.invokevirtual 189, 3) := by decide +kernel
theorem dX11_insert_177 : decode cX11_insert 177 = .ok (.ifCond .eq 7, 3) := by decide +kernel
theorem dX11_insert_180 : decode cX11_insert 180 = .ok (.iconst 1, 1) := by decide +kernel
theorem dX11_insert_181 : decode cX11_insert 181 = .ok (.goto 4, 3) := by decide +kernel
theorem dX11_insert_184 : decode cX11_insert 184 = .ok (.iconst 0, 1) := by decide +kernel
theorem dX11_insert_185 : decode cX11_insert 185 = .ok (.istore 4, 2) := by decide +kernel
theorem dX11_insert_187 : decode cX11_insert 187 = .ok (.aload_n 0, 1) := by decide +kernel
theorem dX11_insert_188 : decode cX11_insert 188 = .ok (.dup, 1) := by decide +kernel
theorem dX11_insert_189 : decode cX11_insert 189 = .ok (.getfield 172, 3) := by decide +kernel
theorem dX11_insert_192 : decode cX11_insert 192 = .ok (.iload 4, 2) := by decide +kernel
theorem dX11_insert_194 : decode cX11_insert 194 = .ok (.ifCond .eq 7, 3) := by decide +kernel
theorem dX11_insert_197 : decode cX11_insert 197 = .ok (.iconst 1, 1) := by decide +kernel
theorem dX11_insert_198 : decode cX11_insert 198 = .ok (.goto 4, 3) := by decide +kernel
theorem dX11_insert_201 : decode cX11_insert 201 = .ok (.iconst 0, 1) := by decide +kernel
theorem dX11_insert_202 : decode cX11_insert 202 = .ok (.iadd, 1) := by decide +kernel
theorem dX11_insert_203 : decode cX11_insert 203 = .ok (.putfield 172, 3) := by decide +kernel
theorem dX11_insert_206 : decode cX11_insert 206 = .ok (.goto (-177), 3) := by decide +kernel
theorem dX11_insert_209 : decode cX11_insert 209 = .ok (.aload_n 0, 1) := by decide +kernel
theorem dX11_insert_210 : decode cX11_insert 210 = .ok (.bipush 31, 2) := by decide +kernel
theorem dX11_insert_212 : decode cX11_insert 212 = .ok (.invokevirtual 181, 3) := by decide +kernel
theorem dX11_insert_215 : decode cX11_insert 215 = .ok (.lstore_n 1, 1) := by decide +kernel
theorem dX11_insert_216 : decode cX11_insert 216 = .ok (.aload_n 0, 1) := by decide +kernel
theorem dX11_insert_217 : decode cX11_insert 217 = .ok (.invokevirtual 255, 3) := by decide +kernel
theorem dX11_insert_220 : decode cX11_insert 220 = .ok (.ifCond .ne 5, 3) := by decide +kernel
theorem dX11_insert_223 : decode cX11_insert 223 = .ok (.iconst 0, 1) := by decide +kernel
theorem dX11_insert_224 : decode cX11_insert 224 = .ok (.ireturn, 1) := by decide +kernel
theorem dX11_insert_225 : decode cX11_insert 225 = .ok (.aload_n 0, 1) := by decide +kernel
theorem dX11_insert_226 : decode cX11_insert 226 = .ok (.invokevirtual 259, 3) := by decide +kernel
theorem dX11_insert_229 : decode cX11_insert 229 = .ok (.aload_n 0, 1) := by decide +kernel
theorem dX11_insert_230 : decode cX11_insert 230 = .ok (.getfield 66, 3) := by decide +kernel
theorem dX11_insert_233 : decode cX11_insert 233 = .ok (.iconst 0, 1) := by decide +kernel
theorem dX11_insert_234 : decode cX11_insert 234 = .ok (.iaload, 1) := by decide +kernel
theorem dX11_insert_235 : decode cX11_insert 235 = .ok (.istore 5, 2) := by decide +kernel
theorem dX11_insert_237 : decode cX11_insert 237 = .ok (.aload_n 0, 1) := by decide +kernel
theorem dX11_insert_238 : decode cX11_insert 238 = .ok (.getfield 219, 3) := by decide +kernel
theorem dX11_insert_241 : decode cX11_insert 241 = .ok (.ifCond .ne 21, 3) := by decide +kernel
theorem dX11_insert_244 : decode cX11_insert 244 = .ok (.aload_n 0, 1) := by decide +kernel
theorem dX11_insert_245 : decode cX11_insert 245 = .ok (.getfield 44, 3) := by decide +kernel
theorem dX11_insert_248 : decode cX11_insert 248 = .ok (.iload 5, 2) := by decide +kernel
theorem dX11_insert_250 : decode cX11_insert 250 = .ok (.iaload, 1) := by decide +kernel
theorem dX11_insert_251 : decode cX11_insert 251 = .ok (.iload_n 3, 1) := by decide +kernel
theorem dX11_insert_252 : decode cX11_insert 252 = .ok (.if_icmp .eq 10, 3) := by decide +kernel
theorem dX11_insert_255 : decode cX11_insert 255 = .ok (.aload_n 0, 1) := by decide +kernel
theorem dX11_insert_256 : decode cX11_insert 256 = .ok (.sipush (-1007), 3) := by decide +kernel
theorem dX11_insert_259 : decode cX11_insert 259 = .ok (.invokevirtual 229, 3) := by decide +kernel
theorem dX11_insert_262 : decode cX11_insert 262 = .ok (.iconst 0, 1) := by decide +kernel
theorem dX11_insert_263 : decode cX11_insert 263 = .ok (.istore 6, 2) := by decide +kernel
theorem dX11_insert_265 : decode cX11_insert 265 = .ok (.iload 6, 2) := by decide +kernel
theorem dX11_insert_267 : decode cX11_insert 267 = .ok (.iload_n 3, 1) := by decide +kernel
theorem dX11_insert_268 : decode cX11_insert 268 = .ok (.if_icmp .ge 67, 3) := by decide +kernel
theorem dX11_insert_271 : decode cX11_insert 271 = .ok (.aload_n 0, 1) := by decide +kernel
theorem dX11_insert_272 : decode cX11_insert 272 = .ok (.getfield 219, 3) := by decide +kernel
theorem dX11_insert_275 : decode cX11_insert 275 = .ok (.ifCond .ne 60, 3) := by decide +kernel
theorem dX11_insert_278 : decode cX11_insert 278 = .ok (.aload_n 0, 1) := by decide +kernel
theorem dX11_insert_279 : decode cX11_insert 279 = .ok (.getfield 20, 3) := by decide +kernel
theorem dX11_insert_282 : decode cX11_insert 282 = .ok (.iload 6, 2) := by decide +kernel
theorem dX11_insert_284 : decode cX11_insert 284 = .ok (.iaload, 1) := by decide +kernel
theorem dX11_insert_285 : decode cX11_insert 285 = .ok (.bipush 13, 2) := by decide +kernel
theorem dX11_insert_287 : decode cX11_insert 287 = .ok (.if_icmp .eq 42, 3) := by decide +kernel
theorem dX11_insert_290 : decode cX11_insert 290 = .ok (.aload_n 0, 1) := by decide +kernel
theorem dX11_insert_291 : decode cX11_insert 291 = .ok (.getfield 50, 3) := by decide +kernel
theorem dX11_insert_294 : decode cX11_insert 294 = .ok (.iconst 4, 1) := by decide +kernel
theorem dX11_insert_295 : decode cX11_insert 295 = .ok (.iload 5, 2) := by decide +kernel
theorem dX11_insert_297 : decode cX11_insert 297 = .ok (.imul, 1) := by decide +kernel
theorem dX11_insert_298 : decode cX11_insert 298 = .ok (.iload 6, 2) := by decide +kernel
theorem dX11_insert_300 : decode cX11_insert 300 = .ok (.iadd, 1) := by decide +kernel
theorem dX11_insert_301 : decode cX11_insert 301 = .ok (.baload, 1) := by decide +kernel
theorem dX11_insert_302 : decode cX11_insert 302 = .ok (.aload_n 0, 1) := by decide +kernel
theorem dX11_insert_303 : decode cX11_insert 303 = .ok (.getfield 20, 3) := by decide +kernel
theorem dX11_insert_306 : decode cX11_insert 306 = .ok (.iload 6, 2) := by decide +kernel
theorem dX11_insert_308 : decode cX11_insert 308 = .ok (.iaload, 1) := by decide +kernel
theorem dX11_insert_309 : decode cX11_insert 309 = .ok (.bipush 52, 2) := by decide +kernel
theorem dX11_insert_311 : decode cX11_insert 311 = .ok (.if_icmp .ne 7, 3) := by decide +kernel
theorem dX11_insert_314 : decode cX11_insert 314 = .ok (.iconst 1, 1) := by decide +kernel
theorem dX11_insert_315 : decode cX11_insert 315 = .ok (.goto 4, 3) := by decide +kernel
theorem dX11_insert_318 : decode cX11_insert 318 = .ok (.iconst 0, 1) := by decide +kernel
theorem dX11_insert_319 : decode cX11_insert 319 = .ok (.if_icmp .eq 10, 3) := by decide +kernel
theorem dX11_insert_322 : decode cX11_insert 322 = .ok (.aload_n 0, 1) := by decide +kernel
theorem dX11_insert_323 : decode cX11_insert 323 = .ok (.sipush (-1002), 3) := by decide +kernel
theorem dX11_insert_326 : decode cX11_insert 326 = .ok (.invokevirtual 229, 3) := by decide +kernel
theorem dX11_insert_329 : decode cX11_insert 329 = .ok (.iinc 6 1, 3) := by decide +kernel
theorem dX11_insert_332 : decode cX11_insert 332 = .ok (.goto (-67), 3) := by decide +kernel
theorem dX11_insert_335 : decode cX11_insert 335 = .ok (.aload_n 0, 1) := by decide +kernel
theorem dX11_insert_336 : decode cX11_insert 336 = .ok (.getfield 219, 3) := by decide +kernel
theorem dX11_insert_339 : decode cX11_insert 339 = .ok (.ifCond .ne 22, 3) := by decide +kernel
theorem dX11_insert_342 : decode cX11_insert 342 = .ok (.aload_n 0, 1) := by decide +kernel
theorem dX11_insert_343 : decode cX11_insert 343 = .ok (.getfield 54, 3) := by decide +kernel
theorem dX11_insert_346 : decode cX11_insert 346 = .ok (.iload 5, 2) := by decide +kernel
theorem dX11_insert_348 : decode cX11_insert 348 = .ok (.iaload, 1) := by decide +kernel
theorem dX11_insert_349 : decode cX11_insert 349 = .ok (.bipush 24, 2) := by decide +kernel
theorem dX11_insert_351 : decode cX11_insert 351 = .ok (.if_icmp .ne 10, 3) := by decide +kernel
theorem dX11_insert_354 : decode cX11_insert 354 = .ok (.aload_n 0, 1) := by decide +kernel
theorem dX11_insert_355 : decode cX11_insert 355 = .ok (.sipush (-1006), 3) := by decide +kernel
theorem dX11_insert_358 : decode cX11_insert 358 = .ok (.invokevirtual 229, 3) := by decide +kernel
theorem dX11_insert_361 : decode cX11_insert 361 = .ok (.iconst 0, 1) := by decide +kernel
theorem dX11_insert_362 : decode cX11_insert 362 = .ok (.istore 6, 2) := by decide +kernel
theorem dX11_insert_364 : decode cX11_insert 364 = .ok (.iload 6, 2) := by decide +kernel
theorem dX11_insert_366 : decode cX11_insert 366 = .ok (.iload_n 3, 1) := by decide +kernel
theorem dX11_insert_367 : decode cX11_insert 367 = .ok (.if_icmp .ge 89, 3) := by decide +kernel
theorem dX11_insert_370 : decode cX11_insert 370 = .ok (.aload_n 0, 1) := by decide +kernel
theorem dX11_insert_371 : decode cX11_insert 371 = .ok (.getfield 219, 3) := by decide +kernel
theorem dX11_insert_374 : decode cX11_insert 374 = .ok (.ifCond .ne 82, 3) := by decide +kernel
theorem dX11_insert_377 : decode cX11_insert 377 = .ok (.bipush 96, 2) := by decide +kernel
theorem dX11_insert_379 : decode cX11_insert 379 = .ok (.iload 5, 2) := by decide +kernel
theorem dX11_insert_381 : decode cX11_insert 381 = .ok (.imul, 1) := by decide +kernel
theorem dX11_insert_382 : decode cX11_insert 382 = .ok (.iconst 4, 1) := by decide +kernel
theorem dX11_insert_383 : decode cX11_insert 383 = .ok (.aload_n 0, 1) := by decide +kernel
theorem dX11_insert_384 : decode cX11_insert 384 = .ok (.getfield 54, 3) := by decide +kernel
theorem dX11_insert_387 : decode cX11_insert 387 = .ok (.iload 5, 2) := by decide +kernel
theorem dX11_insert_389 : decode cX11_insert 389 = .ok (.iaload, 1) := by decide +kernel
theorem dX11_insert_390 : decode cX11_insert 390 = .ok (.imul, 1) := by decide +kernel
theorem dX11_insert_391 : decode cX11_insert 391 = .ok (.iadd, 1) := by decide +kernel
theorem dX11_insert_392 : decode cX11_insert 392 = .ok (.iload 6, 2) := by decide +kernel
theorem dX11_insert_394 : decode cX11_insert 394 = .ok (.iadd, 1) := by decide +kernel
theorem dX11_insert_395 : decode cX11_insert 395 = .ok (.istore 7, 2) := by decide +kernel
theorem dX11_insert_397 : decode cX11_insert 397 = .ok (.aload_n 0, 1) := by decide +kernel
theorem dX11_insert_398 : decode cX11_insert 398 = .ok (.getfield 60, 3) := by decide +kernel
theorem dX11_insert_401 : decode cX11_insert 401 = .ok (.iload 7, 2) := by decide +kernel
theorem dX11_insert_403 : decode cX11_insert 403 = .ok (.aload_n 0, 1) := by decide +kernel
theorem dX11_insert_404 : decode cX11_insert 404 = .ok (.getfield 20, 3) := by decide +kernel
theorem dX11_insert_407 : decode cX11_insert 407 = .ok (.iload 6, 2) := by decide +kernel
theorem dX11_insert_409 : decode cX11_insert 409 = .ok (.iaload, 1) := by decide +kernel
theorem dX11_insert_410 : decode cX11_insert 410 = .ok (.bipush 13, 2) := by decide +kernel
theorem dX11_insert_412 : decode cX11_insert 412 = .ok (.if_icmp .ne 7, 3) := by decide +kernel
theorem dX11_insert_415 : decode cX11_insert 415 = .ok (.iconst 1, 1) := by decide +kernel
theorem dX11_insert_416 : decode cX11_insert 416 = .ok (.goto 4, 3) := by decide +kernel
theorem dX11_insert_419 : decode cX11_insert 419 = .ok (.iconst 0, 1) := by decide +kernel
theorem dX11_insert_420 : decode cX11_insert 420 = .ok (.bastore, 1) := by decide +kernel
theorem dX11_insert_421 : decode cX11_insert 421 = .ok (.aload_n 0, 1) := by decide +kernel
theorem dX11_insert_422 : decode cX11_insert 422 = .ok (.getfield 57, 3) := by decide +kernel
theorem dX11_insert_425 : decode cX11_insert 425 = .ok (.iload 7, 2) := by decide +kernel
theorem dX11_insert_427 : decode cX11_insert 427 = .ok (.aload_n 0, 1) := by decide +kernel
theorem dX11_insert_428 : decode cX11_insert 428 = .ok (.getfield 60, 3) := by decide +kernel
theorem dX11_insert_431 : decode cX11_insert 431 = .ok (.iload 7, 2) := by decide +kernel
theorem dX11_insert_433 : decode cX11_insert 433 = .ok (.baload, 1) := by decide +kernel
theorem dX11_insert_434 : decode cX11_insert 434 = .ok (.ifCond .eq 7, 3) := by decide +kernel
theorem dX11_insert_437 : decode cX11_insert 437 = .ok (.iconst 0, 1) := by decide +kernel
theorem dX11_insert_438 : decode cX11_insert 438 = .ok (.goto 11, 3) := by decide +kernel
theorem dX11_insert_441 : decode cX11_insert 441 = .ok (.aload_n 0, 1) := by decide +kernel
theorem dX11_insert_442 : decode cX11_insert 442 = .ok (.getfield 29, 3) := by decide +kernel
theorem dX11_insert_445 : decode cX11_insert 445 = .ok (.iload 6, 2) := by decide +kernel
theorem dX11_insert_447 : decode cX11_insert 447 = .ok (.laload, 1) := by decide +kernel
theorem dX11_insert_448 : decode cX11_insert 448 = .ok (.l2i, 1) := by decide +kernel
theorem dX11_insert_449 : decode cX11_insert 449 = .ok (.iastore, 1) := by decide +kernel
theorem dX11_insert_450 : decode cX11_insert 450 = .ok (.iinc 6 1, 3) := by decide +kernel
theorem dX11_insert_453 : decode cX11_insert 453 = .ok (.goto (-89), 3) := by decide +kernel
theorem dX11_insert_456 : decode cX11_insert 456 = .ok (.aload_n 0, 1) := by decide +kernel
theorem dX11_insert_457 : decode cX11_insert 457 = .ok (.getfield 54, 3) := by decide +kernel
theorem dX11_insert_460 : decode cX11_insert 460 = .ok (.iload 5, 2) := by decide +kernel
theorem dX11_insert_462 : decode cX11_insert 462 = .ok (.ifCond .ge 7, 3) := by decide +kernel
theorem dX11_insert_465 : decode cX11_insert 465 = .ok (.iconst 0, 1) := by decide +kernel
theorem dX11_insert_466 : decode cX11_insert 466 = .ok (.goto 5, 3) := by decide +kernel
theorem dX11_insert_469 : decode cX11_insert 469 = .ok (.iload 5, 2) := by decide +kernel
theorem dX11_insert_471 : decode cX11_insert 471 = .ok (.dup2, 1) := by decide +kernel
theorem dX11_insert_472 : decode cX11_insert 472 = .ok (.iaload, 1) := by decide +kernel
theorem dX11_insert_473 : decode cX11_insert 473 = .ok (.aload_n 0, 1) := by decide +kernel
theorem dX11_insert_474 : decode cX11_insert 474 = .ok (.getfield 219, 3) := by decide +kernel
theorem dX11_insert_477 : decode cX11_insert 477 = .ok (.ifCond .ne 7, 3) := by decide +kernel
theorem dX11_insert_480 : decode cX11_insert 480 = .ok (.iconst 1, 1) := by decide +kernel
theorem dX11_insert_481 : decode cX11_insert 481 = .ok (.goto 4, 3) := by decide +kernel
theorem dX11_insert_484 : decode cX11_insert 484 = .ok (.iconst 0, 1) := by decide +kernel
theorem dX11_insert_485 : decode cX11_insert 485 = .ok (.iadd, 1) := by decide +kernel
theorem dX11_insert_486 : decode cX11_insert 486 = .ok (.iastore, 1) := by decide +kernel
theorem dX11_insert_487 : decode cX11_insert 487 = .ok (.iconst 1, 1) := by decide +kernel
theorem dX11_insert_488 : decode cX11_insert 488 = .ok (.ireturn, 1) := by decide +kernel
theorem b_X11_insert_0 {h : Nat} {L : LVs} {st : List AV} {S : ST} {Q : Option AV → ST → Prop} (k : o_al L st S (fun L st S => o_get L st S (fun L st S => o_c L st S (fun L st S => o_al L st S (fun L st S => o_c L st S (fun L st S => V MX11_insert h 8 L st S Q) (nI 50)) 0) (nI 0)) 11 25 (3, 57, 0)) 0) : V MX11_insert h 0 L st S Q :=
  v_aload_n dX11_insert_0 rfl (fun L st S k => v_get dX11_insert_1 rfl iX11 LY_11 rfl (by decide) rfl fl_X11_63 (fun L st S k => v_iconst dX11_insert_4 (by decide) (fun L st S k => v_aload_n dX11_insert_5 rfl (fun L st S k => v_bipush dX11_insert_6 (by decide) (fun L st S k => k) k) k) k) k) k
theorem k_X11_insert_8 {h : Nat} {L : LVs} {st : List AV} {S : ST} {Q Q' : Option AV → ST → Prop} {j : Nat} {a0 : AV} (hC : Ct MX11_take h [vR 11 j, a0] S Q') (k : ∀ (r : Option AV) (S' : ST), Q' r S' → V MX11_insert (h + 1) 11 L (r.toList ++ st) S' Q) (hj : j < NI 11) (hw : wid st ≤ 8) : V MX11_insert (h + 1) 8 L (a0 :: vR 11 j :: st) S Q :=
  v_callV (M' := MX11_take) (c := 11) (As := [a0]) dX11_insert_8 ml_X11_181 im_X11_take se_X11_take in_X11 cd_X11_take rfl LY_11 np_X11_take (by decide) hw hj hC k
theorem b_X11_insert_11 {h : Nat} {L : LVs} {st : List AV} {S : ST} {Q : Option AV → ST → Prop} (k : o_last L st S (fun L st S => o_al L st S (fun L st S => o_c L st S (fun L st S => o_puti L st S (fun L st S => o_al L st S (fun L st S => o_c L st S (fun L st S => V MX11_insert h 20 L st S Q) (nI 30)) 0) 11 24) (nI 1)) 0)) : V MX11_insert h 11 L st S Q :=
  v_lastore dX11_insert_11 (fun L st S k => v_aload_n dX11_insert_12 rfl (fun L st S k => v_iconst dX11_insert_13 (by decide) (fun L st S k => v_puti dX11_insert_14 rfl iX11 tyX11_ok nmX11 LY_11 rfl (by decide) rfl fl_X11_222 rfl rfl (fun L st S k => v_aload_n dX11_insert_17 rfl (fun L st S k => v_bipush dX11_insert_18 (by decide) (fun L st S k => k) k) k) k) k) k) k
theorem k_X11_insert_20 {h : Nat} {L : LVs} {st : List AV} {S : ST} {Q Q' : Option AV → ST → Prop} {j : Nat} {a0 : AV} (hC : Ct MX11_take h [vR 11 j, a0] S Q') (k : ∀ (r : Option AV) (S' : ST), Q' r S' → V MX11_insert (h + 1) 23 L (r.toList ++ st) S' Q) (hj : j < NI 11) (hw : wid st ≤ 8) : V MX11_insert (h + 1) 20 L (a0 :: vR 11 j :: st) S Q :=
  v_callV (M' := MX11_take) (c := 11) (As := [a0]) dX11_insert_20 ml_X11_181 im_X11_take se_X11_take in_X11 cd_X11_take rfl LY_11 np_X11_take (by decide) hw hj hC k
theorem b_X11_insert_23 {h : Nat} {L : LVs} {st : List AV} {S : ST} {Q : Option AV → ST → Prop} (k : o_ls L st S (fun L st S => o_c L st S (fun L st S => o_is L st S (fun L st S => o_c L st S (fun L st S => o_is L st S (fun L st S => V MX11_insert h 29 L st S Q) 4) (nI 1)) 3) (nI 0)) 1) : V MX11_insert h 23 L st S Q :=
  v_lstore_n dX11_insert_23 rfl (by decide) (fun L st S k => v_iconst dX11_insert_24 (by decide) (fun L st S k => v_istore_n dX11_insert_25 rfl (by decide) (fun L st S k => v_iconst dX11_insert_26 (by decide) (fun L st S k => v_istore dX11_insert_27 (by decide) (fun L st S k => k) k) k) k) k) k
theorem b_X11_insert_29 {h : Nat} {L : LVs} {st : List AV} {S : ST} {Q : Option AV → ST → Prop} (k : o_il L st S (fun L st S => t_1 L st S (fun x => x = nI 0) (fun L st S => V MX11_insert h 209 L st S Q) (fun L st S => V MX11_insert h 34 L st S Q)) 4) : V MX11_insert h 29 L st S Q :=
  v_iload dX11_insert_29 (fun L st S k => w_if_eq dX11_insert_31 (by decide) rfl k) k
theorem b_X11_insert_34 {h : Nat} {L : LVs} {st : List AV} {S : ST} {Q : Option AV → ST → Prop} (k : o_al L st S (fun L st S => o_get L st S (fun L st S => t_1 L st S (fun x => nI 0 ≤ x) (fun L st S => V MX11_insert h 209 L st S Q) (fun L st S => V MX11_insert h 41 L st S Q)) 11 6 (0, 0, 0)) 0) : V MX11_insert h 34 L st S Q :=
  v_aload_n dX11_insert_34 rfl (fun L st S k => v_get dX11_insert_35 rfl iX11 LY_11 rfl (by decide) rfl fl_X11_169 (fun L st S k => w_if_ge dX11_insert_38 (by decide) rfl k) k) k
theorem b_X11_insert_41 {h : Nat} {L : LVs} {st : List AV} {S : ST} {Q : Option AV → ST → Prop} (k : o_al L st S (fun L st S => o_c L st S (fun L st S => V MX11_insert h 44 L st S Q) (nI 37)) 0) : V MX11_insert h 41 L st S Q :=
  v_aload_n dX11_insert_41 rfl (fun L st S k => v_bipush dX11_insert_42 (by decide) (fun L st S k => k) k) k
theorem k_X11_insert_44 {h : Nat} {L : LVs} {st : List AV} {S : ST} {Q Q' : Option AV → ST → Prop} {j : Nat} {a0 : AV} (hC : Ct MX11_is h [vR 11 j, a0] S Q') (k : ∀ (r : Option AV) (S' : ST), Q' r S' → V MX11_insert (h + 1) 47 L (r.toList ++ st) S' Q) (hj : j < NI 11) (hw : wid st ≤ 8) : V MX11_insert (h + 1) 44 L (a0 :: vR 11 j :: st) S Q :=
  v_callV (M' := MX11_is) (c := 11) (As := [a0]) dX11_insert_44 ml_X11_189 im_X11_is se_X11_is in_X11 cd_X11_is rfl LY_11 np_X11_is (by decide) hw hj hC k
theorem b_X11_insert_47 {h : Nat} {L : LVs} {st : List AV} {S : ST} {Q : Option AV → ST → Prop} (k : o_is L st S (fun L st S => o_al L st S (fun L st S => o_dup L st S (fun L st S => o_get L st S (fun L st S => o_il L st S (fun L st S => t_1 L st S (fun x => x = nI 0) (fun L st S => V MX11_insert h 63 L st S Q) (fun L st S => V MX11_insert h 59 L st S Q)) 5) 11 5 (0, 0, 0))) 0) 5) : V MX11_insert h 47 L st S Q :=
  v_istore dX11_insert_47 (by decide) (fun L st S k => v_aload_n dX11_insert_49 rfl (fun L st S k => v_dup dX11_insert_50 (fun L st S k => v_get dX11_insert_51 rfl iX11 LY_11 rfl (by decide) rfl fl_X11_172 (fun L st S k => v_iload dX11_insert_54 (fun L st S k => w_if_eq dX11_insert_56 (by decide) rfl k) k) k) k) k) k
theorem b_X11_insert_59 {h : Nat} {L : LVs} {st : List AV} {S : ST} {Q : Option AV → ST → Prop} (k : o_c L st S (fun L st S => V MX11_insert h 64 L st S Q) (nI 1)) : V MX11_insert h 59 L st S Q :=
  v_iconst dX11_insert_59 (by decide) (fun L st S k => v_goto dX11_insert_60 (by decide) k) k
theorem b_X11_insert_63 {h : Nat} {L : LVs} {st : List AV} {S : ST} {Q : Option AV → ST → Prop} (k : o_c L st S (fun L st S => V MX11_insert h 64 L st S Q) (nI 0)) : V MX11_insert h 63 L st S Q :=
  v_iconst dX11_insert_63 (by decide) (fun L st S k => k) k
theorem b_X11_insert_64 {h : Nat} {L : LVs} {st : List AV} {S : ST} {Q : Option AV → ST → Prop} (k : o_iadd L st S (fun L st S => o_puti L st S (fun L st S => o_al L st S (fun L st S => o_get L st S (fun L st S => o_al L st S (fun L st S => o_get L st S (fun L st S => o_iald L st S (fun L st S => o_is L st S (fun L st S => o_il L st S (fun L st S => o_c L st S (fun L st S => t_2 L st S (fun x y => x = y) (fun L st S => V MX11_insert h 116 L st S Q) (fun L st S => V MX11_insert h 86 L st S Q)) (nI 51)) 6) 6)) 11 5 (0, 0, 0)) 0) 11 2 (3, 41, 0)) 0) 11 5)) : V MX11_insert h 64 L st S Q :=
  v_iadd dX11_insert_64 (fun L st S k => v_puti dX11_insert_65 rfl iX11 tyX11_ok nmX11 LY_11 rfl (by decide) rfl fl_X11_172 rfl rfl (fun L st S k => v_aload_n dX11_insert_68 rfl (fun L st S k => v_get dX11_insert_69 rfl iX11 LY_11 rfl (by decide) rfl fl_X11_13 (fun L st S k => v_aload_n dX11_insert_72 rfl (fun L st S k => v_get dX11_insert_73 rfl iX11 LY_11 rfl (by decide) rfl fl_X11_172 (fun L st S k => v_iaload dX11_insert_76 (fun L st S k => v_istore dX11_insert_77 (by decide) (fun L st S k => v_iload dX11_insert_79 (fun L st S k => v_bipush dX11_insert_81 (by decide) (fun L st S k => w_icmp_eq dX11_insert_83 (by decide) rfl k) k) k) k) k) k) k) k) k) k) k
theorem b_X11_insert_86 {h : Nat} {L : LVs} {st : List AV} {S : ST} {Q : Option AV → ST → Prop} (k : o_il L st S (fun L st S => t_1 L st S (fun x => x = nI 0) (fun L st S => V MX11_insert h 91 L st S Q) (fun L st S => V MX11_insert h 105 L st S Q)) 5) : V MX11_insert h 86 L st S Q :=
  v_iload dX11_insert_86 (fun L st S k => w_if_ne dX11_insert_88 (by decide) rfl k) k
theorem b_X11_insert_91 {h : Nat} {L : LVs} {st : List AV} {S : ST} {Q : Option AV → ST → Prop} (k : o_il L st S (fun L st S => o_c L st S (fun L st S => t_2 L st S (fun x y => x = y) (fun L st S => V MX11_insert h 116 L st S Q) (fun L st S => V MX11_insert h 98 L st S Q)) (nI 52)) 6) : V MX11_insert h 91 L st S Q :=
  v_iload dX11_insert_91 (fun L st S k => v_bipush dX11_insert_93 (by decide) (fun L st S k => w_icmp_eq dX11_insert_95 (by decide) rfl k) k) k
theorem b_X11_insert_98 {h : Nat} {L : LVs} {st : List AV} {S : ST} {Q : Option AV → ST → Prop} (k : o_il L st S (fun L st S => o_c L st S (fun L st S => t_2 L st S (fun x y => x = y) (fun L st S => V MX11_insert h 116 L st S Q) (fun L st S => V MX11_insert h 105 L st S Q)) (nI 13)) 6) : V MX11_insert h 98 L st S Q :=
  v_iload dX11_insert_98 (fun L st S k => v_bipush dX11_insert_100 (by decide) (fun L st S k => w_icmp_eq dX11_insert_102 (by decide) rfl k) k) k
theorem b_X11_insert_105 {h : Nat} {L : LVs} {st : List AV} {S : ST} {Q : Option AV → ST → Prop} (k : o_al L st S (fun L st S => o_al L st S (fun L st S => o_get L st S (fun L st S => o_puti L st S (fun L st S => V MX11_insert h 206 L st S Q) 11 6) 11 5 (0, 0, 0)) 0) 0) : V MX11_insert h 105 L st S Q :=
  v_aload_n dX11_insert_105 rfl (fun L st S k => v_aload_n dX11_insert_106 rfl (fun L st S k => v_get dX11_insert_107 rfl iX11 LY_11 rfl (by decide) rfl fl_X11_172 (fun L st S k => v_puti dX11_insert_110 rfl iX11 tyX11_ok nmX11 LY_11 rfl (by decide) rfl fl_X11_169 rfl rfl (fun L st S k => v_goto dX11_insert_113 (by decide) k) k) k) k) k
theorem b_X11_insert_116 {h : Nat} {L : LVs} {st : List AV} {S : ST} {Q : Option AV → ST → Prop} (k : o_al L st S (fun L st S => o_il L st S (fun L st S => o_c L st S (fun L st S => o_c L st S (fun L st S => o_il L st S (fun L st S => t_1 L st S (fun x => x = nI 0) (fun L st S => V MX11_insert h 139 L st S Q) (fun L st S => V MX11_insert h 126 L st S Q)) 5) (-1)) (-1)) 6) 0) : V MX11_insert h 116 L st S Q :=
  v_aload_n dX11_insert_116 rfl (fun L st S k => v_iload dX11_insert_117 (fun L st S k => v_iconst dX11_insert_119 (by decide) (fun L st S k => v_iconst dX11_insert_120 (by decide) (fun L st S k => v_iload dX11_insert_121 (fun L st S k => w_if_eq dX11_insert_123 (by decide) rfl k) k) k) k) k) k
theorem b_X11_insert_126 {h : Nat} {L : LVs} {st : List AV} {S : ST} {Q : Option AV → ST → Prop} (k : o_al L st S (fun L st S => o_get L st S (fun L st S => o_al L st S (fun L st S => o_get L st S (fun L st S => o_lald L st S (fun L st S => o_lneg L st S (fun L st S => V MX11_insert h 148 L st S Q))) 11 5 (0, 0, 0)) 0) 11 3 (3, 42, 0)) 0) : V MX11_insert h 126 L st S Q :=
  v_aload_n dX11_insert_126 rfl (fun L st S k => v_get dX11_insert_127 rfl iX11 LY_11 rfl (by decide) rfl fl_X11_16 (fun L st S k => v_aload_n dX11_insert_130 rfl (fun L st S k => v_get dX11_insert_131 rfl iX11 LY_11 rfl (by decide) rfl fl_X11_172 (fun L st S k => v_laload dX11_insert_134 (fun L st S k => v_lneg dX11_insert_135 (fun L st S k => v_goto dX11_insert_136 (by decide) k) k) k) k) k) k) k
theorem b_X11_insert_139 {h : Nat} {L : LVs} {st : List AV} {S : ST} {Q : Option AV → ST → Prop} (k : o_al L st S (fun L st S => o_get L st S (fun L st S => o_al L st S (fun L st S => o_get L st S (fun L st S => o_lald L st S (fun L st S => V MX11_insert h 148 L st S Q)) 11 5 (0, 0, 0)) 0) 11 3 (3, 42, 0)) 0) : V MX11_insert h 139 L st S Q :=
  v_aload_n dX11_insert_139 rfl (fun L st S k => v_get dX11_insert_140 rfl iX11 LY_11 rfl (by decide) rfl fl_X11_16 (fun L st S k => v_aload_n dX11_insert_143 rfl (fun L st S k => v_get dX11_insert_144 rfl iX11 LY_11 rfl (by decide) rfl fl_X11_172 (fun L st S k => v_laload dX11_insert_147 (fun L st S k => k) k) k) k) k) k
theorem k_X11_insert_148 {h : Nat} {L : LVs} {st : List AV} {S : ST} {Q Q' : Option AV → ST → Prop} {j : Nat} {a0 a1 a2 a3 : AV} (hC : Ct MX11_knot h [vR 11 j, a0, a1, a2, a3] S Q') (k : ∀ (r : Option AV) (S' : ST), Q' r S' → V MX11_insert (h + 1) 151 L (r.toList ++ st) S' Q) (hj : j < NI 11) (hw : wid st ≤ 8) : V MX11_insert (h + 1) 148 L (a3 :: a2 :: a1 :: a0 :: vR 11 j :: st) S Q :=
  v_callV (M' := MX11_knot) (c := 11) (As := [a0, a1, a2, a3]) dX11_insert_148 ml_X11_185 im_X11_knot se_X11_knot in_X11 cd_X11_knot rfl LY_11 np_X11_knot (by decide) hw hj hC k
theorem b_X11_insert_151 {h : Nat} {L : LVs} {st : List AV} {S : ST} {Q : Option AV → ST → Prop} (k : o_is L st S (fun L st S => o_al L st S (fun L st S => o_dup L st S (fun L st S => o_get L st S (fun L st S => o_c L st S (fun L st S => o_iadd L st S (fun L st S => o_puti L st S (fun L st S => o_inc L st S (fun L st S => o_il L st S (fun L st S => o_c L st S (fun L st S => t_2 L st S (fun x y => y ≤ x) (fun L st S => V MX11_insert h 184 L st S Q) (fun L st S => V MX11_insert h 171 L st S Q)) (nI 4)) 3) 3 (nI 1)) 11 5)) (nI 1)) 11 5 (0, 0, 0))) 0) 7) : V MX11_insert h 151 L st S Q :=
  v_istore dX11_insert_151 (by decide) (fun L st S k => v_aload_n dX11_insert_153 rfl (fun L st S k => v_dup dX11_insert_154 (fun L st S k => v_get dX11_insert_155 rfl iX11 LY_11 rfl (by decide) rfl fl_X11_172 (fun L st S k => v_iconst dX11_insert_158 (by decide) (fun L st S k => v_iadd dX11_insert_159 (fun L st S k => v_puti dX11_insert_160 rfl iX11 tyX11_ok nmX11 LY_11 rfl (by decide) rfl fl_X11_172 rfl rfl (fun L st S k => v_iinc dX11_insert_163 (by decide) (by decide) (fun L st S k => v_iload_n dX11_insert_166 rfl (fun L st S k => v_iconst dX11_insert_167 (by decide) (fun L st S k => w_icmp_ge dX11_insert_168 (by decide) rfl k) k) k) k) k) k) k) k) k) k) k
theorem b_X11_insert_171 {h : Nat} {L : LVs} {st : List AV} {S : ST} {Q : Option AV → ST → Prop} (k : o_al L st S (fun L st S => o_c L st S (fun L st S => V MX11_insert h 174 L st S Q) (nI 34)) 0) : V MX11_insert h 171 L st S Q :=
  v_aload_n dX11_insert_171 rfl (fun L st S k => v_bipush dX11_insert_172 (by decide) (fun L st S k => k) k) k
theorem k_X11_insert_174 {h : Nat} {L : LVs} {st : List AV} {S : ST} {Q Q' : Option AV → ST → Prop} {j : Nat} {a0 : AV} (hC : Ct MX11_is h [vR 11 j, a0] S Q') (k : ∀ (r : Option AV) (S' : ST), Q' r S' → V MX11_insert (h + 1) 177 L (r.toList ++ st) S' Q) (hj : j < NI 11) (hw : wid st ≤ 8) : V MX11_insert (h + 1) 174 L (a0 :: vR 11 j :: st) S Q :=
  v_callV (M' := MX11_is) (c := 11) (As := [a0]) dX11_insert_174 ml_X11_189 im_X11_is se_X11_is in_X11 cd_X11_is rfl LY_11 np_X11_is (by decide) hw hj hC k
theorem b_X11_insert_177 {h : Nat} {L : LVs} {st : List AV} {S : ST} {Q : Option AV → ST → Prop} (k : t_1 L st S (fun x => x = nI 0) (fun L st S => V MX11_insert h 184 L st S Q) (fun L st S => V MX11_insert h 180 L st S Q)) : V MX11_insert h 177 L st S Q :=
  w_if_eq dX11_insert_177 (by decide) rfl k
theorem b_X11_insert_180 {h : Nat} {L : LVs} {st : List AV} {S : ST} {Q : Option AV → ST → Prop} (k : o_c L st S (fun L st S => V MX11_insert h 185 L st S Q) (nI 1)) : V MX11_insert h 180 L st S Q :=
  v_iconst dX11_insert_180 (by decide) (fun L st S k => v_goto dX11_insert_181 (by decide) k) k
theorem b_X11_insert_184 {h : Nat} {L : LVs} {st : List AV} {S : ST} {Q : Option AV → ST → Prop} (k : o_c L st S (fun L st S => V MX11_insert h 185 L st S Q) (nI 0)) : V MX11_insert h 184 L st S Q :=
  v_iconst dX11_insert_184 (by decide) (fun L st S k => k) k
theorem b_X11_insert_185 {h : Nat} {L : LVs} {st : List AV} {S : ST} {Q : Option AV → ST → Prop} (k : o_is L st S (fun L st S => o_al L st S (fun L st S => o_dup L st S (fun L st S => o_get L st S (fun L st S => o_il L st S (fun L st S => t_1 L st S (fun x => x = nI 0) (fun L st S => V MX11_insert h 201 L st S Q) (fun L st S => V MX11_insert h 197 L st S Q)) 4) 11 5 (0, 0, 0))) 0) 4) : V MX11_insert h 185 L st S Q :=
  v_istore dX11_insert_185 (by decide) (fun L st S k => v_aload_n dX11_insert_187 rfl (fun L st S k => v_dup dX11_insert_188 (fun L st S k => v_get dX11_insert_189 rfl iX11 LY_11 rfl (by decide) rfl fl_X11_172 (fun L st S k => v_iload dX11_insert_192 (fun L st S k => w_if_eq dX11_insert_194 (by decide) rfl k) k) k) k) k) k
theorem b_X11_insert_197 {h : Nat} {L : LVs} {st : List AV} {S : ST} {Q : Option AV → ST → Prop} (k : o_c L st S (fun L st S => V MX11_insert h 202 L st S Q) (nI 1)) : V MX11_insert h 197 L st S Q :=
  v_iconst dX11_insert_197 (by decide) (fun L st S k => v_goto dX11_insert_198 (by decide) k) k
theorem b_X11_insert_201 {h : Nat} {L : LVs} {st : List AV} {S : ST} {Q : Option AV → ST → Prop} (k : o_c L st S (fun L st S => V MX11_insert h 202 L st S Q) (nI 0)) : V MX11_insert h 201 L st S Q :=
  v_iconst dX11_insert_201 (by decide) (fun L st S k => k) k
theorem b_X11_insert_202 {h : Nat} {L : LVs} {st : List AV} {S : ST} {Q : Option AV → ST → Prop} (k : o_iadd L st S (fun L st S => o_puti L st S (fun L st S => V MX11_insert h 206 L st S Q) 11 5)) : V MX11_insert h 202 L st S Q :=
  v_iadd dX11_insert_202 (fun L st S k => v_puti dX11_insert_203 rfl iX11 tyX11_ok nmX11 LY_11 rfl (by decide) rfl fl_X11_172 rfl rfl (fun L st S k => k) k) k
theorem b_X11_insert_206 {h : Nat} {L : LVs} {st : List AV} {S : ST} {Q : Option AV → ST → Prop} (k : V MX11_insert h 29 L st S Q) : V MX11_insert h 206 L st S Q :=
  v_goto dX11_insert_206 (by decide) k
theorem b_X11_insert_209 {h : Nat} {L : LVs} {st : List AV} {S : ST} {Q : Option AV → ST → Prop} (k : o_al L st S (fun L st S => o_c L st S (fun L st S => V MX11_insert h 212 L st S Q) (nI 31)) 0) : V MX11_insert h 209 L st S Q :=
  v_aload_n dX11_insert_209 rfl (fun L st S k => v_bipush dX11_insert_210 (by decide) (fun L st S k => k) k) k
theorem k_X11_insert_212 {h : Nat} {L : LVs} {st : List AV} {S : ST} {Q Q' : Option AV → ST → Prop} {j : Nat} {a0 : AV} (hC : Ct MX11_take h [vR 11 j, a0] S Q') (k : ∀ (r : Option AV) (S' : ST), Q' r S' → V MX11_insert (h + 1) 215 L (r.toList ++ st) S' Q) (hj : j < NI 11) (hw : wid st ≤ 8) : V MX11_insert (h + 1) 212 L (a0 :: vR 11 j :: st) S Q :=
  v_callV (M' := MX11_take) (c := 11) (As := [a0]) dX11_insert_212 ml_X11_181 im_X11_take se_X11_take in_X11 cd_X11_take rfl LY_11 np_X11_take (by decide) hw hj hC k
theorem b_X11_insert_215 {h : Nat} {L : LVs} {st : List AV} {S : ST} {Q : Option AV → ST → Prop} (k : o_ls L st S (fun L st S => o_al L st S (fun L st S => V MX11_insert h 217 L st S Q) 0) 1) : V MX11_insert h 215 L st S Q :=
  v_lstore_n dX11_insert_215 rfl (by decide) (fun L st S k => v_aload_n dX11_insert_216 rfl (fun L st S k => k) k) k
theorem k_X11_insert_217 {h : Nat} {L : LVs} {st : List AV} {S : ST} {Q Q' : Option AV → ST → Prop} {j : Nat} (hC : Ct MX11_ends h [vR 11 j] S Q') (k : ∀ (r : Option AV) (S' : ST), Q' r S' → V MX11_insert (h + 1) 220 L (r.toList ++ st) S' Q) (hj : j < NI 11) (hw : wid st ≤ 8) : V MX11_insert (h + 1) 217 L (vR 11 j :: st) S Q :=
  v_callV (M' := MX11_ends) (c := 11) (As := []) dX11_insert_217 ml_X11_255 im_X11_ends se_X11_ends in_X11 cd_X11_ends rfl LY_11 np_X11_ends (by decide) hw hj hC k
theorem b_X11_insert_220 {h : Nat} {L : LVs} {st : List AV} {S : ST} {Q : Option AV → ST → Prop} (k : t_1 L st S (fun x => x = nI 0) (fun L st S => V MX11_insert h 223 L st S Q) (fun L st S => V MX11_insert h 225 L st S Q)) : V MX11_insert h 220 L st S Q :=
  w_if_ne dX11_insert_220 (by decide) rfl k
theorem b_X11_insert_223 {h : Nat} {L : LVs} {st : List AV} {S : ST} {Q : Option AV → ST → Prop} (k : o_c L st S (fun L st S => t_ir st S Q) (nI 0)) : V MX11_insert h 223 L st S Q :=
  v_iconst dX11_insert_223 (by decide) (fun L st S k => w_ir dX11_insert_224 rfl k) k
theorem b_X11_insert_225 {h : Nat} {L : LVs} {st : List AV} {S : ST} {Q : Option AV → ST → Prop} (k : o_al L st S (fun L st S => V MX11_insert h 226 L st S Q) 0) : V MX11_insert h 225 L st S Q :=
  v_aload_n dX11_insert_225 rfl (fun L st S k => k) k
theorem k_X11_insert_226 {h : Nat} {L : LVs} {st : List AV} {S : ST} {Q Q' : Option AV → ST → Prop} {j : Nat} (hC : Ct MX11_lookForTables h [vR 11 j] S Q') (k : ∀ (r : Option AV) (S' : ST), Q' r S' → V MX11_insert (h + 1) 229 L (r.toList ++ st) S' Q) (hj : j < NI 11) (hw : wid st ≤ 8) : V MX11_insert (h + 1) 226 L (vR 11 j :: st) S Q :=
  v_callV (M' := MX11_lookForTables) (c := 11) (As := []) dX11_insert_226 ml_X11_259 im_X11_lookForTables se_X11_lookForTables in_X11 cd_X11_lookForTables rfl LY_11 np_X11_lookForTables (by decide) hw hj hC k
theorem b_X11_insert_229 {h : Nat} {L : LVs} {st : List AV} {S : ST} {Q : Option AV → ST → Prop} (k : o_al L st S (fun L st S => o_get L st S (fun L st S => o_c L st S (fun L st S => o_iald L st S (fun L st S => o_is L st S (fun L st S => o_al L st S (fun L st S => o_get L st S (fun L st S => t_1 L st S (fun x => x = nI 0) (fun L st S => V MX11_insert h 244 L st S Q) (fun L st S => V MX11_insert h 262 L st S Q)) 11 28 (0, 0, 0)) 0) 5)) (nI 0)) 11 26 (3, 58, 0)) 0) : V MX11_insert h 229 L st S Q :=
  v_aload_n dX11_insert_229 rfl (fun L st S k => v_get dX11_insert_230 rfl iX11 LY_11 rfl (by decide) rfl fl_X11_66 (fun L st S k => v_iconst dX11_insert_233 (by decide) (fun L st S k => v_iaload dX11_insert_234 (fun L st S k => v_istore dX11_insert_235 (by decide) (fun L st S k => v_aload_n dX11_insert_237 rfl (fun L st S k => v_get dX11_insert_238 rfl iX11 LY_11 rfl (by decide) rfl fl_X11_219 (fun L st S k => w_if_ne dX11_insert_241 (by decide) rfl k) k) k) k) k) k) k) k
theorem b_X11_insert_244 {h : Nat} {L : LVs} {st : List AV} {S : ST} {Q : Option AV → ST → Prop} (k : o_al L st S (fun L st S => o_get L st S (fun L st S => o_il L st S (fun L st S => o_iald L st S (fun L st S => o_il L st S (fun L st S => t_2 L st S (fun x y => x = y) (fun L st S => V MX11_insert h 262 L st S Q) (fun L st S => V MX11_insert h 255 L st S Q)) 3)) 5) 11 18 (3, 51, 0)) 0) : V MX11_insert h 244 L st S Q :=
  v_aload_n dX11_insert_244 rfl (fun L st S k => v_get dX11_insert_245 rfl iX11 LY_11 rfl (by decide) rfl fl_X11_44 (fun L st S k => v_iload dX11_insert_248 (fun L st S k => v_iaload dX11_insert_250 (fun L st S k => v_iload_n dX11_insert_251 rfl (fun L st S k => w_icmp_eq dX11_insert_252 (by decide) rfl k) k) k) k) k) k
theorem b_X11_insert_255 {h : Nat} {L : LVs} {st : List AV} {S : ST} {Q : Option AV → ST → Prop} (k : o_al L st S (fun L st S => o_c L st S (fun L st S => V MX11_insert h 259 L st S Q) (-1007)) 0) : V MX11_insert h 255 L st S Q :=
  v_aload_n dX11_insert_255 rfl (fun L st S k => v_sipush dX11_insert_256 (by decide) (fun L st S k => k) k) k
theorem k_X11_insert_259 {h : Nat} {L : LVs} {st : List AV} {S : ST} {Q Q' : Option AV → ST → Prop} {j : Nat} {a0 : AV} (hC : Ct MX11_fails h [vR 11 j, a0] S Q') (k : ∀ (r : Option AV) (S' : ST), Q' r S' → V MX11_insert (h + 1) 262 L (r.toList ++ st) S' Q) (hj : j < NI 11) (hw : wid st ≤ 8) : V MX11_insert (h + 1) 259 L (a0 :: vR 11 j :: st) S Q :=
  v_callV (M' := MX11_fails) (c := 11) (As := [a0]) dX11_insert_259 ml_X11_229 im_X11_fails se_X11_fails in_X11 cd_X11_fails rfl LY_11 np_X11_fails (by decide) hw hj hC k
theorem b_X11_insert_262 {h : Nat} {L : LVs} {st : List AV} {S : ST} {Q : Option AV → ST → Prop} (k : o_c L st S (fun L st S => o_is L st S (fun L st S => V MX11_insert h 265 L st S Q) 6) (nI 0)) : V MX11_insert h 262 L st S Q :=
  v_iconst dX11_insert_262 (by decide) (fun L st S k => v_istore dX11_insert_263 (by decide) (fun L st S k => k) k) k
theorem b_X11_insert_265 {h : Nat} {L : LVs} {st : List AV} {S : ST} {Q : Option AV → ST → Prop} (k : o_il L st S (fun L st S => o_il L st S (fun L st S => t_2 L st S (fun x y => y ≤ x) (fun L st S => V MX11_insert h 335 L st S Q) (fun L st S => V MX11_insert h 271 L st S Q)) 3) 6) : V MX11_insert h 265 L st S Q :=
  v_iload dX11_insert_265 (fun L st S k => v_iload_n dX11_insert_267 rfl (fun L st S k => w_icmp_ge dX11_insert_268 (by decide) rfl k) k) k
theorem b_X11_insert_271 {h : Nat} {L : LVs} {st : List AV} {S : ST} {Q : Option AV → ST → Prop} (k : o_al L st S (fun L st S => o_get L st S (fun L st S => t_1 L st S (fun x => x = nI 0) (fun L st S => V MX11_insert h 278 L st S Q) (fun L st S => V MX11_insert h 335 L st S Q)) 11 28 (0, 0, 0)) 0) : V MX11_insert h 271 L st S Q :=
  v_aload_n dX11_insert_271 rfl (fun L st S k => v_get dX11_insert_272 rfl iX11 LY_11 rfl (by decide) rfl fl_X11_219 (fun L st S k => w_if_ne dX11_insert_275 (by decide) rfl k) k) k
theorem b_X11_insert_278 {h : Nat} {L : LVs} {st : List AV} {S : ST} {Q : Option AV → ST → Prop} (k : o_al L st S (fun L st S => o_get L st S (fun L st S => o_il L st S (fun L st S => o_iald L st S (fun L st S => o_c L st S (fun L st S => t_2 L st S (fun x y => x = y) (fun L st S => V MX11_insert h 329 L st S Q) (fun L st S => V MX11_insert h 290 L st S Q)) (nI 13))) 6) 11 8 (3, 43, 0)) 0) : V MX11_insert h 278 L st S Q :=
  v_aload_n dX11_insert_278 rfl (fun L st S k => v_get dX11_insert_279 rfl iX11 LY_11 rfl (by decide) rfl fl_X11_20 (fun L st S k => v_iload dX11_insert_282 (fun L st S k => v_iaload dX11_insert_284 (fun L st S k => v_bipush dX11_insert_285 (by decide) (fun L st S k => w_icmp_eq dX11_insert_287 (by decide) rfl k) k) k) k) k) k
theorem b_X11_insert_290 {h : Nat} {L : LVs} {st : List AV} {S : ST} {Q : Option AV → ST → Prop} (k : o_al L st S (fun L st S => o_get L st S (fun L st S => o_c L st S (fun L st S => o_il L st S (fun L st S => o_imul L st S (fun L st S => o_il L st S (fun L st S => o_iadd L st S (fun L st S => o_zald L st S (fun L st S => o_al L st S (fun L st S => o_get L st S (fun L st S => o_il L st S (fun L st S => o_iald L st S (fun L st S => o_c L st S (fun L st S => t_2 L st S (fun x y => x = y) (fun L st S => V MX11_insert h 314 L st S Q) (fun L st S => V MX11_insert h 318 L st S Q)) (nI 52))) 6) 11 8 (3, 43, 0)) 0))) 6)) 5) (nI 4)) 11 20 (3, 53, 0)) 0) : V MX11_insert h 290 L st S Q :=
  v_aload_n dX11_insert_290 rfl (fun L st S k => v_get dX11_insert_291 rfl iX11 LY_11 rfl (by decide) rfl fl_X11_50 (fun L st S k => v_iconst dX11_insert_294 (by decide) (fun L st S k => v_iload dX11_insert_295 (fun L st S k => v_imul dX11_insert_297 (fun L st S k => v_iload dX11_insert_298 (fun L st S k => v_iadd dX11_insert_300 (fun L st S k => v_zaload dX11_insert_301 (fun L st S k => v_aload_n dX11_insert_302 rfl (fun L st S k => v_get dX11_insert_303 rfl iX11 LY_11 rfl (by decide) rfl fl_X11_20 (fun L st S k => v_iload dX11_insert_306 (fun L st S k => v_iaload dX11_insert_308 (fun L st S k => v_bipush dX11_insert_309 (by decide) (fun L st S k => w_icmp_ne dX11_insert_311 (by decide) rfl k) k) k) k) k) k) k) k) k) k) k) k) k) k
theorem b_X11_insert_314 {h : Nat} {L : LVs} {st : List AV} {S : ST} {Q : Option AV → ST → Prop} (k : o_c L st S (fun L st S => V MX11_insert h 319 L st S Q) (nI 1)) : V MX11_insert h 314 L st S Q :=
  v_iconst dX11_insert_314 (by decide) (fun L st S k => v_goto dX11_insert_315 (by decide) k) k
theorem b_X11_insert_318 {h : Nat} {L : LVs} {st : List AV} {S : ST} {Q : Option AV → ST → Prop} (k : o_c L st S (fun L st S => V MX11_insert h 319 L st S Q) (nI 0)) : V MX11_insert h 318 L st S Q :=
  v_iconst dX11_insert_318 (by decide) (fun L st S k => k) k
theorem b_X11_insert_319 {h : Nat} {L : LVs} {st : List AV} {S : ST} {Q : Option AV → ST → Prop} (k : t_2 L st S (fun x y => x = y) (fun L st S => V MX11_insert h 329 L st S Q) (fun L st S => V MX11_insert h 322 L st S Q)) : V MX11_insert h 319 L st S Q :=
  w_icmp_eq dX11_insert_319 (by decide) rfl k
theorem b_X11_insert_322 {h : Nat} {L : LVs} {st : List AV} {S : ST} {Q : Option AV → ST → Prop} (k : o_al L st S (fun L st S => o_c L st S (fun L st S => V MX11_insert h 326 L st S Q) (-1002)) 0) : V MX11_insert h 322 L st S Q :=
  v_aload_n dX11_insert_322 rfl (fun L st S k => v_sipush dX11_insert_323 (by decide) (fun L st S k => k) k) k
theorem k_X11_insert_326 {h : Nat} {L : LVs} {st : List AV} {S : ST} {Q Q' : Option AV → ST → Prop} {j : Nat} {a0 : AV} (hC : Ct MX11_fails h [vR 11 j, a0] S Q') (k : ∀ (r : Option AV) (S' : ST), Q' r S' → V MX11_insert (h + 1) 329 L (r.toList ++ st) S' Q) (hj : j < NI 11) (hw : wid st ≤ 8) : V MX11_insert (h + 1) 326 L (a0 :: vR 11 j :: st) S Q :=
  v_callV (M' := MX11_fails) (c := 11) (As := [a0]) dX11_insert_326 ml_X11_229 im_X11_fails se_X11_fails in_X11 cd_X11_fails rfl LY_11 np_X11_fails (by decide) hw hj hC k
theorem b_X11_insert_329 {h : Nat} {L : LVs} {st : List AV} {S : ST} {Q : Option AV → ST → Prop} (k : o_inc L st S (fun L st S => V MX11_insert h 265 L st S Q) 6 (nI 1)) : V MX11_insert h 329 L st S Q :=
  v_iinc dX11_insert_329 (by decide) (by decide) (fun L st S k => v_goto dX11_insert_332 (by decide) k) k
theorem b_X11_insert_335 {h : Nat} {L : LVs} {st : List AV} {S : ST} {Q : Option AV → ST → Prop} (k : o_al L st S (fun L st S => o_get L st S (fun L st S => t_1 L st S (fun x => x = nI 0) (fun L st S => V MX11_insert h 342 L st S Q) (fun L st S => V MX11_insert h 361 L st S Q)) 11 28 (0, 0, 0)) 0) : V MX11_insert h 335 L st S Q :=
  v_aload_n dX11_insert_335 rfl (fun L st S k => v_get dX11_insert_336 rfl iX11 LY_11 rfl (by decide) rfl fl_X11_219 (fun L st S k => w_if_ne dX11_insert_339 (by decide) rfl k) k) k
theorem b_X11_insert_342 {h : Nat} {L : LVs} {st : List AV} {S : ST} {Q : Option AV → ST → Prop} (k : o_al L st S (fun L st S => o_get L st S (fun L st S => o_il L st S (fun L st S => o_iald L st S (fun L st S => o_c L st S (fun L st S => t_2 L st S (fun x y => x = y) (fun L st S => V MX11_insert h 354 L st S Q) (fun L st S => V MX11_insert h 361 L st S Q)) (nI 24))) 5) 11 21 (3, 54, 0)) 0) : V MX11_insert h 342 L st S Q :=
  v_aload_n dX11_insert_342 rfl (fun L st S k => v_get dX11_insert_343 rfl iX11 LY_11 rfl (by decide) rfl fl_X11_54 (fun L st S k => v_iload dX11_insert_346 (fun L st S k => v_iaload dX11_insert_348 (fun L st S k => v_bipush dX11_insert_349 (by decide) (fun L st S k => w_icmp_ne dX11_insert_351 (by decide) rfl k) k) k) k) k) k
theorem b_X11_insert_354 {h : Nat} {L : LVs} {st : List AV} {S : ST} {Q : Option AV → ST → Prop} (k : o_al L st S (fun L st S => o_c L st S (fun L st S => V MX11_insert h 358 L st S Q) (-1006)) 0) : V MX11_insert h 354 L st S Q :=
  v_aload_n dX11_insert_354 rfl (fun L st S k => v_sipush dX11_insert_355 (by decide) (fun L st S k => k) k) k
theorem k_X11_insert_358 {h : Nat} {L : LVs} {st : List AV} {S : ST} {Q Q' : Option AV → ST → Prop} {j : Nat} {a0 : AV} (hC : Ct MX11_fails h [vR 11 j, a0] S Q') (k : ∀ (r : Option AV) (S' : ST), Q' r S' → V MX11_insert (h + 1) 361 L (r.toList ++ st) S' Q) (hj : j < NI 11) (hw : wid st ≤ 8) : V MX11_insert (h + 1) 358 L (a0 :: vR 11 j :: st) S Q :=
  v_callV (M' := MX11_fails) (c := 11) (As := [a0]) dX11_insert_358 ml_X11_229 im_X11_fails se_X11_fails in_X11 cd_X11_fails rfl LY_11 np_X11_fails (by decide) hw hj hC k
theorem b_X11_insert_361 {h : Nat} {L : LVs} {st : List AV} {S : ST} {Q : Option AV → ST → Prop} (k : o_c L st S (fun L st S => o_is L st S (fun L st S => V MX11_insert h 364 L st S Q) 6) (nI 0)) : V MX11_insert h 361 L st S Q :=
  v_iconst dX11_insert_361 (by decide) (fun L st S k => v_istore dX11_insert_362 (by decide) (fun L st S k => k) k) k
theorem b_X11_insert_364 {h : Nat} {L : LVs} {st : List AV} {S : ST} {Q : Option AV → ST → Prop} (k : o_il L st S (fun L st S => o_il L st S (fun L st S => t_2 L st S (fun x y => y ≤ x) (fun L st S => V MX11_insert h 456 L st S Q) (fun L st S => V MX11_insert h 370 L st S Q)) 3) 6) : V MX11_insert h 364 L st S Q :=
  v_iload dX11_insert_364 (fun L st S k => v_iload_n dX11_insert_366 rfl (fun L st S k => w_icmp_ge dX11_insert_367 (by decide) rfl k) k) k
theorem b_X11_insert_370 {h : Nat} {L : LVs} {st : List AV} {S : ST} {Q : Option AV → ST → Prop} (k : o_al L st S (fun L st S => o_get L st S (fun L st S => t_1 L st S (fun x => x = nI 0) (fun L st S => V MX11_insert h 377 L st S Q) (fun L st S => V MX11_insert h 456 L st S Q)) 11 28 (0, 0, 0)) 0) : V MX11_insert h 370 L st S Q :=
  v_aload_n dX11_insert_370 rfl (fun L st S k => v_get dX11_insert_371 rfl iX11 LY_11 rfl (by decide) rfl fl_X11_219 (fun L st S k => w_if_ne dX11_insert_374 (by decide) rfl k) k) k
theorem b_X11_insert_377 {h : Nat} {L : LVs} {st : List AV} {S : ST} {Q : Option AV → ST → Prop} (k : o_c L st S (fun L st S => o_il L st S (fun L st S => o_imul L st S (fun L st S => o_c L st S (fun L st S => o_al L st S (fun L st S => o_get L st S (fun L st S => o_il L st S (fun L st S => o_iald L st S (fun L st S => o_imul L st S (fun L st S => o_iadd L st S (fun L st S => o_il L st S (fun L st S => o_iadd L st S (fun L st S => o_is L st S (fun L st S => o_al L st S (fun L st S => o_get L st S (fun L st S => o_il L st S (fun L st S => o_al L st S (fun L st S => o_get L st S (fun L st S => o_il L st S (fun L st S => o_iald L st S (fun L st S => o_c L st S (fun L st S => t_2 L st S (fun x y => x = y) (fun L st S => V MX11_insert h 415 L st S Q) (fun L st S => V MX11_insert h 419 L st S Q)) (nI 13))) 6) 11 8 (3, 43, 0)) 0) 7) 11 23 (3, 56, 0)) 0) 7)) 6)))) 5) 11 21 (3, 54, 0)) 0) (nI 4))) 5) (nI 96)) : V MX11_insert h 377 L st S Q :=
  v_bipush dX11_insert_377 (by decide) (fun L st S k => v_iload dX11_insert_379 (fun L st S k => v_imul dX11_insert_381 (fun L st S k => v_iconst dX11_insert_382 (by decide) (fun L st S k => v_aload_n dX11_insert_383 rfl (fun L st S k => v_get dX11_insert_384 rfl iX11 LY_11 rfl (by decide) rfl fl_X11_54 (fun L st S k => v_iload dX11_insert_387 (fun L st S k => v_iaload dX11_insert_389 (fun L st S k => v_imul dX11_insert_390 (fun L st S k => v_iadd dX11_insert_391 (fun L st S k => v_iload dX11_insert_392 (fun L st S k => v_iadd dX11_insert_394 (fun L st S k => v_istore dX11_insert_395 (by decide) (fun L st S k => v_aload_n dX11_insert_397 rfl (fun L st S k => v_get dX11_insert_398 rfl iX11 LY_11 rfl (by decide) rfl fl_X11_60 (fun L st S k => v_iload dX11_insert_401 (fun L st S k => v_aload_n dX11_insert_403 rfl (fun L st S k => v_get dX11_insert_404 rfl iX11 LY_11 rfl (by decide) rfl fl_X11_20 (fun L st S k => v_iload dX11_insert_407 (fun L st S k => v_iaload dX11_insert_409 (fun L st S k => v_bipush dX11_insert_410 (by decide) (fun L st S k => w_icmp_ne dX11_insert_412 (by decide) rfl k) k) k) k) k) k) k) k) k) k) k) k) k) k) k) k) k) k) k) k) k) k
theorem b_X11_insert_415 {h : Nat} {L : LVs} {st : List AV} {S : ST} {Q : Option AV → ST → Prop} (k : o_c L st S (fun L st S => V MX11_insert h 420 L st S Q) (nI 1)) : V MX11_insert h 415 L st S Q :=
  v_iconst dX11_insert_415 (by decide) (fun L st S k => v_goto dX11_insert_416 (by decide) k) k
theorem b_X11_insert_419 {h : Nat} {L : LVs} {st : List AV} {S : ST} {Q : Option AV → ST → Prop} (k : o_c L st S (fun L st S => V MX11_insert h 420 L st S Q) (nI 0)) : V MX11_insert h 419 L st S Q :=
  v_iconst dX11_insert_419 (by decide) (fun L st S k => k) k
theorem b_X11_insert_420 {h : Nat} {L : LVs} {st : List AV} {S : ST} {Q : Option AV → ST → Prop} (k : o_zast L st S (fun L st S => o_al L st S (fun L st S => o_get L st S (fun L st S => o_il L st S (fun L st S => o_al L st S (fun L st S => o_get L st S (fun L st S => o_il L st S (fun L st S => o_zald L st S (fun L st S => t_1 L st S (fun x => x = nI 0) (fun L st S => V MX11_insert h 441 L st S Q) (fun L st S => V MX11_insert h 437 L st S Q))) 7) 11 23 (3, 56, 0)) 0) 7) 11 22 (3, 55, 0)) 0)) : V MX11_insert h 420 L st S Q :=
  v_zastore dX11_insert_420 (fun L st S k => v_aload_n dX11_insert_421 rfl (fun L st S k => v_get dX11_insert_422 rfl iX11 LY_11 rfl (by decide) rfl fl_X11_57 (fun L st S k => v_iload dX11_insert_425 (fun L st S k => v_aload_n dX11_insert_427 rfl (fun L st S k => v_get dX11_insert_428 rfl iX11 LY_11 rfl (by decide) rfl fl_X11_60 (fun L st S k => v_iload dX11_insert_431 (fun L st S k => v_zaload dX11_insert_433 (fun L st S k => w_if_eq dX11_insert_434 (by decide) rfl k) k) k) k) k) k) k) k) k
theorem b_X11_insert_437 {h : Nat} {L : LVs} {st : List AV} {S : ST} {Q : Option AV → ST → Prop} (k : o_c L st S (fun L st S => V MX11_insert h 449 L st S Q) (nI 0)) : V MX11_insert h 437 L st S Q :=
  v_iconst dX11_insert_437 (by decide) (fun L st S k => v_goto dX11_insert_438 (by decide) k) k
theorem b_X11_insert_441 {h : Nat} {L : LVs} {st : List AV} {S : ST} {Q : Option AV → ST → Prop} (k : o_al L st S (fun L st S => o_get L st S (fun L st S => o_il L st S (fun L st S => o_lald L st S (fun L st S => o_l2i L st S (fun L st S => V MX11_insert h 449 L st S Q))) 6) 11 11 (3, 46, 0)) 0) : V MX11_insert h 441 L st S Q :=
  v_aload_n dX11_insert_441 rfl (fun L st S k => v_get dX11_insert_442 rfl iX11 LY_11 rfl (by decide) rfl fl_X11_29 (fun L st S k => v_iload dX11_insert_445 (fun L st S k => v_laload dX11_insert_447 (fun L st S k => v_l2i dX11_insert_448 (fun L st S k => k) k) k) k) k) k
theorem b_X11_insert_449 {h : Nat} {L : LVs} {st : List AV} {S : ST} {Q : Option AV → ST → Prop} (k : o_iast L st S (fun L st S => o_inc L st S (fun L st S => V MX11_insert h 364 L st S Q) 6 (nI 1))) : V MX11_insert h 449 L st S Q :=
  v_iastore dX11_insert_449 (fun L st S k => v_iinc dX11_insert_450 (by decide) (by decide) (fun L st S k => v_goto dX11_insert_453 (by decide) k) k) k
theorem b_X11_insert_456 {h : Nat} {L : LVs} {st : List AV} {S : ST} {Q : Option AV → ST → Prop} (k : o_al L st S (fun L st S => o_get L st S (fun L st S => o_il L st S (fun L st S => t_1 L st S (fun x => nI 0 ≤ x) (fun L st S => V MX11_insert h 469 L st S Q) (fun L st S => V MX11_insert h 465 L st S Q)) 5) 11 21 (3, 54, 0)) 0) : V MX11_insert h 456 L st S Q :=
  v_aload_n dX11_insert_456 rfl (fun L st S k => v_get dX11_insert_457 rfl iX11 LY_11 rfl (by decide) rfl fl_X11_54 (fun L st S k => v_iload dX11_insert_460 (fun L st S k => w_if_ge dX11_insert_462 (by decide) rfl k) k) k) k
theorem b_X11_insert_465 {h : Nat} {L : LVs} {st : List AV} {S : ST} {Q : Option AV → ST → Prop} (k : o_c L st S (fun L st S => V MX11_insert h 471 L st S Q) (nI 0)) : V MX11_insert h 465 L st S Q :=
  v_iconst dX11_insert_465 (by decide) (fun L st S k => v_goto dX11_insert_466 (by decide) k) k
theorem b_X11_insert_469 {h : Nat} {L : LVs} {st : List AV} {S : ST} {Q : Option AV → ST → Prop} (k : o_il L st S (fun L st S => V MX11_insert h 471 L st S Q) 5) : V MX11_insert h 469 L st S Q :=
  v_iload dX11_insert_469 (fun L st S k => k) k
theorem b_X11_insert_471 {h : Nat} {L : LVs} {st : List AV} {S : ST} {Q : Option AV → ST → Prop} (k : o_dup2 L st S (fun L st S => o_iald L st S (fun L st S => o_al L st S (fun L st S => o_get L st S (fun L st S => t_1 L st S (fun x => x = nI 0) (fun L st S => V MX11_insert h 480 L st S Q) (fun L st S => V MX11_insert h 484 L st S Q)) 11 28 (0, 0, 0)) 0))) : V MX11_insert h 471 L st S Q :=
  v_dup2 dX11_insert_471 (fun L st S k => v_iaload dX11_insert_472 (fun L st S k => v_aload_n dX11_insert_473 rfl (fun L st S k => v_get dX11_insert_474 rfl iX11 LY_11 rfl (by decide) rfl fl_X11_219 (fun L st S k => w_if_ne dX11_insert_477 (by decide) rfl k) k) k) k) k
theorem b_X11_insert_480 {h : Nat} {L : LVs} {st : List AV} {S : ST} {Q : Option AV → ST → Prop} (k : o_c L st S (fun L st S => V MX11_insert h 485 L st S Q) (nI 1)) : V MX11_insert h 480 L st S Q :=
  v_iconst dX11_insert_480 (by decide) (fun L st S k => v_goto dX11_insert_481 (by decide) k) k
theorem b_X11_insert_484 {h : Nat} {L : LVs} {st : List AV} {S : ST} {Q : Option AV → ST → Prop} (k : o_c L st S (fun L st S => V MX11_insert h 485 L st S Q) (nI 0)) : V MX11_insert h 484 L st S Q :=
  v_iconst dX11_insert_484 (by decide) (fun L st S k => k) k
theorem b_X11_insert_485 {h : Nat} {L : LVs} {st : List AV} {S : ST} {Q : Option AV → ST → Prop} (k : o_iadd L st S (fun L st S => o_iast L st S (fun L st S => o_c L st S (fun L st S => t_ir st S Q) (nI 1)))) : V MX11_insert h 485 L st S Q :=
  v_iadd dX11_insert_485 (fun L st S k => v_iastore dX11_insert_486 (fun L st S k => v_iconst dX11_insert_487 (by decide) (fun L st S k => w_ir dX11_insert_488 rfl k) k) k) k
-- QueryForgeModel.delete()I
theorem dX11_delete_0 : decode cX11_delete 0 = .ok (.aload_n 0, 1) := by decide +kernel
theorem dX11_delete_1 : decode cX11_delete 1 = .ok (.getfield 63, 3) := by decide +kernel
theorem dX11_delete_4 : decode cX11_delete 4 = .ok (.iconst 0, 1) := by decide +kernel
theorem dX11_delete_5 : decode cX11_delete 5 = .ok (.aload_n 0, 1) := by decide +kernel
theorem dX11_delete_6 : decode cX11_delete 6 = .ok (.bipush 50, 2) := by decide +kernel
theorem dX11_delete_8 : decode cX11_delete 8 = .ok (.invokevirtual 181, 3) := by decide +kernel
theorem dX11_delete_11 : decode cX11_delete 11 = .ok (.lastore, 1) := by decide +kernel
theorem dX11_delete_12 : decode cX11_delete 12 = .ok (.aload_n 0, 1) := by decide +kernel
theorem dX11_delete_13 : decode cX11_delete 13 = .ok (.iconst 1, 1) := by decide +kernel
theorem dX11_delete_14 : decode cX11_delete 14 = .ok (.putfield 222, 3) := by decide +kernel
theorem dX11_delete_17 : decode cX11_delete 17 = .ok (.aload_n 0, 1) := by decide +kernel
theorem dX11_delete_18 : decode cX11_delete 18 = .ok (.invokevirtual 262, 3) := by decide +kernel
theorem dX11_delete_21 : decode cX11_delete 21 = .ok (.istore_n 1, 1) := by decide +kernel
theorem dX11_delete_22 : decode cX11_delete 22 = .ok (.aload_n 0, 1) := by decide +kernel
theorem dX11_delete_23 : decode cX11_delete 23 = .ok (.invokevirtual 255, 3) := by decide +kernel
theorem dX11_delete_26 : decode cX11_delete 26 = .ok (.ifCond .ne 5, 3) := by decide +kernel
theorem dX11_delete_29 : decode cX11_delete 29 = .ok (.iconst 0, 1) := by decide +kernel
theorem dX11_delete_30 : decode cX11_delete 30 = .ok (.ireturn, 1) := by decide +kernel
theorem dX11_delete_31 : decode cX11_delete 31 = .ok (.aload_n 0, 1) := by decide +kernel
theorem dX11_delete_32 : decode cX11_delete 32 = .ok (.invokevirtual 259, 3) := by decide +kernel
theorem dX11_delete_35 : decode cX11_delete 35 = .ok (.iload_n 1, 1) := by decide +kernel
theorem dX11_delete_36 : decode cX11_delete 36 = .ok (.ifCond .lt 9, 3) := by decide +kernel
theorem dX11_delete_39 : decode cX11_delete 39 = .ok (.aload_n 0, 1) := by decide +kernel
theorem dX11_delete_40 : decode cX11_delete 40 = .ok (.iload_n 1, 1) := by decide +kernel
theorem dX11_delete_41 : decode cX11_delete 41 = .ok (.invokevirtual 236, 3) := by decide +kernel
theorem dX11_delete_44 : decode cX11_delete 44 = .ok (.istore_n 2, 1) := by decide +kernel
theorem dX11_delete_45 : decode cX11_delete 45 = .ok (.aload_n 0, 1) := by decide +kernel
theorem dX11_delete_46 : decode cX11_delete 46 = .ok (.iload_n 1, 1) := by decide +kernel
theorem dX11_delete_47 : decode cX11_delete 47 = .ok (.invokevirtual 265, 3) := by decide +kernel
theorem dX11_delete_50 : decode cX11_delete 50 = .ok (.aload_n 0, 1) := by decide +kernel
theorem dX11_delete_51 : decode cX11_delete 51 = .ok (.getfield 66, 3) := by decide +kernel
theorem dX11_delete_54 : decode cX11_delete 54 = .ok (.iconst 0, 1) := by decide +kernel
theorem dX11_delete_55 : decode cX11_delete 55 = .ok (.iaload, 1) := by decide +kernel
theorem dX11_delete_56 : decode cX11_delete 56 = .ok (.istore_n 2, 1) := by decide +kernel
theorem dX11_delete_57 : decode cX11_delete 57 = .ok (.iconst 0, 1) := by decide +kernel
theorem dX11_delete_58 : decode cX11_delete 58 = .ok (.istore_n 3, 1) := by decide +kernel
theorem dX11_delete_59 : decode cX11_delete 59 = .ok (.aload_n 0, 1) := by decide +kernel
theorem dX11_delete_60 : decode cX11_delete 60 = .ok (.getfield 219, 3) := by decide +kernel
theorem dX11_delete_63 : decode cX11_delete 63 = .ok (.ifCond .ne 37, 3) := by decide +kernel
theorem dX11_delete_66 : decode cX11_delete 66 = .ok (.iload_n 3, 1) := by decide +kernel
theorem dX11_delete_67 : decode cX11_delete 67 = .ok (.aload_n 0, 1) := by decide +kernel
theorem dX11_delete_68 : decode cX11_delete 68 = .ok (.getfield 54, 3) := by decide +kernel
theorem dX11_delete_71 : decode cX11_delete 71 = .ok (.iload_n 2, 1) := by decide +kernel
theorem dX11_delete_72 : decode cX11_delete 72 = .ok (.iaload, 1) := by decide +kernel
theorem dX11_delete_73 : decode cX11_delete 73 = .ok (.if_icmp .ge 27, 3) := by decide +kernel
theorem dX11_delete_76 : decode cX11_delete 76 = .ok (.aload_n 0, 1) := by decide +kernel
theorem dX11_delete_77 : decode cX11_delete 77 = .ok (.getfield 69, 3) := by decide +kernel
theorem dX11_delete_80 : decode cX11_delete 80 = .ok (.iconst 0, 1) := by decide +kernel
theorem dX11_delete_81 : decode cX11_delete 81 = .ok (.iload_n 3, 1) := by decide +kernel
theorem dX11_delete_82 : decode cX11_delete 82 = .ok (.iastore, 1) := by decide +kernel
theorem dX11_delete_83 : decode cX11_delete 83 = .ok (.aload_n 0, 1) := by decide +kernel
theorem dX11_delete_84 : decode cX11_delete 84 = .ok (.getfield 99, 3) := by decide +kernel
theorem dX11_delete_87 : decode cX11_delete 87 = .ok (.iload_n 3, 1) := by decide +kernel
theorem dX11_delete_88 : decode cX11_delete 88 = .ok (.aload_n 0, 1) := by decide +kernel
theorem dX11_delete_89 : decode cX11_delete 89 = .ok (.iload_n 1, 1) := by decide +kernel
theorem dX11_delete_90 : decode cX11_delete 90 = .ok (.invokevirtual 268, 3) := by decide +kernel
theorem dX11_delete_93 : decode cX11_delete 93 = .ok (.bastore, 1) := by decide +kernel
theorem dX11_delete_94 : decode cX11_delete 94 = .ok (.iinc 3 1, 3) := by decide +kernel
theorem dX11_delete_97 : decode cX11_delete 97 = .ok (.goto (-38), 3) := by decide +kernel
theorem dX11_delete_100 : decode cX11_delete 100 = .ok (.aload_n 0, 1) := by decide +kernel
theorem dX11_delete_101 : decode cX11_delete 101 = .ok (.getfield 219, 3) := by decide +kernel
theorem dX11_delete_104 : decode cX11_delete 104 = .ok (.ifCond .eq 5, 3) := by decide +kernel
theorem dX11_delete_107 : decode cX11_delete 107 = .ok (.iconst 0, 1) := by decide +kernel
theorem dX11_delete_108 : decode cX11_delete 108 = .ok (.ireturn, 1) := by decide +kernel
theorem dX11_delete_109 : decode cX11_delete 109 = .ok (.iconst 0, 1) := by decide +kernel
theorem dX11_delete_110 : decode cX11_delete 110 = .ok (.istore_n 3, 1) := by decide +kernel
theorem dX11_delete_111 : decode cX11_delete 111 = .ok (.iconst 0, 1) := by decide +kernel
theorem dX11_delete_112 : decode cX11_delete 112 = .ok (.istore 4, 2) := by decide +kernel
theorem dX11_delete_114 : decode cX11_delete 114 = .ok (.iload 4, 2) := by decide +kernel
theorem dX11_delete_116 : decode cX11_delete 116 = .ok (.aload_n 0, 1) := by decide +kernel
theorem dX11_delete_117 : decode cX11_delete 117 = .ok (.getfield 54, 3) := by decide +kernel
theorem dX11_delete_120 : decode cX11_delete 120 = .ok (.iload_n 2, 1) := by decide +kernel
theorem dX11_delete_121 : decode cX11_delete 121 = .ok (.iaload, 1) := by decide +kernel
theorem dX11_delete_122 : decode cX11_delete 122 = .ok (.if_icmp .ge 103, 3) := by decide +kernel
theorem dX11_delete_125 : decode cX11_delete 125 = .ok (.aload_n 0, 1) := by decide +kernel
theorem dX11_delete_126 : decode cX11_delete 126 = .ok (.getfield 99, 3) := by decide +kernel
theorem dX11_delete_129 : decode cX11_delete 129 = .ok (.iload 4, 2) := by decide +kernel
theorem dX11_delete_131 : decode cX11_delete 131 = .ok (.baload, 1) := by decide +kernel
theorem dX11_delete_132 : decode cX11_delete 132 = .ok (.ifCond .ne 87, 3) := by decide +kernel
theorem dX11_delete_135 : decode cX11_delete 135 = .ok (.iconst 0, 1) := by decide +kernel
theorem dX11_delete_136 : decode cX11_delete 136 = .ok (.istore 5, 2) := by decide +kernel
theorem dX11_delete_138 : decode cX11_delete 138 = .ok (.iload 5, 2) := by decide +kernel
theorem dX11_delete_140 : decode cX11_delete 140 = .ok (.iconst 4, 1) := by decide +kernel
theorem dX11_delete_141 : decode cX11_delete 141 = .ok (.if_icmp .ge 75, 3) := by decide +kernel
theorem dX11_delete_144 : decode cX11_delete 144 = .ok (.aload_n 0, 1) := by decide +kernel
theorem dX11_delete_145 : decode cX11_delete 145 = .ok (.getfield 57, 3) := by decide +kernel
theorem dX11_delete_148 : decode cX11_delete 148 = .ok (.bipush 96, 2) := by decide +kernel
theorem dX11_delete_150 : decode cX11_delete 150 = .ok (.iload_n 2, 1) := by decide +kernel
theorem dX11_delete_151 : decode cX11_delete 151 = .ok (.imul, 1) := by decide +kernel
theorem dX11_delete_152 : decode cX11_delete 152 = .ok (.iconst 4, 1) := by decide +kernel
theorem dX11_delete_153 : decode cX11_delete 153 = .ok (.iload_n 3, 1) := by decide +kernel
theorem dX11_delete_154 : decode cX11_delete 154 = .ok (.imul, 1) := by decide +kernel
theorem dX11_delete_155 : decode cX11_delete 155 = .ok (.iadd, 1) := by decide +kernel
theorem dX11_delete_156 : decode cX11_delete 156 = .ok (.iload 5, 2) := by decide +kernel
theorem dX11_delete_158 : decode cX11_delete 158 = .ok (.iadd, 1) := by decide +kernel
theorem dX11_delete_159 : decode cX11_delete 159 = .ok (.aload_n 0, 1) := by decide +kernel
theorem dX11_delete_160 : decode cX11_delete 160 = .ok (.getfield 57, 3) := by decide +kernel
theorem dX11_delete_163 : decode cX11_delete 163 = .ok (.bipush 96, 2) := by decide +kernel
theorem dX11_delete_165 : decode cX11_delete 165 = .ok (.iload_n 2, 1) := by decide +kernel
theorem dX11_delete_166 : decode cX11_delete 166 = .ok (.imul, 1) := by decide +kernel
theorem dX11_delete_167 : decode cX11_delete 167 = .ok (.iconst 4, 1) := by decide +kernel
theorem dX11_delete_168 : decode cX11_delete 168 = .ok (.iload 4, 2) := by decide +kernel
theorem dX11_delete_170 : decode cX11_delete 170 = .ok (.imul, 1) := by decide +kernel
theorem dX11_delete_171 : decode cX11_delete 171 = .ok (.iadd, 1) := by decide +kernel
theorem dX11_delete_172 : decode cX11_delete 172 = .ok (.iload 5, 2) := by decide +kernel
theorem dX11_delete_174 : decode cX11_delete 174 = .ok (.iadd, 1) := by decide +kernel
theorem dX11_delete_175 : decode cX11_delete 175 = .ok (.iaload, 1) := by decide +kernel
theorem dX11_delete_176 : decode cX11_delete 176 = .ok (.iastore, 1) := by decide +kernel
theorem dX11_delete_177 : decode cX11_delete 177 = .ok (.aload_n 0, 1) := by decide +kernel
theorem dX11_delete_178 : decode cX11_delete 178 = .ok (.getfield 60, 3) := by decide +kernel
theorem dX11_delete_181 : decode cX11_delete 181 = .ok (.bipush 96, 2) := by decide +kernel
theorem dX11_delete_183 : decode cX11_delete 183 = .ok (.iload_n 2, 1) := by decide +kernel
theorem dX11_delete_184 : decode cX11_delete 184 = .ok (.imul, 1) := by decide +kernel
theorem dX11_delete_185 : decode cX11_delete 185 = .ok (.iconst 4, 1) := by decide +kernel
theorem dX11_delete_186 : decode cX11_delete 186 = .ok (.iload_n 3, 1) := by decide +kernel
theorem dX11_delete_187 : decode cX11_delete 187 = .ok (.imul, 1) := by decide +kernel
theorem dX11_delete_188 : decode cX11_delete 188 = .ok (.iadd, 1) := by decide +kernel
theorem dX11_delete_189 : decode cX11_delete 189 = .ok (.iload 5, 2) := by decide +kernel
theorem dX11_delete_191 : decode cX11_delete 191 = .ok (.iadd, 1) := by decide +kernel
theorem dX11_delete_192 : decode cX11_delete 192 = .ok (.aload_n 0, 1) := by decide +kernel
theorem dX11_delete_193 : decode cX11_delete 193 = .ok (.getfield 60, 3) := by decide +kernel
theorem dX11_delete_196 : decode cX11_delete 196 = .ok (.bipush 96, 2) := by decide +kernel
theorem dX11_delete_198 : decode cX11_delete 198 = .ok (.iload_n 2, 1) := by decide +kernel
theorem dX11_delete_199 : decode cX11_delete 199 = .ok (.imul, 1) := by decide +kernel
theorem dX11_delete_200 : decode cX11_delete 200 = .ok (.iconst 4, 1) := by decide +kernel
theorem dX11_delete_201 : decode cX11_delete 201 = .ok (.iload 4, 2) := by decide +kernel
theorem dX11_delete_203 : decode cX11_delete 203 = .ok (.imul, 1) := by decide +kernel
theorem dX11_delete_204 : decode cX11_delete 204 = .ok (.iadd, 1) := by decide +kernel
theorem dX11_delete_205 : decode cX11_delete 205 = .ok (.iload 5, 2) := by decide +kernel
theorem dX11_delete_207 : decode cX11_delete 207 = .ok (.iadd, 1) := by decide +kernel
theorem dX11_delete_208 : decode cX11_delete 208 = .ok (.baload, 1) := by decide +kernel
theorem dX11_delete_209 : decode cX11_delete 209 = .ok (.bastore, 1) := by decide +kernel
theorem dX11_delete_210 : decode cX11_delete 210 = .ok (.iinc 5 1, 3) := by decide +kernel
theorem dX11_delete_213 : decode cX11_delete 213 = .ok (.goto (-75), 3) := by decide +kernel
theorem dX11_delete_216 : decode cX11_delete 216 = .ok (.iinc 3 1, 3) := by decide +kernel
theorem dX11_delete_219 : decode cX11_delete 219 = .ok (.iinc 4 1, 3) := by decide +kernel
theorem dX11_delete_222 : decode cX11_delete 222 = .ok (.goto (-108), 3) := by decide +kernel
theorem dX11_delete_225 : decode cX11_delete 225 = .ok (.aload_n 0, 1) := by decide +kernel
theorem dX11_delete_226 : decode cX11_delete 226 = .ok (.getfield 54, 3) := by decide +kernel
theorem dX11_delete_229 : decode cX11_delete 229 = .ok (.iload_n 2, 1) := by decide +kernel
theorem dX11_delete_230 : decode cX11_delete 230 = .ok (.iaload, 1) := by decide +kernel
theorem dX11_delete_231 : decode cX11_delete 231 = .ok (.iload_n 3, 1) := by decide +kernel
theorem dX11_delete_232 : decode cX11_delete 232 = .ok (.isub, 1) := by decide +kernel
theorem dX11_delete_233 : decode cX11_delete 233 = .ok (.istore 4, 2) := by decide +kernel
theorem dX11_delete_235 : decode cX11_delete 235 = .ok (.aload_n 0, 1) := by decide +kernel
theorem dX11_delete_236 : decode cX11_delete 236 = .ok (.getfield 54, 3) := by decide +kernel
theorem dX11_delete_239 : decode cX11_delete 239 = .ok (.iload_n 2, 1) := by decide +kernel
theorem dX11_delete_240 : decode cX11_delete 240 = .ok (.iload_n 3, 1) := by decide +kernel
theorem dX11_delete_241 : decode cX11_delete 241 = .ok (.iastore, 1) := by decide +kernel
theorem dX11_delete_242 : decode cX11_delete 242 = .ok (.iload 4, 2) := by decide +kernel
theorem dX11_delete_244 : decode cX11_delete 244 = .ok (.ireturn, 1) := by decide +kernel
theorem b_X11_delete_0 {h : Nat} {L : LVs} {st : List AV} {S : ST} {Q : Option AV → ST → Prop} (k : o_al L st S (fun L st S => o_get L st S (fun L st S => o_c L st S (fun L st S => o_al L st S (fun L st S => o_c L st S (fun L st S => V MX11_delete h 8 L st S Q) (nI 50)) 0) (nI 0)) 11 25 (3, 57, 0)) 0) : V MX11_delete h 0 L st S Q :=
  v_aload_n dX11_delete_0 rfl (fun L st S k => v_get dX11_delete_1 rfl iX11 LY_11 rfl (by decide) rfl fl_X11_63 (fun L st S k => v_iconst dX11_delete_4 (by decide) (fun L st S k => v_aload_n dX11_delete_5 rfl (fun L st S k => v_bipush dX11_delete_6 (by decide) (fun L st S k => k) k) k) k) k) k
theorem k_X11_delete_8 {h : Nat} {L : LVs} {st : List AV} {S : ST} {Q Q' : Option AV → ST → Prop} {j : Nat} {a0 : AV} (hC : Ct MX11_take h [vR 11 j, a0] S Q') (k : ∀ (r : Option AV) (S' : ST), Q' r S' → V MX11_delete (h + 1) 11 L (r.toList ++ st) S' Q) (hj : j < NI 11) (hw : wid st ≤ 8) : V MX11_delete (h + 1) 8 L (a0 :: vR 11 j :: st) S Q :=
  v_callV (M' := MX11_take) (c := 11) (As := [a0]) dX11_delete_8 ml_X11_181 im_X11_take se_X11_take in_X11 cd_X11_take rfl LY_11 np_X11_take (by decide) hw hj hC k
theorem b_X11_delete_11 {h : Nat} {L : LVs} {st : List AV} {S : ST} {Q : Option AV → ST → Prop} (k : o_last L st S (fun L st S => o_al L st S (fun L st S => o_c L st S (fun L st S => o_puti L st S (fun L st S => o_al L st S (fun L st S => V MX11_delete h 18 L st S Q) 0) 11 24) (nI 1)) 0)) : V MX11_delete h 11 L st S Q :=
  v_lastore dX11_delete_11 (fun L st S k => v_aload_n dX11_delete_12 rfl (fun L st S k => v_iconst dX11_delete_13 (by decide) (fun L st S k => v_puti dX11_delete_14 rfl iX11 tyX11_ok nmX11 LY_11 rfl (by decide) rfl fl_X11_222 rfl rfl (fun L st S k => v_aload_n dX11_delete_17 rfl (fun L st S k => k) k) k) k) k) k
theorem k_X11_delete_18 {h : Nat} {L : LVs} {st : List AV} {S : ST} {Q Q' : Option AV → ST → Prop} {j : Nat} (hC : Ct MX11_where h [vR 11 j] S Q') (k : ∀ (r : Option AV) (S' : ST), Q' r S' → V MX11_delete (h + 1) 21 L (r.toList ++ st) S' Q) (hj : j < NI 11) (hw : wid st ≤ 8) : V MX11_delete (h + 1) 18 L (vR 11 j :: st) S Q :=
  v_callV (M' := MX11_where) (c := 11) (As := []) dX11_delete_18 ml_X11_262 im_X11_where se_X11_where in_X11 cd_X11_where rfl LY_11 np_X11_where (by decide) hw hj hC k
theorem b_X11_delete_21 {h : Nat} {L : LVs} {st : List AV} {S : ST} {Q : Option AV → ST → Prop} (k : o_is L st S (fun L st S => o_al L st S (fun L st S => V MX11_delete h 23 L st S Q) 0) 1) : V MX11_delete h 21 L st S Q :=
  v_istore_n dX11_delete_21 rfl (by decide) (fun L st S k => v_aload_n dX11_delete_22 rfl (fun L st S k => k) k) k
theorem k_X11_delete_23 {h : Nat} {L : LVs} {st : List AV} {S : ST} {Q Q' : Option AV → ST → Prop} {j : Nat} (hC : Ct MX11_ends h [vR 11 j] S Q') (k : ∀ (r : Option AV) (S' : ST), Q' r S' → V MX11_delete (h + 1) 26 L (r.toList ++ st) S' Q) (hj : j < NI 11) (hw : wid st ≤ 8) : V MX11_delete (h + 1) 23 L (vR 11 j :: st) S Q :=
  v_callV (M' := MX11_ends) (c := 11) (As := []) dX11_delete_23 ml_X11_255 im_X11_ends se_X11_ends in_X11 cd_X11_ends rfl LY_11 np_X11_ends (by decide) hw hj hC k
theorem b_X11_delete_26 {h : Nat} {L : LVs} {st : List AV} {S : ST} {Q : Option AV → ST → Prop} (k : t_1 L st S (fun x => x = nI 0) (fun L st S => V MX11_delete h 29 L st S Q) (fun L st S => V MX11_delete h 31 L st S Q)) : V MX11_delete h 26 L st S Q :=
  w_if_ne dX11_delete_26 (by decide) rfl k
theorem b_X11_delete_29 {h : Nat} {L : LVs} {st : List AV} {S : ST} {Q : Option AV → ST → Prop} (k : o_c L st S (fun L st S => t_ir st S Q) (nI 0)) : V MX11_delete h 29 L st S Q :=
  v_iconst dX11_delete_29 (by decide) (fun L st S k => w_ir dX11_delete_30 rfl k) k
theorem b_X11_delete_31 {h : Nat} {L : LVs} {st : List AV} {S : ST} {Q : Option AV → ST → Prop} (k : o_al L st S (fun L st S => V MX11_delete h 32 L st S Q) 0) : V MX11_delete h 31 L st S Q :=
  v_aload_n dX11_delete_31 rfl (fun L st S k => k) k
theorem k_X11_delete_32 {h : Nat} {L : LVs} {st : List AV} {S : ST} {Q Q' : Option AV → ST → Prop} {j : Nat} (hC : Ct MX11_lookForTables h [vR 11 j] S Q') (k : ∀ (r : Option AV) (S' : ST), Q' r S' → V MX11_delete (h + 1) 35 L (r.toList ++ st) S' Q) (hj : j < NI 11) (hw : wid st ≤ 8) : V MX11_delete (h + 1) 32 L (vR 11 j :: st) S Q :=
  v_callV (M' := MX11_lookForTables) (c := 11) (As := []) dX11_delete_32 ml_X11_259 im_X11_lookForTables se_X11_lookForTables in_X11 cd_X11_lookForTables rfl LY_11 np_X11_lookForTables (by decide) hw hj hC k
theorem b_X11_delete_35 {h : Nat} {L : LVs} {st : List AV} {S : ST} {Q : Option AV → ST → Prop} (k : o_il L st S (fun L st S => t_1 L st S (fun x => x < nI 0) (fun L st S => V MX11_delete h 45 L st S Q) (fun L st S => V MX11_delete h 39 L st S Q)) 1) : V MX11_delete h 35 L st S Q :=
  v_iload_n dX11_delete_35 rfl (fun L st S k => w_if_lt dX11_delete_36 (by decide) rfl k) k
theorem b_X11_delete_39 {h : Nat} {L : LVs} {st : List AV} {S : ST} {Q : Option AV → ST → Prop} (k : o_al L st S (fun L st S => o_il L st S (fun L st S => V MX11_delete h 41 L st S Q) 1) 0) : V MX11_delete h 39 L st S Q :=
  v_aload_n dX11_delete_39 rfl (fun L st S k => v_iload_n dX11_delete_40 rfl (fun L st S k => k) k) k
theorem k_X11_delete_41 {h : Nat} {L : LVs} {st : List AV} {S : ST} {Q Q' : Option AV → ST → Prop} {j : Nat} {a0 : AV} (hC : Ct MX11_check h [vR 11 j, a0] S Q') (k : ∀ (r : Option AV) (S' : ST), Q' r S' → V MX11_delete (h + 1) 44 L (r.toList ++ st) S' Q) (hj : j < NI 11) (hw : wid st ≤ 8) : V MX11_delete (h + 1) 41 L (a0 :: vR 11 j :: st) S Q :=
  v_callV (M' := MX11_check) (c := 11) (As := [a0]) dX11_delete_41 ml_X11_236 im_X11_check se_X11_check in_X11 cd_X11_check rfl LY_11 np_X11_check (by decide) hw hj hC k
theorem b_X11_delete_44 {h : Nat} {L : LVs} {st : List AV} {S : ST} {Q : Option AV → ST → Prop} (k : o_is L st S (fun L st S => V MX11_delete h 45 L st S Q) 2) : V MX11_delete h 44 L st S Q :=
  v_istore_n dX11_delete_44 rfl (by decide) (fun L st S k => k) k
theorem b_X11_delete_45 {h : Nat} {L : LVs} {st : List AV} {S : ST} {Q : Option AV → ST → Prop} (k : o_al L st S (fun L st S => o_il L st S (fun L st S => V MX11_delete h 47 L st S Q) 1) 0) : V MX11_delete h 45 L st S Q :=
  v_aload_n dX11_delete_45 rfl (fun L st S k => v_iload_n dX11_delete_46 rfl (fun L st S k => k) k) k
theorem k_X11_delete_47 {h : Nat} {L : LVs} {st : List AV} {S : ST} {Q Q' : Option AV → ST → Prop} {j : Nat} {a0 : AV} (hC : Ct MX11_checkDeep h [vR 11 j, a0] S Q') (k : ∀ (r : Option AV) (S' : ST), Q' r S' → V MX11_delete (h + 1) 50 L (r.toList ++ st) S' Q) (hj : j < NI 11) (hw : wid st ≤ 8) : V MX11_delete (h + 1) 47 L (a0 :: vR 11 j :: st) S Q :=
  v_callV (M' := MX11_checkDeep) (c := 11) (As := [a0]) dX11_delete_47 ml_X11_265 im_X11_checkDeep se_X11_checkDeep in_X11 cd_X11_checkDeep rfl LY_11 np_X11_checkDeep (by decide) hw hj hC k
theorem b_X11_delete_50 {h : Nat} {L : LVs} {st : List AV} {S : ST} {Q : Option AV → ST → Prop} (k : o_al L st S (fun L st S => o_get L st S (fun L st S => o_c L st S (fun L st S => o_iald L st S (fun L st S => o_is L st S (fun L st S => o_c L st S (fun L st S => o_is L st S (fun L st S => V MX11_delete h 59 L st S Q) 3) (nI 0)) 2)) (nI 0)) 11 26 (3, 58, 0)) 0) : V MX11_delete h 50 L st S Q :=
  v_aload_n dX11_delete_50 rfl (fun L st S k => v_get dX11_delete_51 rfl iX11 LY_11 rfl (by decide) rfl fl_X11_66 (fun L st S k => v_iconst dX11_delete_54 (by decide) (fun L st S k => v_iaload dX11_delete_55 (fun L st S k => v_istore_n dX11_delete_56 rfl (by decide) (fun L st S k => v_iconst dX11_delete_57 (by decide) (fun L st S k => v_istore_n dX11_delete_58 rfl (by decide) (fun L st S k => k) k) k) k) k) k) k) k
theorem b_X11_delete_59 {h : Nat} {L : LVs} {st : List AV} {S : ST} {Q : Option AV → ST → Prop} (k : o_al L st S (fun L st S => o_get L st S (fun L st S => t_1 L st S (fun x => x = nI 0) (fun L st S => V MX11_delete h 66 L st S Q) (fun L st S => V MX11_delete h 100 L st S Q)) 11 28 (0, 0, 0)) 0) : V MX11_delete h 59 L st S Q :=
  v_aload_n dX11_delete_59 rfl (fun L st S k => v_get dX11_delete_60 rfl iX11 LY_11 rfl (by decide) rfl fl_X11_219 (fun L st S k => w_if_ne dX11_delete_63 (by decide) rfl k) k) k
theorem b_X11_delete_66 {h : Nat} {L : LVs} {st : List AV} {S : ST} {Q : Option AV → ST → Prop} (k : o_il L st S (fun L st S => o_al L st S (fun L st S => o_get L st S (fun L st S => o_il L st S (fun L st S => o_iald L st S (fun L st S => t_2 L st S (fun x y => y ≤ x) (fun L st S => V MX11_delete h 100 L st S Q) (fun L st S => V MX11_delete h 76 L st S Q))) 2) 11 21 (3, 54, 0)) 0) 3) : V MX11_delete h 66 L st S Q :=
  v_iload_n dX11_delete_66 rfl (fun L st S k => v_aload_n dX11_delete_67 rfl (fun L st S k => v_get dX11_delete_68 rfl iX11 LY_11 rfl (by decide) rfl fl_X11_54 (fun L st S k => v_iload_n dX11_delete_71 rfl (fun L st S k => v_iaload dX11_delete_72 (fun L st S k => w_icmp_ge dX11_delete_73 (by decide) rfl k) k) k) k) k) k
theorem b_X11_delete_76 {h : Nat} {L : LVs} {st : List AV} {S : ST} {Q : Option AV → ST → Prop} (k : o_al L st S (fun L st S => o_get L st S (fun L st S => o_c L st S (fun L st S => o_il L st S (fun L st S => o_iast L st S (fun L st S => o_al L st S (fun L st S => o_get L st S (fun L st S => o_il L st S (fun L st S => o_al L st S (fun L st S => o_il L st S (fun L st S => V MX11_delete h 90 L st S Q) 1) 0) 3) 11 43 (3, 69, 0)) 0)) 3) (nI 0)) 11 27 (3, 59, 0)) 0) : V MX11_delete h 76 L st S Q :=
  v_aload_n dX11_delete_76 rfl (fun L st S k => v_get dX11_delete_77 rfl iX11 LY_11 rfl (by decide) rfl fl_X11_69 (fun L st S k => v_iconst dX11_delete_80 (by decide) (fun L st S k => v_iload_n dX11_delete_81 rfl (fun L st S k => v_iastore dX11_delete_82 (fun L st S k => v_aload_n dX11_delete_83 rfl (fun L st S k => v_get dX11_delete_84 rfl iX11 LY_11 rfl (by decide) rfl fl_X11_99 (fun L st S k => v_iload_n dX11_delete_87 rfl (fun L st S k => v_aload_n dX11_delete_88 rfl (fun L st S k => v_iload_n dX11_delete_89 rfl (fun L st S k => k) k) k) k) k) k) k) k) k) k) k
theorem k_X11_delete_90 {h : Nat} {L : LVs} {st : List AV} {S : ST} {Q Q' : Option AV → ST → Prop} {j : Nat} {a0 : AV} (hC : Ct MX11_holds h [vR 11 j, a0] S Q') (k : ∀ (r : Option AV) (S' : ST), Q' r S' → V MX11_delete (h + 1) 93 L (r.toList ++ st) S' Q) (hj : j < NI 11) (hw : wid st ≤ 8) : V MX11_delete (h + 1) 90 L (a0 :: vR 11 j :: st) S Q :=
  v_callV (M' := MX11_holds) (c := 11) (As := [a0]) dX11_delete_90 ml_X11_268 im_X11_holds se_X11_holds in_X11 cd_X11_holds rfl LY_11 np_X11_holds (by decide) hw hj hC k
theorem b_X11_delete_93 {h : Nat} {L : LVs} {st : List AV} {S : ST} {Q : Option AV → ST → Prop} (k : o_zast L st S (fun L st S => o_inc L st S (fun L st S => V MX11_delete h 59 L st S Q) 3 (nI 1))) : V MX11_delete h 93 L st S Q :=
  v_zastore dX11_delete_93 (fun L st S k => v_iinc dX11_delete_94 (by decide) (by decide) (fun L st S k => v_goto dX11_delete_97 (by decide) k) k) k
theorem b_X11_delete_100 {h : Nat} {L : LVs} {st : List AV} {S : ST} {Q : Option AV → ST → Prop} (k : o_al L st S (fun L st S => o_get L st S (fun L st S => t_1 L st S (fun x => x = nI 0) (fun L st S => V MX11_delete h 109 L st S Q) (fun L st S => V MX11_delete h 107 L st S Q)) 11 28 (0, 0, 0)) 0) : V MX11_delete h 100 L st S Q :=
  v_aload_n dX11_delete_100 rfl (fun L st S k => v_get dX11_delete_101 rfl iX11 LY_11 rfl (by decide) rfl fl_X11_219 (fun L st S k => w_if_eq dX11_delete_104 (by decide) rfl k) k) k
theorem b_X11_delete_107 {h : Nat} {L : LVs} {st : List AV} {S : ST} {Q : Option AV → ST → Prop} (k : o_c L st S (fun L st S => t_ir st S Q) (nI 0)) : V MX11_delete h 107 L st S Q :=
  v_iconst dX11_delete_107 (by decide) (fun L st S k => w_ir dX11_delete_108 rfl k) k
theorem b_X11_delete_109 {h : Nat} {L : LVs} {st : List AV} {S : ST} {Q : Option AV → ST → Prop} (k : o_c L st S (fun L st S => o_is L st S (fun L st S => o_c L st S (fun L st S => o_is L st S (fun L st S => V MX11_delete h 114 L st S Q) 4) (nI 0)) 3) (nI 0)) : V MX11_delete h 109 L st S Q :=
  v_iconst dX11_delete_109 (by decide) (fun L st S k => v_istore_n dX11_delete_110 rfl (by decide) (fun L st S k => v_iconst dX11_delete_111 (by decide) (fun L st S k => v_istore dX11_delete_112 (by decide) (fun L st S k => k) k) k) k) k
theorem b_X11_delete_114 {h : Nat} {L : LVs} {st : List AV} {S : ST} {Q : Option AV → ST → Prop} (k : o_il L st S (fun L st S => o_al L st S (fun L st S => o_get L st S (fun L st S => o_il L st S (fun L st S => o_iald L st S (fun L st S => t_2 L st S (fun x y => y ≤ x) (fun L st S => V MX11_delete h 225 L st S Q) (fun L st S => V MX11_delete h 125 L st S Q))) 2) 11 21 (3, 54, 0)) 0) 4) : V MX11_delete h 114 L st S Q :=
  v_iload dX11_delete_114 (fun L st S k => v_aload_n dX11_delete_116 rfl (fun L st S k => v_get dX11_delete_117 rfl iX11 LY_11 rfl (by decide) rfl fl_X11_54 (fun L st S k => v_iload_n dX11_delete_120 rfl (fun L st S k => v_iaload dX11_delete_121 (fun L st S k => w_icmp_ge dX11_delete_122 (by decide) rfl k) k) k) k) k) k
theorem b_X11_delete_125 {h : Nat} {L : LVs} {st : List AV} {S : ST} {Q : Option AV → ST → Prop} (k : o_al L st S (fun L st S => o_get L st S (fun L st S => o_il L st S (fun L st S => o_zald L st S (fun L st S => t_1 L st S (fun x => x = nI 0) (fun L st S => V MX11_delete h 135 L st S Q) (fun L st S => V MX11_delete h 219 L st S Q))) 4) 11 43 (3, 69, 0)) 0) : V MX11_delete h 125 L st S Q :=
  v_aload_n dX11_delete_125 rfl (fun L st S k => v_get dX11_delete_126 rfl iX11 LY_11 rfl (by decide) rfl fl_X11_99 (fun L st S k => v_iload dX11_delete_129 (fun L st S k => v_zaload dX11_delete_131 (fun L st S k => w_if_ne dX11_delete_132 (by decide) rfl k) k) k) k) k
theorem b_X11_delete_135 {h : Nat} {L : LVs} {st : List AV} {S : ST} {Q : Option AV → ST → Prop} (k : o_c L st S (fun L st S => o_is L st S (fun L st S => V MX11_delete h 138 L st S Q) 5) (nI 0)) : V MX11_delete h 135 L st S Q :=
  v_iconst dX11_delete_135 (by decide) (fun L st S k => v_istore dX11_delete_136 (by decide) (fun L st S k => k) k) k
theorem b_X11_delete_138 {h : Nat} {L : LVs} {st : List AV} {S : ST} {Q : Option AV → ST → Prop} (k : o_il L st S (fun L st S => o_c L st S (fun L st S => t_2 L st S (fun x y => y ≤ x) (fun L st S => V MX11_delete h 216 L st S Q) (fun L st S => V MX11_delete h 144 L st S Q)) (nI 4)) 5) : V MX11_delete h 138 L st S Q :=
  v_iload dX11_delete_138 (fun L st S k => v_iconst dX11_delete_140 (by decide) (fun L st S k => w_icmp_ge dX11_delete_141 (by decide) rfl k) k) k
theorem b_X11_delete_144 {h : Nat} {L : LVs} {st : List AV} {S : ST} {Q : Option AV → ST → Prop} (k : o_al L st S (fun L st S => o_get L st S (fun L st S => o_c L st S (fun L st S => o_il L st S (fun L st S => o_imul L st S (fun L st S => o_c L st S (fun L st S => o_il L st S (fun L st S => o_imul L st S (fun L st S => o_iadd L st S (fun L st S => o_il L st S (fun L st S => o_iadd L st S (fun L st S => o_al L st S (fun L st S => o_get L st S (fun L st S => o_c L st S (fun L st S => o_il L st S (fun L st S => o_imul L st S (fun L st S => o_c L st S (fun L st S => o_il L st S (fun L st S => o_imul L st S (fun L st S => o_iadd L st S (fun L st S => o_il L st S (fun L st S => o_iadd L st S (fun L st S => o_iald L st S (fun L st S => o_iast L st S (fun L st S => o_al L st S (fun L st S => o_get L st S (fun L st S => o_c L st S (fun L st S => o_il L st S (fun L st S => o_imul L st S (fun L st S => o_c L st S (fun L st S => o_il L st S (fun L st S => o_imul L st S (fun L st S => o_iadd L st S (fun L st S => o_il L st S (fun L st S => o_iadd L st S (fun L st S => o_al L st S (fun L st S => o_get L st S (fun L st S => o_c L st S (fun L st S => o_il L st S (fun L st S => o_imul L st S (fun L st S => o_c L st S (fun L st S => o_il L st S (fun L st S => o_imul L st S (fun L st S => o_iadd L st S (fun L st S => o_il L st S (fun L st S => o_iadd L st S (fun L st S => o_zald L st S (fun L st S => o_zast L st S (fun L st S => o_inc L st S (fun L st S => V MX11_delete h 138 L st S Q) 5 (nI 1))))) 5))) 4) (nI 4))) 2) (nI 96)) 11 23 (3, 56, 0)) 0)) 5))) 3) (nI 4))) 2) (nI 96)) 11 23 (3, 56, 0)) 0)))) 5))) 4) (nI 4))) 2) (nI 96)) 11 22 (3, 55, 0)) 0)) 5))) 3) (nI 4))) 2) (nI 96)) 11 22 (3, 55, 0)) 0) : V MX11_delete h 144 L st S Q :=
  v_aload_n dX11_delete_144 rfl (fun L st S k => v_get dX11_delete_145 rfl iX11 LY_11 rfl (by decide) rfl fl_X11_57 (fun L st S k => v_bipush dX11_delete_148 (by decide) (fun L st S k => v_iload_n dX11_delete_150 rfl (fun L st S k => v_imul dX11_delete_151 (fun L st S k => v_iconst dX11_delete_152 (by decide) (fun L st S k => v_iload_n dX11_delete_153 rfl (fun L st S k => v_imul dX11_delete_154 (fun L st S k => v_iadd dX11_delete_155 (fun L st S k => v_iload dX11_delete_156 (fun L st S k => v_iadd dX11_delete_158 (fun L st S k => v_aload_n dX11_delete_159 rfl (fun L st S k => v_get dX11_delete_160 rfl iX11 LY_11 rfl (by decide) rfl fl_X11_57 (fun L st S k => v_bipush dX11_delete_163 (by decide) (fun L st S k => v_iload_n dX11_delete_165 rfl (fun L st S k => v_imul dX11_delete_166 (fun L st S k => v_iconst dX11_delete_167 (by decide) (fun L st S k => v_iload dX11_delete_168 (fun L st S k => v_imul dX11_delete_170 (fun L st S k => v_iadd dX11_delete_171 (fun L st S k => v_iload dX11_delete_172 (fun L st S k => v_iadd dX11_delete_174 (fun L st S k => v_iaload dX11_delete_175 (fun L st S k => v_iastore dX11_delete_176 (fun L st S k => v_aload_n dX11_delete_177 rfl (fun L st S k => v_get dX11_delete_178 rfl iX11 LY_11 rfl (by decide) rfl fl_X11_60 (fun L st S k => v_bipush dX11_delete_181 (by decide) (fun L st S k => v_iload_n dX11_delete_183 rfl (fun L st S k => v_imul dX11_delete_184 (fun L st S k => v_iconst dX11_delete_185 (by decide) (fun L st S k => v_iload_n dX11_delete_186 rfl (fun L st S k => v_imul dX11_delete_187 (fun L st S k => v_iadd dX11_delete_188 (fun L st S k => v_iload dX11_delete_189 (fun L st S k => v_iadd dX11_delete_191 (fun L st S k => v_aload_n dX11_delete_192 rfl (fun L st S k => v_get dX11_delete_193 rfl iX11 LY_11 rfl (by decide) rfl fl_X11_60 (fun L st S k => v_bipush dX11_delete_196 (by decide) (fun L st S k => v_iload_n dX11_delete_198 rfl (fun L st S k => v_imul dX11_delete_199 (fun L st S k => v_iconst dX11_delete_200 (by decide) (fun L st S k => v_iload dX11_delete_201 (fun L st S k => v_imul dX11_delete_203 (fun L st S k => v_iadd dX11_delete_204 (fun L st S k => v_iload dX11_delete_205 (fun L st S k => v_iadd dX11_delete_207 (fun L st S k => v_zaload dX11_delete_208 (fun L st S k => v_zastore dX11_delete_209 (fun L st S k => v_iinc dX11_delete_210 (by decide) (by decide) (fun L st S k => v_goto dX11_delete_213 (by decide) k) k) k) k) k) k) k) k) k) k) k) k) k) k) k) k) k) k) k) k) k) k) k) k) k) k) k) k) k) k) k) k) k) k) k) k) k) k) k) k) k) k) k) k) k) k) k) k) k) k
theorem b_X11_delete_216 {h : Nat} {L : LVs} {st : List AV} {S : ST} {Q : Option AV → ST → Prop} (k : o_inc L st S (fun L st S => V MX11_delete h 219 L st S Q) 3 (nI 1)) : V MX11_delete h 216 L st S Q :=
  v_iinc dX11_delete_216 (by decide) (by decide) (fun L st S k => k) k
theorem b_X11_delete_219 {h : Nat} {L : LVs} {st : List AV} {S : ST} {Q : Option AV → ST → Prop} (k : o_inc L st S (fun L st S => V MX11_delete h 114 L st S Q) 4 (nI 1)) : V MX11_delete h 219 L st S Q :=
  v_iinc dX11_delete_219 (by decide) (by decide) (fun L st S k => v_goto dX11_delete_222 (by decide) k) k
theorem b_X11_delete_225 {h : Nat} {L : LVs} {st : List AV} {S : ST} {Q : Option AV → ST → Prop} (k : o_al L st S (fun L st S => o_get L st S (fun L st S => o_il L st S (fun L st S => o_iald L st S (fun L st S => o_il L st S (fun L st S => o_isub L st S (fun L st S => o_is L st S (fun L st S => o_al L st S (fun L st S => o_get L st S (fun L st S => o_il L st S (fun L st S => o_il L st S (fun L st S => o_iast L st S (fun L st S => o_il L st S (fun L st S => t_ir st S Q) 4)) 3) 2) 11 21 (3, 54, 0)) 0) 4)) 3)) 2) 11 21 (3, 54, 0)) 0) : V MX11_delete h 225 L st S Q :=
  v_aload_n dX11_delete_225 rfl (fun L st S k => v_get dX11_delete_226 rfl iX11 LY_11 rfl (by decide) rfl fl_X11_54 (fun L st S k => v_iload_n dX11_delete_229 rfl (fun L st S k => v_iaload dX11_delete_230 (fun L st S k => v_iload_n dX11_delete_231 rfl (fun L st S k => v_isub dX11_delete_232 (fun L st S k => v_istore dX11_delete_233 (by decide) (fun L st S k => v_aload_n dX11_delete_235 rfl (fun L st S k => v_get dX11_delete_236 rfl iX11 LY_11 rfl (by decide) rfl fl_X11_54 (fun L st S k => v_iload_n dX11_delete_239 rfl (fun L st S k => v_iload_n dX11_delete_240 rfl (fun L st S k => v_iastore dX11_delete_241 (fun L st S k => v_iload dX11_delete_242 (fun L st S k => w_ir dX11_delete_244 rfl k) k) k) k) k) k) k) k) k) k) k) k) k) k
-- QueryForgeModel.update()I
theorem dX11_update_0 : decode cX11_update 0 = .ok (.aload_n 0, 1) := by decide +kernel
theorem dX11_update_1 : decode cX11_update 1 = .ok (.getfield 63, 3) := by decide +kernel
theorem dX11_update_4 : decode cX11_update 4 = .ok (.iconst 0, 1) := by decide +kernel
theorem dX11_update_5 : decode cX11_update 5 = .ok (.aload_n 0, 1) := by decide +kernel
theorem dX11_update_6 : decode cX11_update 6 = .ok (.bipush 50, 2) := by decide +kernel
theorem dX11_update_8 : decode cX11_update 8 = .ok (.invokevirtual 181, 3) := by decide +kernel
theorem dX11_update_11 : decode cX11_update 11 = .ok (.lastore, 1) := by decide +kernel
theorem dX11_update_12 : decode cX11_update 12 = .ok (.aload_n 0, 1) := by decide +kernel
theorem dX11_update_13 : decode cX11_update 13 = .ok (.iconst 1, 1) := by decide +kernel
theorem dX11_update_14 : decode cX11_update 14 = .ok (.putfield 222, 3) := by decide +kernel
theorem dX11_update_17 : decode cX11_update 17 = .ok (.aload_n 0, 1) := by decide +kernel
theorem dX11_update_18 : decode cX11_update 18 = .ok (.iconst 4, 1) := by decide +kernel
theorem dX11_update_19 : decode cX11_update 19 = .ok (.invokevirtual 181, 3) := by decide +kernel
theorem dX11_update_22 : decode cX11_update 22 = .ok (.lstore_n 1, 1) := by decide +kernel
theorem dX11_update_23 : decode cX11_update 23 = .ok (.aload_n 0, 1) := by decide +kernel
theorem dX11_update_24 : decode cX11_update 24 = .ok (.bipush 61, 2) := by decide +kernel
theorem dX11_update_26 : decode cX11_update 26 = .ok (.iconst (-1), 1) := by decide +kernel
theorem dX11_update_27 : decode cX11_update 27 = .ok (.iconst (-1), 1) := by decide +kernel
theorem dX11_update_28 : decode cX11_update 28 = .ok (.aload_n 0, 1) := by decide +kernel
theorem dX11_update_29 : decode cX11_update 29 = .ok (.bipush 50, 2) := by decide +kernel
theorem dX11_update_31 : decode cX11_update 31 = .ok (.invokevirtual 181, 3) := by decide +kernel
theorem dX11_update_34 : decode cX11_update 34 = .ok (.invokevirtual 185, 3) := by decide +kernel
theorem dX11_update_37 : decode cX11_update 37 = .ok (.istore_n 3, 1) := by decide +kernel
theorem dX11_update_38 : decode cX11_update 38 = .ok (.aload_n 0, 1) := by decide +kernel
theorem dX11_update_39 : decode cX11_update 39 = .ok (.bipush 40, 2) := by decide +kernel
theorem dX11_update_41 : decode cX11_update 41 = .ok (.invokevirtual 181, 3) := by decide +kernel
theorem dX11_update_44 : decode cX11_update 44 = .ok (.lstore_n 1, 1) := by decide +kernel
theorem dX11_update_45 : decode cX11_update 45 = .ok (.aload_n 0, 1) := by decide +kernel
theorem dX11_update_46 : decode cX11_update 46 = .ok (.invokevirtual 198, 3) := by decide +kernel
theorem dX11_update_49 : decode cX11_update 49 = .ok (.istore 4, 2) := by decide +kernel
theorem dX11_update_51 : decode cX11_update 51 = .ok (.aload_n 0, 1) := by decide +kernel
theorem dX11_update_52 : decode cX11_update 52 = .ok (.invokevirtual 262, 3) := by decide +kernel
theorem dX11_update_55 : decode cX11_update 55 = .ok (.istore 5, 2) := by decide +kernel
theorem dX11_update_57 : decode cX11_update 57 = .ok (.aload_n 0, 1) := by decide +kernel
theorem dX11_update_58 : decode cX11_update 58 = .ok (.invokevirtual 255, 3) := by decide +kernel
theorem dX11_update_61 : decode cX11_update 61 = .ok (.ifCond .ne 5, 3) := by decide +kernel
theorem dX11_update_64 : decode cX11_update 64 = .ok (.iconst 0, 1) := by decide +kernel
theorem dX11_update_65 : decode cX11_update 65 = .ok (.ireturn, 1) := by decide +kernel
theorem dX11_update_66 : decode cX11_update 66 = .ok (.aload_n 0, 1) := by decide +kernel
theorem dX11_update_67 : decode cX11_update 67 = .ok (.invokevirtual 259, 3) := by decide +kernel
theorem dX11_update_70 : decode cX11_update 70 = .ok (.aload_n 0, 1) := by decide +kernel
theorem dX11_update_71 : decode cX11_update 71 = .ok (.iload_n 3, 1) := by decide +kernel
theorem dX11_update_72 : decode cX11_update 72 = .ok (.invokevirtual 236, 3) := by decide +kernel
theorem dX11_update_75 : decode cX11_update 75 = .ok (.istore 6, 2) := by decide +kernel
theorem dX11_update_77 : decode cX11_update 77 = .ok (.aload_n 0, 1) := by decide +kernel
theorem dX11_update_78 : decode cX11_update 78 = .ok (.iload 4, 2) := by decide +kernel
theorem dX11_update_80 : decode cX11_update 80 = .ok (.invokevirtual 236, 3) := by decide +kernel
theorem dX11_update_83 : decode cX11_update 83 = .ok (.istore 7, 2) := by decide +kernel
theorem dX11_update_85 : decode cX11_update 85 = .ok (.aload_n 0, 1) := by decide +kernel
theorem dX11_update_86 : decode cX11_update 86 = .ok (.getfield 219, 3) := by decide +kernel
theorem dX11_update_89 : decode cX11_update 89 = .ok (.ifCond .ne 19, 3) := by decide +kernel
theorem dX11_update_92 : decode cX11_update 92 = .ok (.iload 6, 2) := by decide +kernel
theorem dX11_update_94 : decode cX11_update 94 = .ok (.iload 7, 2) := by decide +kernel
theorem dX11_update_96 : decode cX11_update 96 = .ok (.iadd, 1) := by decide +kernel
theorem dX11_update_97 : decode cX11_update 97 = .ok (.iconst 1, 1) := by decide +kernel
theorem dX11_update_98 : decode cX11_update 98 = .ok (.if_icmp .ne 10, 3) := by decide +kernel
theorem dX11_update_101 : decode cX11_update 101 = .ok (.aload_n 0, 1) := by decide +kernel
theorem dX11_update_102 : decode cX11_update 102 = .ok (.sipush (-1002), 3) := by decide +kernel
theorem dX11_update_105 : decode cX11_update 105 = .ok (.invokevirtual 229, 3) := by decide +kernel
theorem dX11_update_108 : decode cX11_update 108 = .ok (.iload 5, 2) := by decide +kernel
theorem dX11_update_110 : decode cX11_update 110 = .ok (.ifCond .lt 11, 3) := by decide +kernel
theorem dX11_update_113 : decode cX11_update 113 = .ok (.aload_n 0, 1) := by decide +kernel
theorem dX11_update_114 : decode cX11_update 114 = .ok (.iload 5, 2) := by decide +kernel
theorem dX11_update_116 : decode cX11_update 116 = .ok (.invokevirtual 236, 3) := by decide +kernel
theorem dX11_update_119 : decode cX11_update 119 = .ok (.istore 8, 2) := by decide +kernel
theorem dX11_update_121 : decode cX11_update 121 = .ok (.aload_n 0, 1) := by decide +kernel
theorem dX11_update_122 : decode cX11_update 122 = .ok (.iload 4, 2) := by decide +kernel
theorem dX11_update_124 : decode cX11_update 124 = .ok (.invokevirtual 265, 3) := by decide +kernel
theorem dX11_update_127 : decode cX11_update 127 = .ok (.aload_n 0, 1) := by decide +kernel
theorem dX11_update_128 : decode cX11_update 128 = .ok (.iload 5, 2) := by decide +kernel
theorem dX11_update_130 : decode cX11_update 130 = .ok (.invokevirtual 265, 3) := by decide +kernel
theorem dX11_update_133 : decode cX11_update 133 = .ok (.aload_n 0, 1) := by decide +kernel
theorem dX11_update_134 : decode cX11_update 134 = .ok (.getfield 66, 3) := by decide +kernel
theorem dX11_update_137 : decode cX11_update 137 = .ok (.iconst 0, 1) := by decide +kernel
theorem dX11_update_138 : decode cX11_update 138 = .ok (.iaload, 1) := by decide +kernel
theorem dX11_update_139 : decode cX11_update 139 = .ok (.istore 8, 2) := by decide +kernel
theorem dX11_update_141 : decode cX11_update 141 = .ok (.iconst 0, 1) := by decide +kernel
theorem dX11_update_142 : decode cX11_update 142 = .ok (.istore 9, 2) := by decide +kernel
theorem dX11_update_144 : decode cX11_update 144 = .ok (.iconst 0, 1) := by decide +kernel
theorem dX11_update_145 : decode cX11_update 145 = .ok (.istore 10, 2) := by decide +kernel
theorem dX11_update_147 : decode cX11_update 147 = .ok (.aload_n 0, 1) := by decide +kernel
theorem dX11_update_148 : decode cX11_update 148 = .ok (.getfield 219, 3) := by decide +kernel
theorem dX11_update_151 : decode cX11_update 151 = .ok (.ifCond .ne 86, 3) := by decide +kernel
theorem dX11_update_154 : decode cX11_update 154 = .ok (.iload 10, 2) := by decide +kernel
theorem dX11_update_156 : decode cX11_update 156 = .ok (.aload_n 0, 1) := by decide +kernel
theorem dX11_update_157 : decode cX11_update 157 = .ok (.getfield 54, 3) := by decide +kernel
theorem dX11_update_160 : decode cX11_update 160 = .ok (.iload 8, 2) := by decide +kernel
theorem dX11_update_162 : decode cX11_update 162 = .ok (.iaload, 1) := by decide +kernel
theorem dX11_update_163 : decode cX11_update 163 = .ok (.if_icmp .ge 74, 3) := by decide +kernel
theorem dX11_update_166 : decode cX11_update 166 = .ok (.aload_n 0, 1) := by decide +kernel
theorem dX11_update_167 : decode cX11_update 167 = .ok (.getfield 69, 3) := by decide +kernel
theorem dX11_update_170 : decode cX11_update 170 = .ok (.iconst 0, 1) := by decide +kernel
theorem dX11_update_171 : decode cX11_update 171 = .ok (.iload 10, 2) := by decide +kernel
theorem dX11_update_173 : decode cX11_update 173 = .ok (.iastore, 1) := by decide +kernel
theorem dX11_update_174 : decode cX11_update 174 = .ok (.aload_n 0, 1) := by decide +kernel
theorem dX11_update_175 : decode cX11_update 175 = .ok (.getfield 99, 3) := by decide +kernel
theorem dX11_update_178 : decode cX11_update 178 = .ok (.iload 10, 2) := by decide +kernel
theorem dX11_update_180 : decode cX11_update 180 = .ok (.aload_n 0, 1) := by decide +kernel
theorem dX11_update_181 : decode cX11_update 181 = .ok (.iload 5, 2) := by decide +kernel
theorem dX11_update_183 : decode cX11_update 183 = .ok (.invokevirtual 268, 3) := by decide +kernel
theorem dX11_update_186 : decode cX11_update 186 = .ok (.bastore, 1) := by decide +kernel
theorem dX11_update_187 : decode cX11_update 187 = .ok (.aload_n 0, 1) := by decide +kernel
theorem dX11_update_188 : decode cX11_update 188 = .ok (.getfield 99, 3) := by decide +kernel
theorem dX11_update_191 : decode cX11_update 191 = .ok (.iload 10, 2) := by decide +kernel
theorem dX11_update_193 : decode cX11_update 193 = .ok (.baload, 1) := by decide +kernel
theorem dX11_update_194 : decode cX11_update 194 = .ok (.ifCond .eq 37, 3) := by decide +kernel
theorem dX11_update_197 : decode cX11_update 197 = .ok (.aload_n 0, 1) := by decide +kernel
theorem dX11_update_198 : decode cX11_update 198 = .ok (.getfield 219, 3) := by decide +kernel
theorem dX11_update_201 : decode cX11_update 201 = .ok (.ifCond .ne 30, 3) := by decide +kernel
theorem dX11_update_204 : decode cX11_update 204 = .ok (.aload_n 0, 1) := by decide +kernel
theorem dX11_update_205 : decode cX11_update 205 = .ok (.getfield 93, 3) := by decide +kernel
theorem dX11_update_208 : decode cX11_update 208 = .ok (.iload 10, 2) := by decide +kernel
theorem dX11_update_210 : decode cX11_update 210 = .ok (.aload_n 0, 1) := by decide +kernel
theorem dX11_update_211 : decode cX11_update 211 = .ok (.iload 4, 2) := by decide +kernel
theorem dX11_update_213 : decode cX11_update 213 = .ok (.invokevirtual 246, 3) := by decide +kernel
theorem dX11_update_216 : decode cX11_update 216 = .ok (.iastore, 1) := by decide +kernel
theorem dX11_update_217 : decode cX11_update 217 = .ok (.aload_n 0, 1) := by decide +kernel
theorem dX11_update_218 : decode cX11_update 218 = .ok (.getfield 96, 3) := by decide +kernel
theorem dX11_update_221 : decode cX11_update 221 = .ok (.iload 10, 2) := by decide +kernel
theorem dX11_update_223 : decode cX11_update 223 = .ok (.aload_n 0, 1) := by decide +kernel
theorem dX11_update_224 : decode cX11_update 224 = .ok (.getfield 242, 3) := by decide +kernel
theorem dX11_update_227 : decode cX11_update 227 = .ok (.bastore, 1) := by decide +kernel
theorem dX11_update_228 : decode cX11_update 228 = .ok (.iinc 9 1, 3) := by decide +kernel
theorem dX11_update_231 : decode cX11_update 231 = .ok (.iinc 10 1, 3) := by decide +kernel
theorem dX11_update_234 : decode cX11_update 234 = .ok (.goto (-87), 3) := by decide +kernel
theorem dX11_update_237 : decode cX11_update 237 = .ok (.iconst 0, 1) := by decide +kernel
theorem dX11_update_238 : decode cX11_update 238 = .ok (.istore 10, 2) := by decide +kernel
theorem dX11_update_240 : decode cX11_update 240 = .ok (.aload_n 0, 1) := by decide +kernel
theorem dX11_update_241 : decode cX11_update 241 = .ok (.getfield 219, 3) := by decide +kernel
theorem dX11_update_244 : decode cX11_update 244 = .ok (.ifCond .ne 103, 3) := by decide +kernel
theorem dX11_update_247 : decode cX11_update 247 = .ok (.iload 10, 2) := by decide +kernel
theorem dX11_update_249 : decode cX11_update 249 = .ok (.aload_n 0, 1) := by decide +kernel
theorem dX11_update_250 : decode cX11_update 250 = .ok (.getfield 54, 3) := by decide +kernel
theorem dX11_update_253 : decode cX11_update 253 = .ok (.iload 8, 2) := by decide +kernel
theorem dX11_update_255 : decode cX11_update 255 = .ok (.iaload, 1) := by decide +kernel
theorem dX11_update_256 : decode cX11_update 256 = .ok (.if_icmp .ge 91, 3) := by decide +kernel
theorem dX11_update_259 : decode cX11_update 259 = .ok (.aload_n 0, 1) := by decide +kernel
theorem dX11_update_260 : decode cX11_update 260 = .ok (.getfield 99, 3) := by decide +kernel
theorem dX11_update_263 : decode cX11_update 263 = .ok (.iload 10, 2) := by decide +kernel
theorem dX11_update_265 : decode cX11_update 265 = .ok (.baload, 1) := by decide +kernel
theorem dX11_update_266 : decode cX11_update 266 = .ok (.ifCond .eq 75, 3) := by decide +kernel
theorem dX11_update_269 : decode cX11_update 269 = .ok (.aload_n 0, 1) := by decide +kernel
theorem dX11_update_270 : decode cX11_update 270 = .ok (.getfield 57, 3) := by decide +kernel
theorem dX11_update_273 : decode cX11_update 273 = .ok (.bipush 96, 2) := by decide +kernel
theorem dX11_update_275 : decode cX11_update 275 = .ok (.iload 8, 2) := by decide +kernel
theorem dX11_update_277 : decode cX11_update 277 = .ok (.imul, 1) := by decide +kernel
theorem dX11_update_278 : decode cX11_update 278 = .ok (.iconst 4, 1) := by decide +kernel
theorem dX11_update_279 : decode cX11_update 279 = .ok (.iload 10, 2) := by decide +kernel
theorem dX11_update_281 : decode cX11_update 281 = .ok (.imul, 1) := by decide +kernel
theorem dX11_update_282 : decode cX11_update 282 = .ok (.iadd, 1) := by decide +kernel
theorem dX11_update_283 : decode cX11_update 283 = .ok (.aload_n 0, 1) := by decide +kernel
theorem dX11_update_284 : decode cX11_update 284 = .ok (.getfield 38, 3) := by decide +kernel
theorem dX11_update_287 : decode cX11_update 287 = .ok (.iload_n 3, 1) := by decide +kernel
theorem dX11_update_288 : decode cX11_update 288 = .ok (.iaload, 1) := by decide +kernel
theorem dX11_update_289 : decode cX11_update 289 = .ok (.iadd, 1) := by decide +kernel
theorem dX11_update_290 : decode cX11_update 290 = .ok (.aload_n 0, 1) := by decide +kernel
theorem dX11_update_291 : decode cX11_update 291 = .ok (.getfield 96, 3) := by decide +kernel
theorem dX11_update_294 : decode cX11_update 294 = .ok (.iload 10, 2) := by decide +kernel
theorem dX11_update_296 : decode cX11_update 296 = .ok (.baload, 1) := by decide +kernel
theorem dX11_update_297 : decode cX11_update 297 = .ok (.ifCond .eq 7, 3) := by decide +kernel
theorem dX11_update_300 : decode cX11_update 300 = .ok (.iconst 0, 1) := by decide +kernel
theorem dX11_update_301 : decode cX11_update 301 = .ok (.goto 10, 3) := by decide +kernel
theorem dX11_update_304 : decode cX11_update 304 = .ok (.aload_n 0, 1) := by decide +kernel
theorem dX11_update_305 : decode cX11_update 305 = .ok (.getfield 93, 3) := by decide +kernel
theorem dX11_update_308 : decode cX11_update 308 = .ok (.iload 10, 2) := by decide +kernel
theorem dX11_update_310 : decode cX11_update 310 = .ok (.iaload, 1) := by decide +kernel
theorem dX11_update_311 : decode cX11_update 311 = .ok (.iastore, 1) := by decide +kernel
theorem dX11_update_312 : decode cX11_update 312 = .ok (.aload_n 0, 1) := by decide +kernel
theorem dX11_update_313 : decode cX11_update 313 = .ok (.getfield 60, 3) := by decide +kernel
theorem dX11_update_316 : decode cX11_update 316 = .ok (.bipush 96, 2) := by decide +kernel
theorem dX11_update_318 : decode cX11_update 318 = .ok (.iload 8, 2) := by decide +kernel
theorem dX11_update_320 : decode cX11_update 320 = .ok (.imul, 1) := by decide +kernel
theorem dX11_update_321 : decode cX11_update 321 = .ok (.iconst 4, 1) := by decide +kernel
theorem dX11_update_322 : decode cX11_update 322 = .ok (.iload 10, 2) := by decide +kernel
theorem dX11_update_324 : decode cX11_update 324 = .ok (.imul, 1) := by decide +kernel
theorem dX11_update_325 : decode cX11_update 325 = .ok (.iadd, 1) := by decide +kernel
theorem dX11_update_326 : decode cX11_update 326 = .ok (.aload_n 0, 1) := by decide +kernel
theorem dX11_update_327 : decode cX11_update 327 = .ok (.getfield 38, 3) := by decide +kernel
theorem dX11_update_330 : decode cX11_update 330 = .ok (.iload_n 3, 1) := by decide +kernel
theorem dX11_update_331 : decode cX11_update 331 = .ok (.iaload, 1) := by decide +kernel
theorem dX11_update_332 : decode cX11_update 332 = .ok (.iadd, 1) := by decide +kernel
theorem dX11_update_333 : decode cX11_update 333 = .ok (.aload_n 0, 1) := by decide +kernel
theorem dX11_update_334 : decode cX11_update 334 = .ok (.getfield 96, 3) := by decide +kernel
theorem dX11_update_337 : decode cX11_update 337 = .ok (.iload 10, 2) := by decide +kernel
theorem dX11_update_339 : decode cX11_update 339 = .ok (.baload, 1) := by decide +kernel
theorem dX11_update_340 : decode cX11_update 340 = .ok (.bastore, 1) := by decide +kernel
theorem dX11_update_341 : decode cX11_update 341 = .ok (.iinc 10 1, 3) := by decide +kernel
theorem dX11_update_344 : decode cX11_update 344 = .ok (.goto (-104), 3) := by decide +kernel
theorem dX11_update_347 : decode cX11_update 347 = .ok (.iload 9, 2) := by decide +kernel
theorem dX11_update_349 : decode cX11_update 349 = .ok (.ireturn, 1) := by decide +kernel
theorem b_X11_update_0 {h : Nat} {L : LVs} {st : List AV} {S : ST} {Q : Option AV → ST → Prop} (k : o_al L st S (fun L st S => o_get L st S (fun L st S => o_c L st S (fun L st S => o_al L st S (fun L st S => o_c L st S (fun L st S => V MX11_update h 8 L st S Q) (nI 50)) 0) (nI 0)) 11 25 (3, 57, 0)) 0) : V MX11_update h 0 L st S Q :=
  v_aload_n dX11_update_0 rfl (fun L st S k => v_get dX11_update_1 rfl iX11 LY_11 rfl (by decide) rfl fl_X11_63 (fun L st S k => v_iconst dX11_update_4 (by decide) (fun L st S k => v_aload_n dX11_update_5 rfl (fun L st S k => v_bipush dX11_update_6 (by decide) (fun L st S k => k) k) k) k) k) k
theorem k_X11_update_8 {h : Nat} {L : LVs} {st : List AV} {S : ST} {Q Q' : Option AV → ST → Prop} {j : Nat} {a0 : AV} (hC : Ct MX11_take h [vR 11 j, a0] S Q') (k : ∀ (r : Option AV) (S' : ST), Q' r S' → V MX11_update (h + 1) 11 L (r.toList ++ st) S' Q) (hj : j < NI 11) (hw : wid st ≤ 8) : V MX11_update (h + 1) 8 L (a0 :: vR 11 j :: st) S Q :=
  v_callV (M' := MX11_take) (c := 11) (As := [a0]) dX11_update_8 ml_X11_181 im_X11_take se_X11_take in_X11 cd_X11_take rfl LY_11 np_X11_take (by decide) hw hj hC k
theorem b_X11_update_11 {h : Nat} {L : LVs} {st : List AV} {S : ST} {Q : Option AV → ST → Prop} (k : o_last L st S (fun L st S => o_al L st S (fun L st S => o_c L st S (fun L st S => o_puti L st S (fun L st S => o_al L st S (fun L st S => o_c L st S (fun L st S => V MX11_update h 19 L st S Q) (nI 4)) 0) 11 24) (nI 1)) 0)) : V MX11_update h 11 L st S Q :=
  v_lastore dX11_update_11 (fun L st S k => v_aload_n dX11_update_12 rfl (fun L st S k => v_iconst dX11_update_13 (by decide) (fun L st S k => v_puti dX11_update_14 rfl iX11 tyX11_ok nmX11 LY_11 rfl (by decide) rfl fl_X11_222 rfl rfl (fun L st S k => v_aload_n dX11_update_17 rfl (fun L st S k => v_iconst dX11_update_18 (by decide) (fun L st S k => k) k) k) k) k) k) k
theorem k_X11_update_19 {h : Nat} {L : LVs} {st : List AV} {S : ST} {Q Q' : Option AV → ST → Prop} {j : Nat} {a0 : AV} (hC : Ct MX11_take h [vR 11 j, a0] S Q') (k : ∀ (r : Option AV) (S' : ST), Q' r S' → V MX11_update (h + 1) 22 L (r.toList ++ st) S' Q) (hj : j < NI 11) (hw : wid st ≤ 8) : V MX11_update (h + 1) 19 L (a0 :: vR 11 j :: st) S Q :=
  v_callV (M' := MX11_take) (c := 11) (As := [a0]) dX11_update_19 ml_X11_181 im_X11_take se_X11_take in_X11 cd_X11_take rfl LY_11 np_X11_take (by decide) hw hj hC k
theorem b_X11_update_22 {h : Nat} {L : LVs} {st : List AV} {S : ST} {Q : Option AV → ST → Prop} (k : o_ls L st S (fun L st S => o_al L st S (fun L st S => o_c L st S (fun L st S => o_c L st S (fun L st S => o_c L st S (fun L st S => o_al L st S (fun L st S => o_c L st S (fun L st S => V MX11_update h 31 L st S Q) (nI 50)) 0) (-1)) (-1)) (nI 61)) 0) 1) : V MX11_update h 22 L st S Q :=
  v_lstore_n dX11_update_22 rfl (by decide) (fun L st S k => v_aload_n dX11_update_23 rfl (fun L st S k => v_bipush dX11_update_24 (by decide) (fun L st S k => v_iconst dX11_update_26 (by decide) (fun L st S k => v_iconst dX11_update_27 (by decide) (fun L st S k => v_aload_n dX11_update_28 rfl (fun L st S k => v_bipush dX11_update_29 (by decide) (fun L st S k => k) k) k) k) k) k) k) k
theorem k_X11_update_31 {h : Nat} {L : LVs} {st : List AV} {S : ST} {Q Q' : Option AV → ST → Prop} {j : Nat} {a0 : AV} (hC : Ct MX11_take h [vR 11 j, a0] S Q') (k : ∀ (r : Option AV) (S' : ST), Q' r S' → V MX11_update (h + 1) 34 L (r.toList ++ st) S' Q) (hj : j < NI 11) (hw : wid st ≤ 8) : V MX11_update (h + 1) 31 L (a0 :: vR 11 j :: st) S Q :=
  v_callV (M' := MX11_take) (c := 11) (As := [a0]) dX11_update_31 ml_X11_181 im_X11_take se_X11_take in_X11 cd_X11_take rfl LY_11 np_X11_take (by decide) hw hj hC k
theorem k_X11_update_34 {h : Nat} {L : LVs} {st : List AV} {S : ST} {Q Q' : Option AV → ST → Prop} {j : Nat} {a0 a1 a2 a3 : AV} (hC : Ct MX11_knot h [vR 11 j, a0, a1, a2, a3] S Q') (k : ∀ (r : Option AV) (S' : ST), Q' r S' → V MX11_update (h + 1) 37 L (r.toList ++ st) S' Q) (hj : j < NI 11) (hw : wid st ≤ 8) : V MX11_update (h + 1) 34 L (a3 :: a2 :: a1 :: a0 :: vR 11 j :: st) S Q :=
  v_callV (M' := MX11_knot) (c := 11) (As := [a0, a1, a2, a3]) dX11_update_34 ml_X11_185 im_X11_knot se_X11_knot in_X11 cd_X11_knot rfl LY_11 np_X11_knot (by decide) hw hj hC k
theorem b_X11_update_37 {h : Nat} {L : LVs} {st : List AV} {S : ST} {Q : Option AV → ST → Prop} (k : o_is L st S (fun L st S => o_al L st S (fun L st S => o_c L st S (fun L st S => V MX11_update h 41 L st S Q) (nI 40)) 0) 3) : V MX11_update h 37 L st S Q :=
  v_istore_n dX11_update_37 rfl (by decide) (fun L st S k => v_aload_n dX11_update_38 rfl (fun L st S k => v_bipush dX11_update_39 (by decide) (fun L st S k => k) k) k) k
theorem k_X11_update_41 {h : Nat} {L : LVs} {st : List AV} {S : ST} {Q Q' : Option AV → ST → Prop} {j : Nat} {a0 : AV} (hC : Ct MX11_take h [vR 11 j, a0] S Q') (k : ∀ (r : Option AV) (S' : ST), Q' r S' → V MX11_update (h + 1) 44 L (r.toList ++ st) S' Q) (hj : j < NI 11) (hw : wid st ≤ 8) : V MX11_update (h + 1) 41 L (a0 :: vR 11 j :: st) S Q :=
  v_callV (M' := MX11_take) (c := 11) (As := [a0]) dX11_update_41 ml_X11_181 im_X11_take se_X11_take in_X11 cd_X11_take rfl LY_11 np_X11_take (by decide) hw hj hC k
theorem b_X11_update_44 {h : Nat} {L : LVs} {st : List AV} {S : ST} {Q : Option AV → ST → Prop} (k : o_ls L st S (fun L st S => o_al L st S (fun L st S => V MX11_update h 46 L st S Q) 0) 1) : V MX11_update h 44 L st S Q :=
  v_lstore_n dX11_update_44 rfl (by decide) (fun L st S k => v_aload_n dX11_update_45 rfl (fun L st S k => k) k) k
theorem k_X11_update_46 {h : Nat} {L : LVs} {st : List AV} {S : ST} {Q Q' : Option AV → ST → Prop} {j : Nat} (hC : Ct MX11_expression h [vR 11 j] S Q') (k : ∀ (r : Option AV) (S' : ST), Q' r S' → V MX11_update (h + 1) 49 L (r.toList ++ st) S' Q) (hj : j < NI 11) (hw : wid st ≤ 8) : V MX11_update (h + 1) 46 L (vR 11 j :: st) S Q :=
  v_callV (M' := MX11_expression) (c := 11) (As := []) dX11_update_46 ml_X11_198 im_X11_expression se_X11_expression in_X11 cd_X11_expression rfl LY_11 np_X11_expression (by decide) hw hj hC k
theorem b_X11_update_49 {h : Nat} {L : LVs} {st : List AV} {S : ST} {Q : Option AV → ST → Prop} (k : o_is L st S (fun L st S => o_al L st S (fun L st S => V MX11_update h 52 L st S Q) 0) 4) : V MX11_update h 49 L st S Q :=
  v_istore dX11_update_49 (by decide) (fun L st S k => v_aload_n dX11_update_51 rfl (fun L st S k => k) k) k
theorem k_X11_update_52 {h : Nat} {L : LVs} {st : List AV} {S : ST} {Q Q' : Option AV → ST → Prop} {j : Nat} (hC : Ct MX11_where h [vR 11 j] S Q') (k : ∀ (r : Option AV) (S' : ST), Q' r S' → V MX11_update (h + 1) 55 L (r.toList ++ st) S' Q) (hj : j < NI 11) (hw : wid st ≤ 8) : V MX11_update (h + 1) 52 L (vR 11 j :: st) S Q :=
  v_callV (M' := MX11_where) (c := 11) (As := []) dX11_update_52 ml_X11_262 im_X11_where se_X11_where in_X11 cd_X11_where rfl LY_11 np_X11_where (by decide) hw hj hC k
theorem b_X11_update_55 {h : Nat} {L : LVs} {st : List AV} {S : ST} {Q : Option AV → ST → Prop} (k : o_is L st S (fun L st S => o_al L st S (fun L st S => V MX11_update h 58 L st S Q) 0) 5) : V MX11_update h 55 L st S Q :=
  v_istore dX11_update_55 (by decide) (fun L st S k => v_aload_n dX11_update_57 rfl (fun L st S k => k) k) k
theorem k_X11_update_58 {h : Nat} {L : LVs} {st : List AV} {S : ST} {Q Q' : Option AV → ST → Prop} {j : Nat} (hC : Ct MX11_ends h [vR 11 j] S Q') (k : ∀ (r : Option AV) (S' : ST), Q' r S' → V MX11_update (h + 1) 61 L (r.toList ++ st) S' Q) (hj : j < NI 11) (hw : wid st ≤ 8) : V MX11_update (h + 1) 58 L (vR 11 j :: st) S Q :=
  v_callV (M' := MX11_ends) (c := 11) (As := []) dX11_update_58 ml_X11_255 im_X11_ends se_X11_ends in_X11 cd_X11_ends rfl LY_11 np_X11_ends (by decide) hw hj hC k
theorem b_X11_update_61 {h : Nat} {L : LVs} {st : List AV} {S : ST} {Q : Option AV → ST → Prop} (k : t_1 L st S (fun x => x = nI 0) (fun L st S => V MX11_update h 64 L st S Q) (fun L st S => V MX11_update h 66 L st S Q)) : V MX11_update h 61 L st S Q :=
  w_if_ne dX11_update_61 (by decide) rfl k
theorem b_X11_update_64 {h : Nat} {L : LVs} {st : List AV} {S : ST} {Q : Option AV → ST → Prop} (k : o_c L st S (fun L st S => t_ir st S Q) (nI 0)) : V MX11_update h 64 L st S Q :=
  v_iconst dX11_update_64 (by decide) (fun L st S k => w_ir dX11_update_65 rfl k) k
theorem b_X11_update_66 {h : Nat} {L : LVs} {st : List AV} {S : ST} {Q : Option AV → ST → Prop} (k : o_al L st S (fun L st S => V MX11_update h 67 L st S Q) 0) : V MX11_update h 66 L st S Q :=
  v_aload_n dX11_update_66 rfl (fun L st S k => k) k
theorem k_X11_update_67 {h : Nat} {L : LVs} {st : List AV} {S : ST} {Q Q' : Option AV → ST → Prop} {j : Nat} (hC : Ct MX11_lookForTables h [vR 11 j] S Q') (k : ∀ (r : Option AV) (S' : ST), Q' r S' → V MX11_update (h + 1) 70 L (r.toList ++ st) S' Q) (hj : j < NI 11) (hw : wid st ≤ 8) : V MX11_update (h + 1) 67 L (vR 11 j :: st) S Q :=
  v_callV (M' := MX11_lookForTables) (c := 11) (As := []) dX11_update_67 ml_X11_259 im_X11_lookForTables se_X11_lookForTables in_X11 cd_X11_lookForTables rfl LY_11 np_X11_lookForTables (by decide) hw hj hC k
theorem b_X11_update_70 {h : Nat} {L : LVs} {st : List AV} {S : ST} {Q : Option AV → ST → Prop} (k : o_al L st S (fun L st S => o_il L st S (fun L st S => V MX11_update h 72 L st S Q) 3) 0) : V MX11_update h 70 L st S Q :=
  v_aload_n dX11_update_70 rfl (fun L st S k => v_iload_n dX11_update_71 rfl (fun L st S k => k) k) k
theorem k_X11_update_72 {h : Nat} {L : LVs} {st : List AV} {S : ST} {Q Q' : Option AV → ST → Prop} {j : Nat} {a0 : AV} (hC : Ct MX11_check h [vR 11 j, a0] S Q') (k : ∀ (r : Option AV) (S' : ST), Q' r S' → V MX11_update (h + 1) 75 L (r.toList ++ st) S' Q) (hj : j < NI 11) (hw : wid st ≤ 8) : V MX11_update (h + 1) 72 L (a0 :: vR 11 j :: st) S Q :=
  v_callV (M' := MX11_check) (c := 11) (As := [a0]) dX11_update_72 ml_X11_236 im_X11_check se_X11_check in_X11 cd_X11_check rfl LY_11 np_X11_check (by decide) hw hj hC k
theorem b_X11_update_75 {h : Nat} {L : LVs} {st : List AV} {S : ST} {Q : Option AV → ST → Prop} (k : o_is L st S (fun L st S => o_al L st S (fun L st S => o_il L st S (fun L st S => V MX11_update h 80 L st S Q) 4) 0) 6) : V MX11_update h 75 L st S Q :=
  v_istore dX11_update_75 (by decide) (fun L st S k => v_aload_n dX11_update_77 rfl (fun L st S k => v_iload dX11_update_78 (fun L st S k => k) k) k) k
theorem k_X11_update_80 {h : Nat} {L : LVs} {st : List AV} {S : ST} {Q Q' : Option AV → ST → Prop} {j : Nat} {a0 : AV} (hC : Ct MX11_check h [vR 11 j, a0] S Q') (k : ∀ (r : Option AV) (S' : ST), Q' r S' → V MX11_update (h + 1) 83 L (r.toList ++ st) S' Q) (hj : j < NI 11) (hw : wid st ≤ 8) : V MX11_update (h + 1) 80 L (a0 :: vR 11 j :: st) S Q :=
  v_callV (M' := MX11_check) (c := 11) (As := [a0]) dX11_update_80 ml_X11_236 im_X11_check se_X11_check in_X11 cd_X11_check rfl LY_11 np_X11_check (by decide) hw hj hC k
theorem b_X11_update_83 {h : Nat} {L : LVs} {st : List AV} {S : ST} {Q : Option AV → ST → Prop} (k : o_is L st S (fun L st S => o_al L st S (fun L st S => o_get L st S (fun L st S => t_1 L st S (fun x => x = nI 0) (fun L st S => V MX11_update h 92 L st S Q) (fun L st S => V MX11_update h 108 L st S Q)) 11 28 (0, 0, 0)) 0) 7) : V MX11_update h 83 L st S Q :=
  v_istore dX11_update_83 (by decide) (fun L st S k => v_aload_n dX11_update_85 rfl (fun L st S k => v_get dX11_update_86 rfl iX11 LY_11 rfl (by decide) rfl fl_X11_219 (fun L st S k => w_if_ne dX11_update_89 (by decide) rfl k) k) k) k
theorem b_X11_update_92 {h : Nat} {L : LVs} {st : List AV} {S : ST} {Q : Option AV → ST → Prop} (k : o_il L st S (fun L st S => o_il L st S (fun L st S => o_iadd L st S (fun L st S => o_c L st S (fun L st S => t_2 L st S (fun x y => x = y) (fun L st S => V MX11_update h 101 L st S Q) (fun L st S => V MX11_update h 108 L st S Q)) (nI 1))) 7) 6) : V MX11_update h 92 L st S Q :=
  v_iload dX11_update_92 (fun L st S k => v_iload dX11_update_94 (fun L st S k => v_iadd dX11_update_96 (fun L st S k => v_iconst dX11_update_97 (by decide) (fun L st S k => w_icmp_ne dX11_update_98 (by decide) rfl k) k) k) k) k
theorem b_X11_update_101 {h : Nat} {L : LVs} {st : List AV} {S : ST} {Q : Option AV → ST → Prop} (k : o_al L st S (fun L st S => o_c L st S (fun L st S => V MX11_update h 105 L st S Q) (-1002)) 0) : V MX11_update h 101 L st S Q :=
  v_aload_n dX11_update_101 rfl (fun L st S k => v_sipush dX11_update_102 (by decide) (fun L st S k => k) k) k
theorem k_X11_update_105 {h : Nat} {L : LVs} {st : List AV} {S : ST} {Q Q' : Option AV → ST → Prop} {j : Nat} {a0 : AV} (hC : Ct MX11_fails h [vR 11 j, a0] S Q') (k : ∀ (r : Option AV) (S' : ST), Q' r S' → V MX11_update (h + 1) 108 L (r.toList ++ st) S' Q) (hj : j < NI 11) (hw : wid st ≤ 8) : V MX11_update (h + 1) 105 L (a0 :: vR 11 j :: st) S Q :=
  v_callV (M' := MX11_fails) (c := 11) (As := [a0]) dX11_update_105 ml_X11_229 im_X11_fails se_X11_fails in_X11 cd_X11_fails rfl LY_11 np_X11_fails (by decide) hw hj hC k
theorem b_X11_update_108 {h : Nat} {L : LVs} {st : List AV} {S : ST} {Q : Option AV → ST → Prop} (k : o_il L st S (fun L st S => t_1 L st S (fun x => x < nI 0) (fun L st S => V MX11_update h 121 L st S Q) (fun L st S => V MX11_update h 113 L st S Q)) 5) : V MX11_update h 108 L st S Q :=
  v_iload dX11_update_108 (fun L st S k => w_if_lt dX11_update_110 (by decide) rfl k) k
theorem b_X11_update_113 {h : Nat} {L : LVs} {st : List AV} {S : ST} {Q : Option AV → ST → Prop} (k : o_al L st S (fun L st S => o_il L st S (fun L st S => V MX11_update h 116 L st S Q) 5) 0) : V MX11_update h 113 L st S Q :=
  v_aload_n dX11_update_113 rfl (fun L st S k => v_iload dX11_update_114 (fun L st S k => k) k) k
theorem k_X11_update_116 {h : Nat} {L : LVs} {st : List AV} {S : ST} {Q Q' : Option AV → ST → Prop} {j : Nat} {a0 : AV} (hC : Ct MX11_check h [vR 11 j, a0] S Q') (k : ∀ (r : Option AV) (S' : ST), Q' r S' → V MX11_update (h + 1) 119 L (r.toList ++ st) S' Q) (hj : j < NI 11) (hw : wid st ≤ 8) : V MX11_update (h + 1) 116 L (a0 :: vR 11 j :: st) S Q :=
  v_callV (M' := MX11_check) (c := 11) (As := [a0]) dX11_update_116 ml_X11_236 im_X11_check se_X11_check in_X11 cd_X11_check rfl LY_11 np_X11_check (by decide) hw hj hC k
theorem b_X11_update_119 {h : Nat} {L : LVs} {st : List AV} {S : ST} {Q : Option AV → ST → Prop} (k : o_is L st S (fun L st S => V MX11_update h 121 L st S Q) 8) : V MX11_update h 119 L st S Q :=
  v_istore dX11_update_119 (by decide) (fun L st S k => k) k
theorem b_X11_update_121 {h : Nat} {L : LVs} {st : List AV} {S : ST} {Q : Option AV → ST → Prop} (k : o_al L st S (fun L st S => o_il L st S (fun L st S => V MX11_update h 124 L st S Q) 4) 0) : V MX11_update h 121 L st S Q :=
  v_aload_n dX11_update_121 rfl (fun L st S k => v_iload dX11_update_122 (fun L st S k => k) k) k
theorem k_X11_update_124 {h : Nat} {L : LVs} {st : List AV} {S : ST} {Q Q' : Option AV → ST → Prop} {j : Nat} {a0 : AV} (hC : Ct MX11_checkDeep h [vR 11 j, a0] S Q') (k : ∀ (r : Option AV) (S' : ST), Q' r S' → V MX11_update (h + 1) 127 L (r.toList ++ st) S' Q) (hj : j < NI 11) (hw : wid st ≤ 8) : V MX11_update (h + 1) 124 L (a0 :: vR 11 j :: st) S Q :=
  v_callV (M' := MX11_checkDeep) (c := 11) (As := [a0]) dX11_update_124 ml_X11_265 im_X11_checkDeep se_X11_checkDeep in_X11 cd_X11_checkDeep rfl LY_11 np_X11_checkDeep (by decide) hw hj hC k
theorem b_X11_update_127 {h : Nat} {L : LVs} {st : List AV} {S : ST} {Q : Option AV → ST → Prop} (k : o_al L st S (fun L st S => o_il L st S (fun L st S => V MX11_update h 130 L st S Q) 5) 0) : V MX11_update h 127 L st S Q :=
  v_aload_n dX11_update_127 rfl (fun L st S k => v_iload dX11_update_128 (fun L st S k => k) k) k
theorem k_X11_update_130 {h : Nat} {L : LVs} {st : List AV} {S : ST} {Q Q' : Option AV → ST → Prop} {j : Nat} {a0 : AV} (hC : Ct MX11_checkDeep h [vR 11 j, a0] S Q') (k : ∀ (r : Option AV) (S' : ST), Q' r S' → V MX11_update (h + 1) 133 L (r.toList ++ st) S' Q) (hj : j < NI 11) (hw : wid st ≤ 8) : V MX11_update (h + 1) 130 L (a0 :: vR 11 j :: st) S Q :=
  v_callV (M' := MX11_checkDeep) (c := 11) (As := [a0]) dX11_update_130 ml_X11_265 im_X11_checkDeep se_X11_checkDeep in_X11 cd_X11_checkDeep rfl LY_11 np_X11_checkDeep (by decide) hw hj hC k
theorem b_X11_update_133 {h : Nat} {L : LVs} {st : List AV} {S : ST} {Q : Option AV → ST → Prop} (k : o_al L st S (fun L st S => o_get L st S (fun L st S => o_c L st S (fun L st S => o_iald L st S (fun L st S => o_is L st S (fun L st S => o_c L st S (fun L st S => o_is L st S (fun L st S => o_c L st S (fun L st S => o_is L st S (fun L st S => V MX11_update h 147 L st S Q) 10) (nI 0)) 9) (nI 0)) 8)) (nI 0)) 11 26 (3, 58, 0)) 0) : V MX11_update h 133 L st S Q :=
  v_aload_n dX11_update_133 rfl (fun L st S k => v_get dX11_update_134 rfl iX11 LY_11 rfl (by decide) rfl fl_X11_66 (fun L st S k => v_iconst dX11_update_137 (by decide) (fun L st S k => v_iaload dX11_update_138 (fun L st S k => v_istore dX11_update_139 (by decide) (fun L st S k => v_iconst dX11_update_141 (by decide) (fun L st S k => v_istore dX11_update_142 (by decide) (fun L st S k => v_iconst dX11_update_144 (by decide) (fun L st S k => v_istore dX11_update_145 (by decide) (fun L st S k => k) k) k) k) k) k) k) k) k) k
theorem b_X11_update_147 {h : Nat} {L : LVs} {st : List AV} {S : ST} {Q : Option AV → ST → Prop} (k : o_al L st S (fun L st S => o_get L st S (fun L st S => t_1 L st S (fun x => x = nI 0) (fun L st S => V MX11_update h 154 L st S Q) (fun L st S => V MX11_update h 237 L st S Q)) 11 28 (0, 0, 0)) 0) : V MX11_update h 147 L st S Q :=
  v_aload_n dX11_update_147 rfl (fun L st S k => v_get dX11_update_148 rfl iX11 LY_11 rfl (by decide) rfl fl_X11_219 (fun L st S k => w_if_ne dX11_update_151 (by decide) rfl k) k) k
theorem b_X11_update_154 {h : Nat} {L : LVs} {st : List AV} {S : ST} {Q : Option AV → ST → Prop} (k : o_il L st S (fun L st S => o_al L st S (fun L st S => o_get L st S (fun L st S => o_il L st S (fun L st S => o_iald L st S (fun L st S => t_2 L st S (fun x y => y ≤ x) (fun L st S => V MX11_update h 237 L st S Q) (fun L st S => V MX11_update h 166 L st S Q))) 8) 11 21 (3, 54, 0)) 0) 10) : V MX11_update h 154 L st S Q :=
  v_iload dX11_update_154 (fun L st S k => v_aload_n dX11_update_156 rfl (fun L st S k => v_get dX11_update_157 rfl iX11 LY_11 rfl (by decide) rfl fl_X11_54 (fun L st S k => v_iload dX11_update_160 (fun L st S k => v_iaload dX11_update_162 (fun L st S k => w_icmp_ge dX11_update_163 (by decide) rfl k) k) k) k) k) k
theorem b_X11_update_166 {h : Nat} {L : LVs} {st : List AV} {S : ST} {Q : Option AV → ST → Prop} (k : o_al L st S (fun L st S => o_get L st S (fun L st S => o_c L st S (fun L st S => o_il L st S (fun L st S => o_iast L st S (fun L st S => o_al L st S (fun L st S => o_get L st S (fun L st S => o_il L st S (fun L st S => o_al L st S (fun L st S => o_il L st S (fun L st S => V MX11_update h 183 L st S Q) 5) 0) 10) 11 43 (3, 69, 0)) 0)) 10) (nI 0)) 11 27 (3, 59, 0)) 0) : V MX11_update h 166 L st S Q :=
  v_aload_n dX11_update_166 rfl (fun L st S k => v_get dX11_update_167 rfl iX11 LY_11 rfl (by decide) rfl fl_X11_69 (fun L st S k => v_iconst dX11_update_170 (by decide) (fun L st S k => v_iload dX11_update_171 (fun L st S k => v_iastore dX11_update_173 (fun L st S k => v_aload_n dX11_update_174 rfl (fun L st S k => v_get dX11_update_175 rfl iX11 LY_11 rfl (by decide) rfl fl_X11_99 (fun L st S k => v_iload dX11_update_178 (fun L st S k => v_aload_n dX11_update_180 rfl (fun L st S k => v_iload dX11_update_181 (fun L st S k => k) k) k) k) k) k) k) k) k) k) k
theorem k_X11_update_183 {h : Nat} {L : LVs} {st : List AV} {S : ST} {Q Q' : Option AV → ST → Prop} {j : Nat} {a0 : AV} (hC : Ct MX11_holds h [vR 11 j, a0] S Q') (k : ∀ (r : Option AV) (S' : ST), Q' r S' → V MX11_update (h + 1) 186 L (r.toList ++ st) S' Q) (hj : j < NI 11) (hw : wid st ≤ 8) : V MX11_update (h + 1) 183 L (a0 :: vR 11 j :: st) S Q :=
  v_callV (M' := MX11_holds) (c := 11) (As := [a0]) dX11_update_183 ml_X11_268 im_X11_holds se_X11_holds in_X11 cd_X11_holds rfl LY_11 np_X11_holds (by decide) hw hj hC k
theorem b_X11_update_186 {h : Nat} {L : LVs} {st : List AV} {S : ST} {Q : Option AV → ST → Prop} (k : o_zast L st S (fun L st S => o_al L st S (fun L st S => o_get L st S (fun L st S => o_il L st S (fun L st S => o_zald L st S (fun L st S => t_1 L st S (fun x => x = nI 0) (fun L st S => V MX11_update h 231 L st S Q) (fun L st S => V MX11_update h 197 L st S Q))) 10) 11 43 (3, 69, 0)) 0)) : V MX11_update h 186 L st S Q :=
  v_zastore dX11_update_186 (fun L st S k => v_aload_n dX11_update_187 rfl (fun L st S k => v_get dX11_update_188 rfl iX11 LY_11 rfl (by decide) rfl fl_X11_99 (fun L st S k => v_iload dX11_update_191 (fun L st S k => v_zaload dX11_update_193 (fun L st S k => w_if_eq dX11_update_194 (by decide) rfl k) k) k) k) k) k
theorem b_X11_update_197 {h : Nat} {L : LVs} {st : List AV} {S : ST} {Q : Option AV → ST → Prop} (k : o_al L st S (fun L st S => o_get L st S (fun L st S => t_1 L st S (fun x => x = nI 0) (fun L st S => V MX11_update h 204 L st S Q) (fun L st S => V MX11_update h 231 L st S Q)) 11 28 (0, 0, 0)) 0) : V MX11_update h 197 L st S Q :=
  v_aload_n dX11_update_197 rfl (fun L st S k => v_get dX11_update_198 rfl iX11 LY_11 rfl (by decide) rfl fl_X11_219 (fun L st S k => w_if_ne dX11_update_201 (by decide) rfl k) k) k
theorem b_X11_update_204 {h : Nat} {L : LVs} {st : List AV} {S : ST} {Q : Option AV → ST → Prop} (k : o_al L st S (fun L st S => o_get L st S (fun L st S => o_il L st S (fun L st S => o_al L st S (fun L st S => o_il L st S (fun L st S => V MX11_update h 213 L st S Q) 4) 0) 10) 11 41 (3, 67, 0)) 0) : V MX11_update h 204 L st S Q :=
  v_aload_n dX11_update_204 rfl (fun L st S k => v_get dX11_update_205 rfl iX11 LY_11 rfl (by decide) rfl fl_X11_93 (fun L st S k => v_iload dX11_update_208 (fun L st S k => v_aload_n dX11_update_210 rfl (fun L st S k => v_iload dX11_update_211 (fun L st S k => k) k) k) k) k) k
theorem k_X11_update_213 {h : Nat} {L : LVs} {st : List AV} {S : ST} {Q Q' : Option AV → ST → Prop} {j : Nat} {a0 : AV} (hC : Ct MX11_work h [vR 11 j, a0] S Q') (k : ∀ (r : Option AV) (S' : ST), Q' r S' → V MX11_update (h + 1) 216 L (r.toList ++ st) S' Q) (hj : j < NI 11) (hw : wid st ≤ 8) : V MX11_update (h + 1) 213 L (a0 :: vR 11 j :: st) S Q :=
  v_callV (M' := MX11_work) (c := 11) (As := [a0]) dX11_update_213 ml_X11_246 im_X11_work se_X11_work in_X11 cd_X11_work rfl LY_11 np_X11_work (by decide) hw hj hC k
theorem b_X11_update_216 {h : Nat} {L : LVs} {st : List AV} {S : ST} {Q : Option AV → ST → Prop} (k : o_iast L st S (fun L st S => o_al L st S (fun L st S => o_get L st S (fun L st S => o_il L st S (fun L st S => o_al L st S (fun L st S => o_get L st S (fun L st S => o_zast L st S (fun L st S => o_inc L st S (fun L st S => V MX11_update h 231 L st S Q) 9 (nI 1))) 11 29 (2, 0, 0)) 0) 10) 11 42 (3, 68, 0)) 0)) : V MX11_update h 216 L st S Q :=
  v_iastore dX11_update_216 (fun L st S k => v_aload_n dX11_update_217 rfl (fun L st S k => v_get dX11_update_218 rfl iX11 LY_11 rfl (by decide) rfl fl_X11_96 (fun L st S k => v_iload dX11_update_221 (fun L st S k => v_aload_n dX11_update_223 rfl (fun L st S k => v_get dX11_update_224 rfl iX11 LY_11 rfl (by decide) rfl fl_X11_242 (fun L st S k => v_zastore dX11_update_227 (fun L st S k => v_iinc dX11_update_228 (by decide) (by decide) (fun L st S k => k) k) k) k) k) k) k) k) k
theorem b_X11_update_231 {h : Nat} {L : LVs} {st : List AV} {S : ST} {Q : Option AV → ST → Prop} (k : o_inc L st S (fun L st S => V MX11_update h 147 L st S Q) 10 (nI 1)) : V MX11_update h 231 L st S Q :=
  v_iinc dX11_update_231 (by decide) (by decide) (fun L st S k => v_goto dX11_update_234 (by decide) k) k
theorem b_X11_update_237 {h : Nat} {L : LVs} {st : List AV} {S : ST} {Q : Option AV → ST → Prop} (k : o_c L st S (fun L st S => o_is L st S (fun L st S => V MX11_update h 240 L st S Q) 10) (nI 0)) : V MX11_update h 237 L st S Q :=
  v_iconst dX11_update_237 (by decide) (fun L st S k => v_istore dX11_update_238 (by decide) (fun L st S k => k) k) k
theorem b_X11_update_240 {h : Nat} {L : LVs} {st : List AV} {S : ST} {Q : Option AV → ST → Prop} (k : o_al L st S (fun L st S => o_get L st S (fun L st S => t_1 L st S (fun x => x = nI 0) (fun L st S => V MX11_update h 247 L st S Q) (fun L st S => V MX11_update h 347 L st S Q)) 11 28 (0, 0, 0)) 0) : V MX11_update h 240 L st S Q :=
  v_aload_n dX11_update_240 rfl (fun L st S k => v_get dX11_update_241 rfl iX11 LY_11 rfl (by decide) rfl fl_X11_219 (fun L st S k => w_if_ne dX11_update_244 (by decide) rfl k) k) k
theorem b_X11_update_247 {h : Nat} {L : LVs} {st : List AV} {S : ST} {Q : Option AV → ST → Prop} (k : o_il L st S (fun L st S => o_al L st S (fun L st S => o_get L st S (fun L st S => o_il L st S (fun L st S => o_iald L st S (fun L st S => t_2 L st S (fun x y => y ≤ x) (fun L st S => V MX11_update h 347 L st S Q) (fun L st S => V MX11_update h 259 L st S Q))) 8) 11 21 (3, 54, 0)) 0) 10) : V MX11_update h 247 L st S Q :=
  v_iload dX11_update_247 (fun L st S k => v_aload_n dX11_update_249 rfl (fun L st S k => v_get dX11_update_250 rfl iX11 LY_11 rfl (by decide) rfl fl_X11_54 (fun L st S k => v_iload dX11_update_253 (fun L st S k => v_iaload dX11_update_255 (fun L st S k => w_icmp_ge dX11_update_256 (by decide) rfl k) k) k) k) k) k
theorem b_X11_update_259 {h : Nat} {L : LVs} {st : List AV} {S : ST} {Q : Option AV → ST → Prop} (k : o_al L st S (fun L st S => o_get L st S (fun L st S => o_il L st S (fun L st S => o_zald L st S (fun L st S => t_1 L st S (fun x => x = nI 0) (fun L st S => V MX11_update h 341 L st S Q) (fun L st S => V MX11_update h 269 L st S Q))) 10) 11 43 (3, 69, 0)) 0) : V MX11_update h 259 L st S Q :=
  v_aload_n dX11_update_259 rfl (fun L st S k => v_get dX11_update_260 rfl iX11 LY_11 rfl (by decide) rfl fl_X11_99 (fun L st S k => v_iload dX11_update_263 (fun L st S k => v_zaload dX11_update_265 (fun L st S k => w_if_eq dX11_update_266 (by decide) rfl k) k) k) k) k
theorem b_X11_update_269 {h : Nat} {L : LVs} {st : List AV} {S : ST} {Q : Option AV → ST → Prop} (k : o_al L st S (fun L st S => o_get L st S (fun L st S => o_c L st S (fun L st S => o_il L st S (fun L st S => o_imul L st S (fun L st S => o_c L st S (fun L st S => o_il L st S (fun L st S => o_imul L st S (fun L st S => o_iadd L st S (fun L st S => o_al L st S (fun L st S => o_get L st S (fun L st S => o_il L st S (fun L st S => o_iald L st S (fun L st S => o_iadd L st S (fun L st S => o_al L st S (fun L st S => o_get L st S (fun L st S => o_il L st S (fun L st S => o_zald L st S (fun L st S => t_1 L st S (fun x => x = nI 0) (fun L st S => V MX11_update h 304 L st S Q) (fun L st S => V MX11_update h 300 L st S Q))) 10) 11 42 (3, 68, 0)) 0))) 3) 11 14 (3, 49, 0)) 0))) 10) (nI 4))) 8) (nI 96)) 11 22 (3, 55, 0)) 0) : V MX11_update h 269 L st S Q :=
  v_aload_n dX11_update_269 rfl (fun L st S k => v_get dX11_update_270 rfl iX11 LY_11 rfl (by decide) rfl fl_X11_57 (fun L st S k => v_bipush dX11_update_273 (by decide) (fun L st S k => v_iload dX11_update_275 (fun L st S k => v_imul dX11_update_277 (fun L st S k => v_iconst dX11_update_278 (by decide) (fun L st S k => v_iload dX11_update_279 (fun L st S k => v_imul dX11_update_281 (fun L st S k => v_iadd dX11_update_282 (fun L st S k => v_aload_n dX11_update_283 rfl (fun L st S k => v_get dX11_update_284 rfl iX11 LY_11 rfl (by decide) rfl fl_X11_38 (fun L st S k => v_iload_n dX11_update_287 rfl (fun L st S k => v_iaload dX11_update_288 (fun L st S k => v_iadd dX11_update_289 (fun L st S k => v_aload_n dX11_update_290 rfl (fun L st S k => v_get dX11_update_291 rfl iX11 LY_11 rfl (by decide) rfl fl_X11_96 (fun L st S k => v_iload dX11_update_294 (fun L st S k => v_zaload dX11_update_296 (fun L st S k => w_if_eq dX11_update_297 (by decide) rfl k) k) k) k) k) k) k) k) k) k) k) k) k) k) k) k) k) k) k
theorem b_X11_update_300 {h : Nat} {L : LVs} {st : List AV} {S : ST} {Q : Option AV → ST → Prop} (k : o_c L st S (fun L st S => V MX11_update h 311 L st S Q) (nI 0)) : V MX11_update h 300 L st S Q :=
  v_iconst dX11_update_300 (by decide) (fun L st S k => v_goto dX11_update_301 (by decide) k) k
theorem b_X11_update_304 {h : Nat} {L : LVs} {st : List AV} {S : ST} {Q : Option AV → ST → Prop} (k : o_al L st S (fun L st S => o_get L st S (fun L st S => o_il L st S (fun L st S => o_iald L st S (fun L st S => V MX11_update h 311 L st S Q)) 10) 11 41 (3, 67, 0)) 0) : V MX11_update h 304 L st S Q :=
  v_aload_n dX11_update_304 rfl (fun L st S k => v_get dX11_update_305 rfl iX11 LY_11 rfl (by decide) rfl fl_X11_93 (fun L st S k => v_iload dX11_update_308 (fun L st S k => v_iaload dX11_update_310 (fun L st S k => k) k) k) k) k
theorem b_X11_update_311 {h : Nat} {L : LVs} {st : List AV} {S : ST} {Q : Option AV → ST → Prop} (k : o_iast L st S (fun L st S => o_al L st S (fun L st S => o_get L st S (fun L st S => o_c L st S (fun L st S => o_il L st S (fun L st S => o_imul L st S (fun L st S => o_c L st S (fun L st S => o_il L st S (fun L st S => o_imul L st S (fun L st S => o_iadd L st S (fun L st S => o_al L st S (fun L st S => o_get L st S (fun L st S => o_il L st S (fun L st S => o_iald L st S (fun L st S => o_iadd L st S (fun L st S => o_al L st S (fun L st S => o_get L st S (fun L st S => o_il L st S (fun L st S => o_zald L st S (fun L st S => o_zast L st S (fun L st S => V MX11_update h 341 L st S Q))) 10) 11 42 (3, 68, 0)) 0))) 3) 11 14 (3, 49, 0)) 0))) 10) (nI 4))) 8) (nI 96)) 11 23 (3, 56, 0)) 0)) : V MX11_update h 311 L st S Q :=
  v_iastore dX11_update_311 (fun L st S k => v_aload_n dX11_update_312 rfl (fun L st S k => v_get dX11_update_313 rfl iX11 LY_11 rfl (by decide) rfl fl_X11_60 (fun L st S k => v_bipush dX11_update_316 (by decide) (fun L st S k => v_iload dX11_update_318 (fun L st S k => v_imul dX11_update_320 (fun L st S k => v_iconst dX11_update_321 (by decide) (fun L st S k => v_iload dX11_update_322 (fun L st S k => v_imul dX11_update_324 (fun L st S k => v_iadd dX11_update_325 (fun L st S k => v_aload_n dX11_update_326 rfl (fun L st S k => v_get dX11_update_327 rfl iX11 LY_11 rfl (by decide) rfl fl_X11_38 (fun L st S k => v_iload_n dX11_update_330 rfl (fun L st S k => v_iaload dX11_update_331 (fun L st S k => v_iadd dX11_update_332 (fun L st S k => v_aload_n dX11_update_333 rfl (fun L st S k => v_get dX11_update_334 rfl iX11 LY_11 rfl (by decide) rfl fl_X11_96 (fun L st S k => v_iload dX11_update_337 (fun L st S k => v_zaload dX11_update_339 (fun L st S k => v_zastore dX11_update_340 (fun L st S k => k) k) k) k) k) k) k) k) k) k) k) k) k) k) k) k) k) k) k) k) k
theorem b_X11_update_341 {h : Nat} {L : LVs} {st : List AV} {S : ST} {Q : Option AV → ST → Prop} (k : o_inc L st S (fun L st S => V MX11_update h 240 L st S Q) 10 (nI 1)) : V MX11_update h 341 L st S Q :=
  v_iinc dX11_update_341 (by decide) (by decide) (fun L st S k => v_goto dX11_update_344 (by decide) k) k
theorem b_X11_update_347 {h : Nat} {L : LVs} {st : List AV} {S : ST} {Q : Option AV → ST → Prop} (k : o_il L st S (fun L st S => t_ir st S Q) 9) : V MX11_update h 347 L st S Q :=
  v_iload dX11_update_347 (fun L st S k => w_ir dX11_update_349 rfl k) k
-- QueryForgeModel.isAggregate(I)Z
theorem dX11_isAggregate_0 : decode cX11_isAggregate 0 = .ok (.iload_n 0, 1) := by decide +kernel
theorem dX11_isAggregate_1 : decode cX11_isAggregate 1 = .ok (.bipush 18, 2) := by decide +kernel
theorem dX11_isAggregate_3 : decode cX11_isAggregate 3 = .ok (.if_icmp .lt 13, 3) := by decide +kernel
theorem dX11_isAggregate_6 : decode cX11_isAggregate 6 = .ok (.iload_n 0, 1) := by decide +kernel
theorem dX11_isAggregate_7 : decode cX11_isAggregate 7 = .ok (.bipush 21, 2) := by decide +kernel
theorem dX11_isAggregate_9 : decode cX11_isAggregate 9 = .ok (.if_icmp .gt 7, 3) := by decide +kernel
theorem dX11_isAggregate_12 : decode cX11_isAggregate 12 = .ok (.iconst 1, 1) := by decide +kernel
theorem dX11_isAggregate_13 : decode cX11_isAggregate 13 = .ok (.goto 4, 3) := by decide +kernel
theorem dX11_isAggregate_16 : decode cX11_isAggregate 16 = .ok (.iconst 0, 1) := by decide +kernel
theorem dX11_isAggregate_17 : decode cX11_isAggregate 17 = .ok (.ireturn, 1) := by decide +kernel
theorem b_X11_isAggregate_0 {h : Nat} {L : LVs} {st : List AV} {S : ST} {Q : Option AV → ST → Prop} (k : o_il L st S (fun L st S => o_c L st S (fun L st S => t_2 L st S (fun x y => x < y) (fun L st S => V MX11_isAggregate h 16 L st S Q) (fun L st S => V MX11_isAggregate h 6 L st S Q)) (nI 18)) 0) : V MX11_isAggregate h 0 L st S Q :=
  v_iload_n dX11_isAggregate_0 rfl (fun L st S k => v_bipush dX11_isAggregate_1 (by decide) (fun L st S k => w_icmp_lt dX11_isAggregate_3 (by decide) rfl k) k) k
theorem b_X11_isAggregate_6 {h : Nat} {L : LVs} {st : List AV} {S : ST} {Q : Option AV → ST → Prop} (k : o_il L st S (fun L st S => o_c L st S (fun L st S => t_2 L st S (fun x y => y < x) (fun L st S => V MX11_isAggregate h 16 L st S Q) (fun L st S => V MX11_isAggregate h 12 L st S Q)) (nI 21)) 0) : V MX11_isAggregate h 6 L st S Q :=
  v_iload_n dX11_isAggregate_6 rfl (fun L st S k => v_bipush dX11_isAggregate_7 (by decide) (fun L st S k => w_icmp_gt dX11_isAggregate_9 (by decide) rfl k) k) k
theorem b_X11_isAggregate_12 {h : Nat} {L : LVs} {st : List AV} {S : ST} {Q : Option AV → ST → Prop} (k : o_c L st S (fun L st S => V MX11_isAggregate h 17 L st S Q) (nI 1)) : V MX11_isAggregate h 12 L st S Q :=
  v_iconst dX11_isAggregate_12 (by decide) (fun L st S k => v_goto dX11_isAggregate_13 (by decide) k) k
theorem b_X11_isAggregate_16 {h : Nat} {L : LVs} {st : List AV} {S : ST} {Q : Option AV → ST → Prop} (k : o_c L st S (fun L st S => V MX11_isAggregate h 17 L st S Q) (nI 0)) : V MX11_isAggregate h 16 L st S Q :=
  v_iconst dX11_isAggregate_16 (by decide) (fun L st S k => k) k
theorem b_X11_isAggregate_17 {h : Nat} {L : LVs} {st : List AV} {S : ST} {Q : Option AV → ST → Prop} (k : t_zr st S Q) : V MX11_isAggregate h 17 L st S Q :=
  w_zr dX11_isAggregate_17 rfl k
-- QueryForgeModel.checkGroup(I)V
theorem dX11_checkGroup_0 : decode cX11_checkGroup 0 = .ok (.iconst 0, 1) := by decide +kernel
theorem dX11_checkGroup_1 : decode cX11_checkGroup 1 = .ok (.istore_n 2, 1) := by decide +kernel
theorem dX11_checkGroup_2 : decode cX11_checkGroup 2 = .ok (.iconst 0, 1) := by decide +kernel
theorem dX11_checkGroup_3 : decode cX11_checkGroup 3 = .ok (.istore_n 3, 1) := by decide +kernel
theorem dX11_checkGroup_4 : decode cX11_checkGroup 4 = .ok (.iload_n 3, 1) := by decide +kernel
theorem dX11_checkGroup_5 : decode cX11_checkGroup 5 = .ok (.aload_n 0, 1) := by decide +kernel
theorem dX11_checkGroup_6 : decode cX11_checkGroup 6 = .ok (.getfield 271, 3) := by decide +kernel
theorem dX11_checkGroup_9 : decode cX11_checkGroup 9 = .ok (.if_icmp .ge 34, 3) := by decide +kernel
theorem dX11_checkGroup_12 : decode cX11_checkGroup 12 = .ok (.iload_n 2, 1) := by decide +kernel
theorem dX11_checkGroup_13 : decode cX11_checkGroup 13 = .ok (.aload_n 0, 1) := by decide +kernel
theorem dX11_checkGroup_14 : decode cX11_checkGroup 14 = .ok (.getfield 20, 3) := by decide +kernel
theorem dX11_checkGroup_17 : decode cX11_checkGroup 17 = .ok (.aload_n 0, 1) := by decide +kernel
theorem dX11_checkGroup_18 : decode cX11_checkGroup 18 = .ok (.getfield 90, 3) := by decide +kernel
theorem dX11_checkGroup_21 : decode cX11_checkGroup 21 = .ok (.iload_n 3, 1) := by decide +kernel
theorem dX11_checkGroup_22 : decode cX11_checkGroup 22 = .ok (.iaload, 1) := by decide +kernel
theorem dX11_checkGroup_23 : decode cX11_checkGroup 23 = .ok (.iaload, 1) := by decide +kernel
theorem dX11_checkGroup_24 : decode cX11_checkGroup 24 = .ok (.invokestatic 274, 3) := by decide +kernel
theorem dX11_checkGroup_27 : decode cX11_checkGroup 27 = .ok (.ifCond .eq 7, 3) := by decide +kernel
theorem dX11_checkGroup_30 : decode cX11_checkGroup 30 = .ok (.iconst 1, 1) := by decide +kernel
theorem dX11_checkGroup_31 : decode cX11_checkGroup 31 = .ok (.goto 4, 3) := by decide +kernel
theorem dX11_checkGroup_34 : decode cX11_checkGroup 34 = .ok (.iconst 0, 1) := by decide +kernel
theorem dX11_checkGroup_35 : decode cX11_checkGroup 35 = .ok (.iadd, 1) := by decide +kernel
theorem dX11_checkGroup_36 : decode cX11_checkGroup 36 = .ok (.istore_n 2, 1) := by decide +kernel
theorem dX11_checkGroup_37 : decode cX11_checkGroup 37 = .ok (.iinc 3 1, 3) := by decide +kernel
theorem dX11_checkGroup_40 : decode cX11_checkGroup 40 = .ok (.goto (-36), 3) := by decide +kernel
theorem dX11_checkGroup_43 : decode cX11_checkGroup 43 = .ok (.iload_n 1, 1) := by decide +kernel
theorem dX11_checkGroup_44 : decode cX11_checkGroup 44 = .ok (.ifCond .ge 23, 3) := by decide +kernel
theorem dX11_checkGroup_47 : decode cX11_checkGroup 47 = .ok (.iload_n 2, 1) := by decide +kernel
theorem dX11_checkGroup_48 : decode cX11_checkGroup 48 = .ok (.ifCond .le 18, 3) := by decide +kernel
theorem dX11_checkGroup_51 : decode cX11_checkGroup 51 = .ok (.iload_n 2, 1) := by decide +kernel
theorem dX11_checkGroup_52 : decode cX11_checkGroup 52 = .ok (.aload_n 0, 1) := by decide +kernel
theorem dX11_checkGroup_53 : decode cX11_checkGroup 53 = .ok (.getfield 271, 3) := by decide +kernel
theorem dX11_checkGroup_56 : decode cX11_checkGroup 56 = .ok (.if_icmp .ge 10, 3) := by decide +kernel
theorem dX11_checkGroup_59 : decode cX11_checkGroup 59 = .ok (.aload_n 0, 1) := by decide +kernel
theorem dX11_checkGroup_60 : decode cX11_checkGroup 60 = .ok (.sipush (-1002), 3) := by decide +kernel
theorem dX11_checkGroup_63 : decode cX11_checkGroup 63 = .ok (.invokevirtual 229, 3) := by decide +kernel
theorem dX11_checkGroup_66 : decode cX11_checkGroup 66 = .ok (.return_, 1) := by decide +kernel
theorem dX11_checkGroup_67 : decode cX11_checkGroup 67 = .ok (.aload_n 0, 1) := by decide +kernel
theorem dX11_checkGroup_68 : decode cX11_checkGroup 68 = .ok (.getfield 90, 3) := by decide +kernel
theorem dX11_checkGroup_71 : decode cX11_checkGroup 71 = .ok (.iconst 0, 1) := by decide +kernel
theorem dX11_checkGroup_72 : decode cX11_checkGroup 72 = .ok (.iaload, 1) := by decide +kernel
theorem dX11_checkGroup_73 : decode cX11_checkGroup 73 = .ok (.istore_n 3, 1) := by decide +kernel
theorem dX11_checkGroup_74 : decode cX11_checkGroup 74 = .ok (.aload_n 0, 1) := by decide +kernel
theorem dX11_checkGroup_75 : decode cX11_checkGroup 75 = .ok (.getfield 20, 3) := by decide +kernel
theorem dX11_checkGroup_78 : decode cX11_checkGroup 78 = .ok (.iload_n 3, 1) := by decide +kernel
theorem dX11_checkGroup_79 : decode cX11_checkGroup 79 = .ok (.iaload, 1) := by decide +kernel
theorem dX11_checkGroup_80 : decode cX11_checkGroup 80 = .ok (.bipush 61, 2) := by decide +kernel
theorem dX11_checkGroup_82 : decode cX11_checkGroup 82 = .ok (.if_icmp .ne 37, 3) := by decide +kernel
theorem dX11_checkGroup_85 : decode cX11_checkGroup 85 = .ok (.aload_n 0, 1) := by decide +kernel
theorem dX11_checkGroup_86 : decode cX11_checkGroup 86 = .ok (.getfield 35, 3) := by decide +kernel
theorem dX11_checkGroup_89 : decode cX11_checkGroup 89 = .ok (.iload_n 3, 1) := by decide +kernel
theorem dX11_checkGroup_90 : decode cX11_checkGroup 90 = .ok (.iaload, 1) := by decide +kernel
theorem dX11_checkGroup_91 : decode cX11_checkGroup 91 = .ok (.aload_n 0, 1) := by decide +kernel
theorem dX11_checkGroup_92 : decode cX11_checkGroup 92 = .ok (.getfield 35, 3) := by decide +kernel
theorem dX11_checkGroup_95 : decode cX11_checkGroup 95 = .ok (.iload_n 1, 1) := by decide +kernel
theorem dX11_checkGroup_96 : decode cX11_checkGroup 96 = .ok (.iaload, 1) := by decide +kernel
theorem dX11_checkGroup_97 : decode cX11_checkGroup 97 = .ok (.if_icmp .ne 22, 3) := by decide +kernel
theorem dX11_checkGroup_100 : decode cX11_checkGroup 100 = .ok (.aload_n 0, 1) := by decide +kernel
theorem dX11_checkGroup_101 : decode cX11_checkGroup 101 = .ok (.getfield 38, 3) := by decide +kernel
theorem dX11_checkGroup_104 : decode cX11_checkGroup 104 = .ok (.iload_n 3, 1) := by decide +kernel
theorem dX11_checkGroup_105 : decode cX11_checkGroup 105 = .ok (.iaload, 1) := by decide +kernel
theorem dX11_checkGroup_106 : decode cX11_checkGroup 106 = .ok (.aload_n 0, 1) := by decide +kernel
theorem dX11_checkGroup_107 : decode cX11_checkGroup 107 = .ok (.getfield 38, 3) := by decide +kernel
theorem dX11_checkGroup_110 : decode cX11_checkGroup 110 = .ok (.iload_n 1, 1) := by decide +kernel
theorem dX11_checkGroup_111 : decode cX11_checkGroup 111 = .ok (.iaload, 1) := by decide +kernel
theorem dX11_checkGroup_112 : decode cX11_checkGroup 112 = .ok (.if_icmp .ne 7, 3) := by decide +kernel
theorem dX11_checkGroup_115 : decode cX11_checkGroup 115 = .ok (.iconst 1, 1) := by decide +kernel
theorem dX11_checkGroup_116 : decode cX11_checkGroup 116 = .ok (.goto 4, 3) := by decide +kernel
theorem dX11_checkGroup_119 : decode cX11_checkGroup 119 = .ok (.iconst 0, 1) := by decide +kernel
theorem dX11_checkGroup_120 : decode cX11_checkGroup 120 = .ok (.istore 4, 2) := by decide +kernel
theorem dX11_checkGroup_122 : decode cX11_checkGroup 122 = .ok (.iload 4, 2) := by decide +kernel
theorem dX11_checkGroup_124 : decode cX11_checkGroup 124 = .ok (.ifCond .eq 13, 3) := by decide +kernel
theorem dX11_checkGroup_127 : decode cX11_checkGroup 127 = .ok (.iload_n 2, 1) := by decide +kernel
theorem dX11_checkGroup_128 : decode cX11_checkGroup 128 = .ok (.aload_n 0, 1) := by decide +kernel
theorem dX11_checkGroup_129 : decode cX11_checkGroup 129 = .ok (.getfield 271, 3) := by decide +kernel
theorem dX11_checkGroup_132 : decode cX11_checkGroup 132 = .ok (.iconst 1, 1) := by decide +kernel
theorem dX11_checkGroup_133 : decode cX11_checkGroup 133 = .ok (.isub, 1) := by decide +kernel
theorem dX11_checkGroup_134 : decode cX11_checkGroup 134 = .ok (.if_icmp .eq 10, 3) := by decide +kernel
theorem dX11_checkGroup_137 : decode cX11_checkGroup 137 = .ok (.aload_n 0, 1) := by decide +kernel
theorem dX11_checkGroup_138 : decode cX11_checkGroup 138 = .ok (.sipush (-1002), 3) := by decide +kernel
theorem dX11_checkGroup_141 : decode cX11_checkGroup 141 = .ok (.invokevirtual 229, 3) := by decide +kernel
theorem dX11_checkGroup_144 : decode cX11_checkGroup 144 = .ok (.return_, 1) := by decide +kernel
theorem b_X11_checkGroup_0 {h : Nat} {L : LVs} {st : List AV} {S : ST} {Q : Option AV → ST → Prop} (k : o_c L st S (fun L st S => o_is L st S (fun L st S => o_c L st S (fun L st S => o_is L st S (fun L st S => V MX11_checkGroup h 4 L st S Q) 3) (nI 0)) 2) (nI 0)) : V MX11_checkGroup h 0 L st S Q :=
  v_iconst dX11_checkGroup_0 (by decide) (fun L st S k => v_istore_n dX11_checkGroup_1 rfl (by decide) (fun L st S k => v_iconst dX11_checkGroup_2 (by decide) (fun L st S k => v_istore_n dX11_checkGroup_3 rfl (by decide) (fun L st S k => k) k) k) k) k
theorem b_X11_checkGroup_4 {h : Nat} {L : LVs} {st : List AV} {S : ST} {Q : Option AV → ST → Prop} (k : o_il L st S (fun L st S => o_al L st S (fun L st S => o_get L st S (fun L st S => t_2 L st S (fun x y => y ≤ x) (fun L st S => V MX11_checkGroup h 43 L st S Q) (fun L st S => V MX11_checkGroup h 12 L st S Q)) 11 40 (0, 0, 0)) 0) 3) : V MX11_checkGroup h 4 L st S Q :=
  v_iload_n dX11_checkGroup_4 rfl (fun L st S k => v_aload_n dX11_checkGroup_5 rfl (fun L st S k => v_get dX11_checkGroup_6 rfl iX11 LY_11 rfl (by decide) rfl fl_X11_271 (fun L st S k => w_icmp_ge dX11_checkGroup_9 (by decide) rfl k) k) k) k
theorem b_X11_checkGroup_12 {h : Nat} {L : LVs} {st : List AV} {S : ST} {Q : Option AV → ST → Prop} (k : o_il L st S (fun L st S => o_al L st S (fun L st S => o_get L st S (fun L st S => o_al L st S (fun L st S => o_get L st S (fun L st S => o_il L st S (fun L st S => o_iald L st S (fun L st S => o_iald L st S (fun L st S => V MX11_checkGroup h 24 L st S Q))) 3) 11 39 (3, 66, 0)) 0) 11 8 (3, 43, 0)) 0) 2) : V MX11_checkGroup h 12 L st S Q :=
  v_iload_n dX11_checkGroup_12 rfl (fun L st S k => v_aload_n dX11_checkGroup_13 rfl (fun L st S k => v_get dX11_checkGroup_14 rfl iX11 LY_11 rfl (by decide) rfl fl_X11_20 (fun L st S k => v_aload_n dX11_checkGroup_17 rfl (fun L st S k => v_get dX11_checkGroup_18 rfl iX11 LY_11 rfl (by decide) rfl fl_X11_90 (fun L st S k => v_iload_n dX11_checkGroup_21 rfl (fun L st S k => v_iaload dX11_checkGroup_22 (fun L st S k => v_iaload dX11_checkGroup_23 (fun L st S k => k) k) k) k) k) k) k) k) k
theorem k_X11_checkGroup_24 {h : Nat} {L : LVs} {st : List AV} {S : ST} {Q Q' : Option AV → ST → Prop} {a0 : AV} (hC : Ct MX11_isAggregate h [a0] S Q') (k : ∀ (r : Option AV) (S' : ST), Q' r S' → V MX11_checkGroup (h + 1) 27 L (r.toList ++ st) S' Q) (hw : wid st ≤ 8) : V MX11_checkGroup (h + 1) 24 L (a0 :: st) S Q :=
  v_callS (M' := MX11_isAggregate) (As := [a0]) dX11_checkGroup_24 ml_X11_274 sm_X11_isAggregate in_X11 cd_X11_isAggregate ⟨rfl, np_X11_isAggregate⟩ (by decide) hw hC k
theorem b_X11_checkGroup_27 {h : Nat} {L : LVs} {st : List AV} {S : ST} {Q : Option AV → ST → Prop} (k : t_1 L st S (fun x => x = nI 0) (fun L st S => V MX11_checkGroup h 34 L st S Q) (fun L st S => V MX11_checkGroup h 30 L st S Q)) : V MX11_checkGroup h 27 L st S Q :=
  w_if_eq dX11_checkGroup_27 (by decide) rfl k
theorem b_X11_checkGroup_30 {h : Nat} {L : LVs} {st : List AV} {S : ST} {Q : Option AV → ST → Prop} (k : o_c L st S (fun L st S => V MX11_checkGroup h 35 L st S Q) (nI 1)) : V MX11_checkGroup h 30 L st S Q :=
  v_iconst dX11_checkGroup_30 (by decide) (fun L st S k => v_goto dX11_checkGroup_31 (by decide) k) k
theorem b_X11_checkGroup_34 {h : Nat} {L : LVs} {st : List AV} {S : ST} {Q : Option AV → ST → Prop} (k : o_c L st S (fun L st S => V MX11_checkGroup h 35 L st S Q) (nI 0)) : V MX11_checkGroup h 34 L st S Q :=
  v_iconst dX11_checkGroup_34 (by decide) (fun L st S k => k) k
theorem b_X11_checkGroup_35 {h : Nat} {L : LVs} {st : List AV} {S : ST} {Q : Option AV → ST → Prop} (k : o_iadd L st S (fun L st S => o_is L st S (fun L st S => o_inc L st S (fun L st S => V MX11_checkGroup h 4 L st S Q) 3 (nI 1)) 2)) : V MX11_checkGroup h 35 L st S Q :=
  v_iadd dX11_checkGroup_35 (fun L st S k => v_istore_n dX11_checkGroup_36 rfl (by decide) (fun L st S k => v_iinc dX11_checkGroup_37 (by decide) (by decide) (fun L st S k => v_goto dX11_checkGroup_40 (by decide) k) k) k) k
theorem b_X11_checkGroup_43 {h : Nat} {L : LVs} {st : List AV} {S : ST} {Q : Option AV → ST → Prop} (k : o_il L st S (fun L st S => t_1 L st S (fun x => nI 0 ≤ x) (fun L st S => V MX11_checkGroup h 67 L st S Q) (fun L st S => V MX11_checkGroup h 47 L st S Q)) 1) : V MX11_checkGroup h 43 L st S Q :=
  v_iload_n dX11_checkGroup_43 rfl (fun L st S k => w_if_ge dX11_checkGroup_44 (by decide) rfl k) k
theorem b_X11_checkGroup_47 {h : Nat} {L : LVs} {st : List AV} {S : ST} {Q : Option AV → ST → Prop} (k : o_il L st S (fun L st S => t_1 L st S (fun x => x ≤ nI 0) (fun L st S => V MX11_checkGroup h 66 L st S Q) (fun L st S => V MX11_checkGroup h 51 L st S Q)) 2) : V MX11_checkGroup h 47 L st S Q :=
  v_iload_n dX11_checkGroup_47 rfl (fun L st S k => w_if_le dX11_checkGroup_48 (by decide) rfl k) k
theorem b_X11_checkGroup_51 {h : Nat} {L : LVs} {st : List AV} {S : ST} {Q : Option AV → ST → Prop} (k : o_il L st S (fun L st S => o_al L st S (fun L st S => o_get L st S (fun L st S => t_2 L st S (fun x y => y ≤ x) (fun L st S => V MX11_checkGroup h 66 L st S Q) (fun L st S => V MX11_checkGroup h 59 L st S Q)) 11 40 (0, 0, 0)) 0) 2) : V MX11_checkGroup h 51 L st S Q :=
  v_iload_n dX11_checkGroup_51 rfl (fun L st S k => v_aload_n dX11_checkGroup_52 rfl (fun L st S k => v_get dX11_checkGroup_53 rfl iX11 LY_11 rfl (by decide) rfl fl_X11_271 (fun L st S k => w_icmp_ge dX11_checkGroup_56 (by decide) rfl k) k) k) k
theorem b_X11_checkGroup_59 {h : Nat} {L : LVs} {st : List AV} {S : ST} {Q : Option AV → ST → Prop} (k : o_al L st S (fun L st S => o_c L st S (fun L st S => V MX11_checkGroup h 63 L st S Q) (-1002)) 0) : V MX11_checkGroup h 59 L st S Q :=
  v_aload_n dX11_checkGroup_59 rfl (fun L st S k => v_sipush dX11_checkGroup_60 (by decide) (fun L st S k => k) k) k
theorem k_X11_checkGroup_63 {h : Nat} {L : LVs} {st : List AV} {S : ST} {Q Q' : Option AV → ST → Prop} {j : Nat} {a0 : AV} (hC : Ct MX11_fails h [vR 11 j, a0] S Q') (k : ∀ (r : Option AV) (S' : ST), Q' r S' → V MX11_checkGroup (h + 1) 66 L (r.toList ++ st) S' Q) (hj : j < NI 11) (hw : wid st ≤ 8) : V MX11_checkGroup (h + 1) 63 L (a0 :: vR 11 j :: st) S Q :=
  v_callV (M' := MX11_fails) (c := 11) (As := [a0]) dX11_checkGroup_63 ml_X11_229 im_X11_fails se_X11_fails in_X11 cd_X11_fails rfl LY_11 np_X11_fails (by decide) hw hj hC k
theorem b_X11_checkGroup_66 {h : Nat} {L : LVs} {st : List AV} {S : ST} {Q : Option AV → ST → Prop} (k : t_vr st S Q) : V MX11_checkGroup h 66 L st S Q :=
  w_vr dX11_checkGroup_66 rfl k
theorem b_X11_checkGroup_67 {h : Nat} {L : LVs} {st : List AV} {S : ST} {Q : Option AV → ST → Prop} (k : o_al L st S (fun L st S => o_get L st S (fun L st S => o_c L st S (fun L st S => o_iald L st S (fun L st S => o_is L st S (fun L st S => o_al L st S (fun L st S => o_get L st S (fun L st S => o_il L st S (fun L st S => o_iald L st S (fun L st S => o_c L st S (fun L st S => t_2 L st S (fun x y => x = y) (fun L st S => V MX11_checkGroup h 85 L st S Q) (fun L st S => V MX11_checkGroup h 119 L st S Q)) (nI 61))) 3) 11 8 (3, 43, 0)) 0) 3)) (nI 0)) 11 39 (3, 66, 0)) 0) : V MX11_checkGroup h 67 L st S Q :=
  v_aload_n dX11_checkGroup_67 rfl (fun L st S k => v_get dX11_checkGroup_68 rfl iX11 LY_11 rfl (by decide) rfl fl_X11_90 (fun L st S k => v_iconst dX11_checkGroup_71 (by decide) (fun L st S k => v_iaload dX11_checkGroup_72 (fun L st S k => v_istore_n dX11_checkGroup_73 rfl (by decide) (fun L st S k => v_aload_n dX11_checkGroup_74 rfl (fun L st S k => v_get dX11_checkGroup_75 rfl iX11 LY_11 rfl (by decide) rfl fl_X11_20 (fun L st S k => v_iload_n dX11_checkGroup_78 rfl (fun L st S k => v_iaload dX11_checkGroup_79 (fun L st S k => v_bipush dX11_checkGroup_80 (by decide) (fun L st S k => w_icmp_ne dX11_checkGroup_82 (by decide) rfl k) k) k) k) k) k) k) k) k) k) k
theorem b_X11_checkGroup_85 {h : Nat} {L : LVs} {st : List AV} {S : ST} {Q : Option AV → ST → Prop} (k : o_al L st S (fun L st S => o_get L st S (fun L st S => o_il L st S (fun L st S => o_iald L st S (fun L st S => o_al L st S (fun L st S => o_get L st S (fun L st S => o_il L st S (fun L st S => o_iald L st S (fun L st S => t_2 L st S (fun x y => x = y) (fun L st S => V MX11_checkGroup h 100 L st S Q) (fun L st S => V MX11_checkGroup h 119 L st S Q))) 1) 11 13 (3, 48, 0)) 0)) 3) 11 13 (3, 48, 0)) 0) : V MX11_checkGroup h 85 L st S Q :=
  v_aload_n dX11_checkGroup_85 rfl (fun L st S k => v_get dX11_checkGroup_86 rfl iX11 LY_11 rfl (by decide) rfl fl_X11_35 (fun L st S k => v_iload_n dX11_checkGroup_89 rfl (fun L st S k => v_iaload dX11_checkGroup_90 (fun L st S k => v_aload_n dX11_checkGroup_91 rfl (fun L st S k => v_get dX11_checkGroup_92 rfl iX11 LY_11 rfl (by decide) rfl fl_X11_35 (fun L st S k => v_iload_n dX11_checkGroup_95 rfl (fun L st S k => v_iaload dX11_checkGroup_96 (fun L st S k => w_icmp_ne dX11_checkGroup_97 (by decide) rfl k) k) k) k) k) k) k) k) k
theorem b_X11_checkGroup_100 {h : Nat} {L : LVs} {st : List AV} {S : ST} {Q : Option AV → ST → Prop} (k : o_al L st S (fun L st S => o_get L st S (fun L st S => o_il L st S (fun L st S => o_iald L st S (fun L st S => o_al L st S (fun L st S => o_get L st S (fun L st S => o_il L st S (fun L st S => o_iald L st S (fun L st S => t_2 L st S (fun x y => x = y) (fun L st S => V MX11_checkGroup h 115 L st S Q) (fun L st S => V MX11_checkGroup h 119 L st S Q))) 1) 11 14 (3, 49, 0)) 0)) 3) 11 14 (3, 49, 0)) 0) : V MX11_checkGroup h 100 L st S Q :=
  v_aload_n dX11_checkGroup_100 rfl (fun L st S k => v_get dX11_checkGroup_101 rfl iX11 LY_11 rfl (by decide) rfl fl_X11_38 (fun L st S k => v_iload_n dX11_checkGroup_104 rfl (fun L st S k => v_iaload dX11_checkGroup_105 (fun L st S k => v_aload_n dX11_checkGroup_106 rfl (fun L st S k => v_get dX11_checkGroup_107 rfl iX11 LY_11 rfl (by decide) rfl fl_X11_38 (fun L st S k => v_iload_n dX11_checkGroup_110 rfl (fun L st S k => v_iaload dX11_checkGroup_111 (fun L st S k => w_icmp_ne dX11_checkGroup_112 (by decide) rfl k) k) k) k) k) k) k) k) k
theorem b_X11_checkGroup_115 {h : Nat} {L : LVs} {st : List AV} {S : ST} {Q : Option AV → ST → Prop} (k : o_c L st S (fun L st S => V MX11_checkGroup h 120 L st S Q) (nI 1)) : V MX11_checkGroup h 115 L st S Q :=
  v_iconst dX11_checkGroup_115 (by decide) (fun L st S k => v_goto dX11_checkGroup_116 (by decide) k) k
theorem b_X11_checkGroup_119 {h : Nat} {L : LVs} {st : List AV} {S : ST} {Q : Option AV → ST → Prop} (k : o_c L st S (fun L st S => V MX11_checkGroup h 120 L st S Q) (nI 0)) : V MX11_checkGroup h 119 L st S Q :=
  v_iconst dX11_checkGroup_119 (by decide) (fun L st S k => k) k
theorem b_X11_checkGroup_120 {h : Nat} {L : LVs} {st : List AV} {S : ST} {Q : Option AV → ST → Prop} (k : o_is L st S (fun L st S => o_il L st S (fun L st S => t_1 L st S (fun x => x = nI 0) (fun L st S => V MX11_checkGroup h 137 L st S Q) (fun L st S => V MX11_checkGroup h 127 L st S Q)) 4) 4) : V MX11_checkGroup h 120 L st S Q :=
  v_istore dX11_checkGroup_120 (by decide) (fun L st S k => v_iload dX11_checkGroup_122 (fun L st S k => w_if_eq dX11_checkGroup_124 (by decide) rfl k) k) k
theorem b_X11_checkGroup_127 {h : Nat} {L : LVs} {st : List AV} {S : ST} {Q : Option AV → ST → Prop} (k : o_il L st S (fun L st S => o_al L st S (fun L st S => o_get L st S (fun L st S => o_c L st S (fun L st S => o_isub L st S (fun L st S => t_2 L st S (fun x y => x = y) (fun L st S => V MX11_checkGroup h 144 L st S Q) (fun L st S => V MX11_checkGroup h 137 L st S Q))) (nI 1)) 11 40 (0, 0, 0)) 0) 2) : V MX11_checkGroup h 127 L st S Q :=
  v_iload_n dX11_checkGroup_127 rfl (fun L st S k => v_aload_n dX11_checkGroup_128 rfl (fun L st S k => v_get dX11_checkGroup_129 rfl iX11 LY_11 rfl (by decide) rfl fl_X11_271 (fun L st S k => v_iconst dX11_checkGroup_132 (by decide) (fun L st S k => v_isub dX11_checkGroup_133 (fun L st S k => w_icmp_eq dX11_checkGroup_134 (by decide) rfl k) k) k) k) k) k
theorem b_X11_checkGroup_137 {h : Nat} {L : LVs} {st : List AV} {S : ST} {Q : Option AV → ST → Prop} (k : o_al L st S (fun L st S => o_c L st S (fun L st S => V MX11_checkGroup h 141 L st S Q) (-1002)) 0) : V MX11_checkGroup h 137 L st S Q :=
  v_aload_n dX11_checkGroup_137 rfl (fun L st S k => v_sipush dX11_checkGroup_138 (by decide) (fun L st S k => k) k) k
theorem k_X11_checkGroup_141 {h : Nat} {L : LVs} {st : List AV} {S : ST} {Q Q' : Option AV → ST → Prop} {j : Nat} {a0 : AV} (hC : Ct MX11_fails h [vR 11 j, a0] S Q') (k : ∀ (r : Option AV) (S' : ST), Q' r S' → V MX11_checkGroup (h + 1) 144 L (r.toList ++ st) S' Q) (hj : j < NI 11) (hw : wid st ≤ 8) : V MX11_checkGroup (h + 1) 141 L (a0 :: vR 11 j :: st) S Q :=
  v_callV (M' := MX11_fails) (c := 11) (As := [a0]) dX11_checkGroup_141 ml_X11_229 im_X11_fails se_X11_fails in_X11 cd_X11_fails rfl LY_11 np_X11_fails (by decide) hw hj hC k
theorem b_X11_checkGroup_144 {h : Nat} {L : LVs} {st : List AV} {S : ST} {Q : Option AV → ST → Prop} (k : t_vr st S Q) : V MX11_checkGroup h 144 L st S Q :=
  w_vr dX11_checkGroup_144 rfl k
-- QueryForgeModel.rowFor(IZ)I
theorem dX11_rowFor_0 : decode cX11_rowFor 0 = .ok (.iload_n 1, 1) := by decide +kernel
theorem dX11_rowFor_1 : decode cX11_rowFor 1 = .ok (.ifCond .ge 35, 3) := by decide +kernel
theorem dX11_rowFor_4 : decode cX11_rowFor 4 = .ok (.aload_n 0, 1) := by decide +kernel
theorem dX11_rowFor_5 : decode cX11_rowFor 5 = .ok (.dup, 1) := by decide +kernel
theorem dX11_rowFor_6 : decode cX11_rowFor 6 = .ok (.getfield 277, 3) := by decide +kernel
theorem dX11_rowFor_9 : decode cX11_rowFor 9 = .ok (.iload_n 2, 1) := by decide +kernel
theorem dX11_rowFor_10 : decode cX11_rowFor 10 = .ok (.ifCond .eq 14, 3) := by decide +kernel
theorem dX11_rowFor_13 : decode cX11_rowFor 13 = .ok (.aload_n 0, 1) := by decide +kernel
theorem dX11_rowFor_14 : decode cX11_rowFor 14 = .ok (.getfield 277, 3) := by decide +kernel
theorem dX11_rowFor_17 : decode cX11_rowFor 17 = .ok (.ifCond .le 7, 3) := by decide +kernel
theorem dX11_rowFor_20 : decode cX11_rowFor 20 = .ok (.iconst 0, 1) := by decide +kernel
theorem dX11_rowFor_21 : decode cX11_rowFor 21 = .ok (.goto 4, 3) := by decide +kernel
theorem dX11_rowFor_24 : decode cX11_rowFor 24 = .ok (.iconst 1, 1) := by decide +kernel
theorem dX11_rowFor_25 : decode cX11_rowFor 25 = .ok (.iadd, 1) := by decide +kernel
theorem dX11_rowFor_26 : decode cX11_rowFor 26 = .ok (.putfield 277, 3) := by decide +kernel
theorem dX11_rowFor_29 : decode cX11_rowFor 29 = .ok (.aload_n 0, 1) := by decide +kernel
theorem dX11_rowFor_30 : decode cX11_rowFor 30 = .ok (.getfield 277, 3) := by decide +kernel
theorem dX11_rowFor_33 : decode cX11_rowFor 33 = .ok (.iconst 1, 1) := by decide +kernel
theorem dX11_rowFor_34 : decode cX11_rowFor 34 = .ok (.isub, 1) := by decide +kernel
theorem dX11_rowFor_35 : decode cX11_rowFor 35 = .ok (.ireturn, 1) := by decide +kernel
theorem dX11_rowFor_36 : decode cX11_rowFor 36 = .ok (.aload_n 0, 1) := by decide +kernel
theorem dX11_rowFor_37 : decode cX11_rowFor 37 = .ok (.iload_n 1, 1) := by decide +kernel
theorem dX11_rowFor_38 : decode cX11_rowFor 38 = .ok (.invokevirtual 246, 3) := by decide +kernel
theorem dX11_rowFor_41 : decode cX11_rowFor 41 = .ok (.istore_n 3, 1) := by decide +kernel
theorem dX11_rowFor_42 : decode cX11_rowFor 42 = .ok (.aload_n 0, 1) := by decide +kernel
theorem dX11_rowFor_43 : decode cX11_rowFor 43 = .ok (.getfield 242, 3) := by decide +kernel
theorem dX11_rowFor_46 : decode cX11_rowFor 46 = .ok (.istore 4, 2) := by decide +kernel
theorem dX11_rowFor_48 : decode cX11_rowFor 48 = .ok (.iconst 0, 1) := by decide +kernel
theorem dX11_rowFor_49 : decode cX11_rowFor 49 = .ok (.istore 5, 2) := by decide +kernel
theorem dX11_rowFor_51 : decode cX11_rowFor 51 = .ok (.iload 5, 2) := by decide +kernel
theorem dX11_rowFor_53 : decode cX11_rowFor 53 = .ok (.aload_n 0, 1) := by decide +kernel
theorem dX11_rowFor_54 : decode cX11_rowFor 54 = .ok (.getfield 277, 3) := by decide +kernel
theorem dX11_rowFor_57 : decode cX11_rowFor 57 = .ok (.if_icmp .ge 44, 3) := by decide +kernel
theorem dX11_rowFor_60 : decode cX11_rowFor 60 = .ok (.aload_n 0, 1) := by decide +kernel
theorem dX11_rowFor_61 : decode cX11_rowFor 61 = .ok (.getfield 81, 3) := by decide +kernel
theorem dX11_rowFor_64 : decode cX11_rowFor 64 = .ok (.iconst 4, 1) := by decide +kernel
theorem dX11_rowFor_65 : decode cX11_rowFor 65 = .ok (.iload 5, 2) := by decide +kernel
theorem dX11_rowFor_67 : decode cX11_rowFor 67 = .ok (.imul, 1) := by decide +kernel
theorem dX11_rowFor_68 : decode cX11_rowFor 68 = .ok (.baload, 1) := by decide +kernel
theorem dX11_rowFor_69 : decode cX11_rowFor 69 = .ok (.iload 4, 2) := by decide +kernel
theorem dX11_rowFor_71 : decode cX11_rowFor 71 = .ok (.if_icmp .ne 24, 3) := by decide +kernel
theorem dX11_rowFor_74 : decode cX11_rowFor 74 = .ok (.iload 4, 2) := by decide +kernel
theorem dX11_rowFor_76 : decode cX11_rowFor 76 = .ok (.ifCond .ne 16, 3) := by decide +kernel
theorem dX11_rowFor_79 : decode cX11_rowFor 79 = .ok (.aload_n 0, 1) := by decide +kernel
theorem dX11_rowFor_80 : decode cX11_rowFor 80 = .ok (.getfield 78, 3) := by decide +kernel
theorem dX11_rowFor_83 : decode cX11_rowFor 83 = .ok (.iconst 4, 1) := by decide +kernel
theorem dX11_rowFor_84 : decode cX11_rowFor 84 = .ok (.iload 5, 2) := by decide +kernel
theorem dX11_rowFor_86 : decode cX11_rowFor 86 = .ok (.imul, 1) := by decide +kernel
theorem dX11_rowFor_87 : decode cX11_rowFor 87 = .ok (.iaload, 1) := by decide +kernel
theorem dX11_rowFor_88 : decode cX11_rowFor 88 = .ok (.iload_n 3, 1) := by decide +kernel
theorem dX11_rowFor_89 : decode cX11_rowFor 89 = .ok (.if_icmp .ne 6, 3) := by decide +kernel
theorem dX11_rowFor_92 : decode cX11_rowFor 92 = .ok (.iload 5, 2) := by decide +kernel
theorem dX11_rowFor_94 : decode cX11_rowFor 94 = .ok (.ireturn, 1) := by decide +kernel
theorem dX11_rowFor_95 : decode cX11_rowFor 95 = .ok (.iinc 5 1, 3) := by decide +kernel
theorem dX11_rowFor_98 : decode cX11_rowFor 98 = .ok (.goto (-47), 3) := by decide +kernel
theorem dX11_rowFor_101 : decode cX11_rowFor 101 = .ok (.aload_n 0, 1) := by decide +kernel
theorem dX11_rowFor_102 : decode cX11_rowFor 102 = .ok (.dup, 1) := by decide +kernel
theorem dX11_rowFor_103 : decode cX11_rowFor 103 = .ok (.getfield 277, 3) := by decide +kernel
theorem dX11_rowFor_106 : decode cX11_rowFor 106 = .ok (.iconst 1, 1) := by decide +kernel
theorem dX11_rowFor_107 : decode cX11_rowFor 107 = .ok (.iadd, 1) := by decide +kernel
theorem dX11_rowFor_108 : decode cX11_rowFor 108 = .ok (.putfield 277, 3) := by decide +kernel
theorem dX11_rowFor_111 : decode cX11_rowFor 111 = .ok (.aload_n 0, 1) := by decide +kernel
theorem dX11_rowFor_112 : decode cX11_rowFor 112 = .ok (.getfield 277, 3) := by decide +kernel
theorem dX11_rowFor_115 : decode cX11_rowFor 115 = .ok (.iconst 1, 1) := by decide +kernel
theorem dX11_rowFor_116 : decode cX11_rowFor 116 = .ok (.isub, 1) := by decide +kernel
theorem dX11_rowFor_117 : decode cX11_rowFor 117 = .ok (.ireturn, 1) := by decide +kernel
theorem b_X11_rowFor_0 {h : Nat} {L : LVs} {st : List AV} {S : ST} {Q : Option AV → ST → Prop} (k : o_il L st S (fun L st S => t_1 L st S (fun x => nI 0 ≤ x) (fun L st S => V MX11_rowFor h 36 L st S Q) (fun L st S => V MX11_rowFor h 4 L st S Q)) 1) : V MX11_rowFor h 0 L st S Q :=
  v_iload_n dX11_rowFor_0 rfl (fun L st S k => w_if_ge dX11_rowFor_1 (by decide) rfl k) k
theorem b_X11_rowFor_4 {h : Nat} {L : LVs} {st : List AV} {S : ST} {Q : Option AV → ST → Prop} (k : o_al L st S (fun L st S => o_dup L st S (fun L st S => o_get L st S (fun L st S => o_il L st S (fun L st S => t_1 L st S (fun x => x = nI 0) (fun L st S => V MX11_rowFor h 24 L st S Q) (fun L st S => V MX11_rowFor h 13 L st S Q)) 2) 11 34 (0, 0, 0))) 0) : V MX11_rowFor h 4 L st S Q :=
  v_aload_n dX11_rowFor_4 rfl (fun L st S k => v_dup dX11_rowFor_5 (fun L st S k => v_get dX11_rowFor_6 rfl iX11 LY_11 rfl (by decide) rfl fl_X11_277 (fun L st S k => v_iload_n dX11_rowFor_9 rfl (fun L st S k => w_if_eq dX11_rowFor_10 (by decide) rfl k) k) k) k) k
theorem b_X11_rowFor_13 {h : Nat} {L : LVs} {st : List AV} {S : ST} {Q : Option AV → ST → Prop} (k : o_al L st S (fun L st S => o_get L st S (fun L st S => t_1 L st S (fun x => x ≤ nI 0) (fun L st S => V MX11_rowFor h 24 L st S Q) (fun L st S => V MX11_rowFor h 20 L st S Q)) 11 34 (0, 0, 0)) 0) : V MX11_rowFor h 13 L st S Q :=
  v_aload_n dX11_rowFor_13 rfl (fun L st S k => v_get dX11_rowFor_14 rfl iX11 LY_11 rfl (by decide) rfl fl_X11_277 (fun L st S k => w_if_le dX11_rowFor_17 (by decide) rfl k) k) k
theorem b_X11_rowFor_20 {h : Nat} {L : LVs} {st : List AV} {S : ST} {Q : Option AV → ST → Prop} (k : o_c L st S (fun L st S => V MX11_rowFor h 25 L st S Q) (nI 0)) : V MX11_rowFor h 20 L st S Q :=
  v_iconst dX11_rowFor_20 (by decide) (fun L st S k => v_goto dX11_rowFor_21 (by decide) k) k
theorem b_X11_rowFor_24 {h : Nat} {L : LVs} {st : List AV} {S : ST} {Q : Option AV → ST → Prop} (k : o_c L st S (fun L st S => V MX11_rowFor h 25 L st S Q) (nI 1)) : V MX11_rowFor h 24 L st S Q :=
  v_iconst dX11_rowFor_24 (by decide) (fun L st S k => k) k
theorem b_X11_rowFor_25 {h : Nat} {L : LVs} {st : List AV} {S : ST} {Q : Option AV → ST → Prop} (k : o_iadd L st S (fun L st S => o_puti L st S (fun L st S => o_al L st S (fun L st S => o_get L st S (fun L st S => o_c L st S (fun L st S => o_isub L st S (fun L st S => t_ir st S Q)) (nI 1)) 11 34 (0, 0, 0)) 0) 11 34)) : V MX11_rowFor h 25 L st S Q :=
  v_iadd dX11_rowFor_25 (fun L st S k => v_puti dX11_rowFor_26 rfl iX11 tyX11_ok nmX11 LY_11 rfl (by decide) rfl fl_X11_277 rfl rfl (fun L st S k => v_aload_n dX11_rowFor_29 rfl (fun L st S k => v_get dX11_rowFor_30 rfl iX11 LY_11 rfl (by decide) rfl fl_X11_277 (fun L st S k => v_iconst dX11_rowFor_33 (by decide) (fun L st S k => v_isub dX11_rowFor_34 (fun L st S k => w_ir dX11_rowFor_35 rfl k) k) k) k) k) k) k
theorem b_X11_rowFor_36 {h : Nat} {L : LVs} {st : List AV} {S : ST} {Q : Option AV → ST → Prop} (k : o_al L st S (fun L st S => o_il L st S (fun L st S => V MX11_rowFor h 38 L st S Q) 1) 0) : V MX11_rowFor h 36 L st S Q :=
  v_aload_n dX11_rowFor_36 rfl (fun L st S k => v_iload_n dX11_rowFor_37 rfl (fun L st S k => k) k) k
theorem k_X11_rowFor_38 {h : Nat} {L : LVs} {st : List AV} {S : ST} {Q Q' : Option AV → ST → Prop} {j : Nat} {a0 : AV} (hC : Ct MX11_work h [vR 11 j, a0] S Q') (k : ∀ (r : Option AV) (S' : ST), Q' r S' → V MX11_rowFor (h + 1) 41 L (r.toList ++ st) S' Q) (hj : j < NI 11) (hw : wid st ≤ 8) : V MX11_rowFor (h + 1) 38 L (a0 :: vR 11 j :: st) S Q :=
  v_callV (M' := MX11_work) (c := 11) (As := [a0]) dX11_rowFor_38 ml_X11_246 im_X11_work se_X11_work in_X11 cd_X11_work rfl LY_11 np_X11_work (by decide) hw hj hC k
theorem b_X11_rowFor_41 {h : Nat} {L : LVs} {st : List AV} {S : ST} {Q : Option AV → ST → Prop} (k : o_is L st S (fun L st S => o_al L st S (fun L st S => o_get L st S (fun L st S => o_is L st S (fun L st S => o_c L st S (fun L st S => o_is L st S (fun L st S => V MX11_rowFor h 51 L st S Q) 5) (nI 0)) 4) 11 29 (2, 0, 0)) 0) 3) : V MX11_rowFor h 41 L st S Q :=
  v_istore_n dX11_rowFor_41 rfl (by decide) (fun L st S k => v_aload_n dX11_rowFor_42 rfl (fun L st S k => v_get dX11_rowFor_43 rfl iX11 LY_11 rfl (by decide) rfl fl_X11_242 (fun L st S k => v_istore dX11_rowFor_46 (by decide) (fun L st S k => v_iconst dX11_rowFor_48 (by decide) (fun L st S k => v_istore dX11_rowFor_49 (by decide) (fun L st S k => k) k) k) k) k) k) k
theorem b_X11_rowFor_51 {h : Nat} {L : LVs} {st : List AV} {S : ST} {Q : Option AV → ST → Prop} (k : o_il L st S (fun L st S => o_al L st S (fun L st S => o_get L st S (fun L st S => t_2 L st S (fun x y => y ≤ x) (fun L st S => V MX11_rowFor h 101 L st S Q) (fun L st S => V MX11_rowFor h 60 L st S Q)) 11 34 (0, 0, 0)) 0) 5) : V MX11_rowFor h 51 L st S Q :=
  v_iload dX11_rowFor_51 (fun L st S k => v_aload_n dX11_rowFor_53 rfl (fun L st S k => v_get dX11_rowFor_54 rfl iX11 LY_11 rfl (by decide) rfl fl_X11_277 (fun L st S k => w_icmp_ge dX11_rowFor_57 (by decide) rfl k) k) k) k
theorem b_X11_rowFor_60 {h : Nat} {L : LVs} {st : List AV} {S : ST} {Q : Option AV → ST → Prop} (k : o_al L st S (fun L st S => o_get L st S (fun L st S => o_c L st S (fun L st S => o_il L st S (fun L st S => o_imul L st S (fun L st S => o_zald L st S (fun L st S => o_il L st S (fun L st S => t_2 L st S (fun x y => x = y) (fun L st S => V MX11_rowFor h 74 L st S Q) (fun L st S => V MX11_rowFor h 95 L st S Q)) 4))) 5) (nI 4)) 11 36 (3, 63, 0)) 0) : V MX11_rowFor h 60 L st S Q :=
  v_aload_n dX11_rowFor_60 rfl (fun L st S k => v_get dX11_rowFor_61 rfl iX11 LY_11 rfl (by decide) rfl fl_X11_81 (fun L st S k => v_iconst dX11_rowFor_64 (by decide) (fun L st S k => v_iload dX11_rowFor_65 (fun L st S k => v_imul dX11_rowFor_67 (fun L st S k => v_zaload dX11_rowFor_68 (fun L st S k => v_iload dX11_rowFor_69 (fun L st S k => w_icmp_ne dX11_rowFor_71 (by decide) rfl k) k) k) k) k) k) k) k
theorem b_X11_rowFor_74 {h : Nat} {L : LVs} {st : List AV} {S : ST} {Q : Option AV → ST → Prop} (k : o_il L st S (fun L st S => t_1 L st S (fun x => x = nI 0) (fun L st S => V MX11_rowFor h 79 L st S Q) (fun L st S => V MX11_rowFor h 92 L st S Q)) 4) : V MX11_rowFor h 74 L st S Q :=
  v_iload dX11_rowFor_74 (fun L st S k => w_if_ne dX11_rowFor_76 (by decide) rfl k) k
theorem b_X11_rowFor_79 {h : Nat} {L : LVs} {st : List AV} {S : ST} {Q : Option AV → ST → Prop} (k : o_al L st S (fun L st S => o_get L st S (fun L st S => o_c L st S (fun L st S => o_il L st S (fun L st S => o_imul L st S (fun L st S => o_iald L st S (fun L st S => o_il L st S (fun L st S => t_2 L st S (fun x y => x = y) (fun L st S => V MX11_rowFor h 92 L st S Q) (fun L st S => V MX11_rowFor h 95 L st S Q)) 3))) 5) (nI 4)) 11 35 (3, 62, 0)) 0) : V MX11_rowFor h 79 L st S Q :=
  v_aload_n dX11_rowFor_79 rfl (fun L st S k => v_get dX11_rowFor_80 rfl iX11 LY_11 rfl (by decide) rfl fl_X11_78 (fun L st S k => v_iconst dX11_rowFor_83 (by decide) (fun L st S k => v_iload dX11_rowFor_84 (fun L st S k => v_imul dX11_rowFor_86 (fun L st S k => v_iaload dX11_rowFor_87 (fun L st S k => v_iload_n dX11_rowFor_88 rfl (fun L st S k => w_icmp_ne dX11_rowFor_89 (by decide) rfl k) k) k) k) k) k) k) k
theorem b_X11_rowFor_92 {h : Nat} {L : LVs} {st : List AV} {S : ST} {Q : Option AV → ST → Prop} (k : o_il L st S (fun L st S => t_ir st S Q) 5) : V MX11_rowFor h 92 L st S Q :=
  v_iload dX11_rowFor_92 (fun L st S k => w_ir dX11_rowFor_94 rfl k) k
theorem b_X11_rowFor_95 {h : Nat} {L : LVs} {st : List AV} {S : ST} {Q : Option AV → ST → Prop} (k : o_inc L st S (fun L st S => V MX11_rowFor h 51 L st S Q) 5 (nI 1)) : V MX11_rowFor h 95 L st S Q :=
  v_iinc dX11_rowFor_95 (by decide) (by decide) (fun L st S k => v_goto dX11_rowFor_98 (by decide) k) k
theorem b_X11_rowFor_101 {h : Nat} {L : LVs} {st : List AV} {S : ST} {Q : Option AV → ST → Prop} (k : o_al L st S (fun L st S => o_dup L st S (fun L st S => o_get L st S (fun L st S => o_c L st S (fun L st S => o_iadd L st S (fun L st S => o_puti L st S (fun L st S => o_al L st S (fun L st S => o_get L st S (fun L st S => o_c L st S (fun L st S => o_isub L st S (fun L st S => t_ir st S Q)) (nI 1)) 11 34 (0, 0, 0)) 0) 11 34)) (nI 1)) 11 34 (0, 0, 0))) 0) : V MX11_rowFor h 101 L st S Q :=
  v_aload_n dX11_rowFor_101 rfl (fun L st S k => v_dup dX11_rowFor_102 (fun L st S k => v_get dX11_rowFor_103 rfl iX11 LY_11 rfl (by decide) rfl fl_X11_277 (fun L st S k => v_iconst dX11_rowFor_106 (by decide) (fun L st S k => v_iadd dX11_rowFor_107 (fun L st S k => v_puti dX11_rowFor_108 rfl iX11 tyX11_ok nmX11 LY_11 rfl (by decide) rfl fl_X11_277 rfl rfl (fun L st S k => v_aload_n dX11_rowFor_111 rfl (fun L st S k => v_get dX11_rowFor_112 rfl iX11 LY_11 rfl (by decide) rfl fl_X11_277 (fun L st S k => v_iconst dX11_rowFor_115 (by decide) (fun L st S k => v_isub dX11_rowFor_116 (fun L st S k => w_ir dX11_rowFor_117 rfl k) k) k) k) k) k) k) k) k) k) k
-- QueryForgeModel.begin(I)V
theorem dX11_begin_0 : decode cX11_begin 0 = .ok (.iconst 4, 1) := by decide +kernel
theorem dX11_begin_1 : decode cX11_begin 1 = .ok (.iload_n 1, 1) := by decide +kernel
theorem dX11_begin_2 : decode cX11_begin 2 = .ok (.imul, 1) := by decide +kernel
theorem dX11_begin_3 : decode cX11_begin 3 = .ok (.istore_n 2, 1) := by decide +kernel
theorem dX11_begin_4 : decode cX11_begin 4 = .ok (.iload_n 2, 1) := by decide +kernel
theorem dX11_begin_5 : decode cX11_begin 5 = .ok (.iconst 4, 1) := by decide +kernel
theorem dX11_begin_6 : decode cX11_begin 6 = .ok (.iload_n 1, 1) := by decide +kernel
theorem dX11_begin_7 : decode cX11_begin 7 = .ok (.imul, 1) := by decide +kernel
theorem dX11_begin_8 : decode cX11_begin 8 = .ok (.iconst 4, 1) := by decide +kernel
theorem dX11_begin_9 : decode cX11_begin 9 = .ok (.iadd, 1) := by decide +kernel
theorem dX11_begin_10 : decode cX11_begin 10 = .ok (.if_icmp .ge 37, 3) := by decide +kernel
theorem dX11_begin_13 : decode cX11_begin 13 = .ok (.aload_n 0, 1) := by decide +kernel
theorem dX11_begin_14 : decode cX11_begin 14 = .ok (.getfield 78, 3) := by decide +kernel
theorem dX11_begin_17 : decode cX11_begin 17 = .ok (.iload_n 2, 1) := by decide +kernel
theorem dX11_begin_18 : decode cX11_begin 18 = .ok (.iconst 0, 1) := by decide +kernel
theorem dX11_begin_19 : decode cX11_begin 19 = .ok (.iastore, 1) := by decide +kernel
theorem dX11_begin_20 : decode cX11_begin 20 = .ok (.aload_n 0, 1) := by decide +kernel
theorem dX11_begin_21 : decode cX11_begin 21 = .ok (.getfield 81, 3) := by decide +kernel
theorem dX11_begin_24 : decode cX11_begin 24 = .ok (.iload_n 2, 1) := by decide +kernel
theorem dX11_begin_25 : decode cX11_begin 25 = .ok (.iconst 1, 1) := by decide +kernel
theorem dX11_begin_26 : decode cX11_begin 26 = .ok (.bastore, 1) := by decide +kernel
theorem dX11_begin_27 : decode cX11_begin 27 = .ok (.aload_n 0, 1) := by decide +kernel
theorem dX11_begin_28 : decode cX11_begin 28 = .ok (.getfield 84, 3) := by decide +kernel
theorem dX11_begin_31 : decode cX11_begin 31 = .ok (.iload_n 2, 1) := by decide +kernel
theorem dX11_begin_32 : decode cX11_begin 32 = .ok (.lconst 0, 1) := by decide +kernel
theorem dX11_begin_33 : decode cX11_begin 33 = .ok (.lastore, 1) := by decide +kernel
theorem dX11_begin_34 : decode cX11_begin 34 = .ok (.aload_n 0, 1) := by decide +kernel
theorem dX11_begin_35 : decode cX11_begin 35 = .ok (.getfield 87, 3) := by decide +kernel
theorem dX11_begin_38 : decode cX11_begin 38 = .ok (.iload_n 2, 1) := by decide +kernel
theorem dX11_begin_39 : decode cX11_begin 39 = .ok (.iconst 0, 1) := by decide +kernel
theorem dX11_begin_40 : decode cX11_begin 40 = .ok (.iastore, 1) := by decide +kernel
theorem dX11_begin_41 : decode cX11_begin 41 = .ok (.iinc 2 1, 3) := by decide +kernel
theorem dX11_begin_44 : decode cX11_begin 44 = .ok (.goto (-40), 3) := by decide +kernel
theorem dX11_begin_47 : decode cX11_begin 47 = .ok (.return_, 1) := by decide +kernel
theorem b_X11_begin_0 {h : Nat} {L : LVs} {st : List AV} {S : ST} {Q : Option AV → ST → Prop} (k : o_c L st S (fun L st S => o_il L st S (fun L st S => o_imul L st S (fun L st S => o_is L st S (fun L st S => V MX11_begin h 4 L st S Q) 2)) 1) (nI 4)) : V MX11_begin h 0 L st S Q :=
  v_iconst dX11_begin_0 (by decide) (fun L st S k => v_iload_n dX11_begin_1 rfl (fun L st S k => v_imul dX11_begin_2 (fun L st S k => v_istore_n dX11_begin_3 rfl (by decide) (fun L st S k => k) k) k) k) k
theorem b_X11_begin_4 {h : Nat} {L : LVs} {st : List AV} {S : ST} {Q : Option AV → ST → Prop} (k : o_il L st S (fun L st S => o_c L st S (fun L st S => o_il L st S (fun L st S => o_imul L st S (fun L st S => o_c L st S (fun L st S => o_iadd L st S (fun L st S => t_2 L st S (fun x y => y ≤ x) (fun L st S => V MX11_begin h 47 L st S Q) (fun L st S => V MX11_begin h 13 L st S Q))) (nI 4))) 1) (nI 4)) 2) : V MX11_begin h 4 L st S Q :=
  v_iload_n dX11_begin_4 rfl (fun L st S k => v_iconst dX11_begin_5 (by decide) (fun L st S k => v_iload_n dX11_begin_6 rfl (fun L st S k => v_imul dX11_begin_7 (fun L st S k => v_iconst dX11_begin_8 (by decide) (fun L st S k => v_iadd dX11_begin_9 (fun L st S k => w_icmp_ge dX11_begin_10 (by decide) rfl k) k) k) k) k) k) k
theorem b_X11_begin_13 {h : Nat} {L : LVs} {st : List AV} {S : ST} {Q : Option AV → ST → Prop} (k : o_al L st S (fun L st S => o_get L st S (fun L st S => o_il L st S (fun L st S => o_c L st S (fun L st S => o_iast L st S (fun L st S => o_al L st S (fun L st S => o_get L st S (fun L st S => o_il L st S (fun L st S => o_c L st S (fun L st S => o_zast L st S (fun L st S => o_al L st S (fun L st S => o_get L st S (fun L st S => o_il L st S (fun L st S => o_lc L st S (fun L st S => o_last L st S (fun L st S => o_al L st S (fun L st S => o_get L st S (fun L st S => o_il L st S (fun L st S => o_c L st S (fun L st S => o_iast L st S (fun L st S => o_inc L st S (fun L st S => V MX11_begin h 4 L st S Q) 2 (nI 1))) (nI 0)) 2) 11 38 (3, 65, 0)) 0)) (lN 0)) 2) 11 37 (3, 64, 0)) 0)) (nI 1)) 2) 11 36 (3, 63, 0)) 0)) (nI 0)) 2) 11 35 (3, 62, 0)) 0) : V MX11_begin h 13 L st S Q :=
  v_aload_n dX11_begin_13 rfl (fun L st S k => v_get dX11_begin_14 rfl iX11 LY_11 rfl (by decide) rfl fl_X11_78 (fun L st S k => v_iload_n dX11_begin_17 rfl (fun L st S k => v_iconst dX11_begin_18 (by decide) (fun L st S k => v_iastore dX11_begin_19 (fun L st S k => v_aload_n dX11_begin_20 rfl (fun L st S k => v_get dX11_begin_21 rfl iX11 LY_11 rfl (by decide) rfl fl_X11_81 (fun L st S k => v_iload_n dX11_begin_24 rfl (fun L st S k => v_iconst dX11_begin_25 (by decide) (fun L st S k => v_zastore dX11_begin_26 (fun L st S k => v_aload_n dX11_begin_27 rfl (fun L st S k => v_get dX11_begin_28 rfl iX11 LY_11 rfl (by decide) rfl fl_X11_84 (fun L st S k => v_iload_n dX11_begin_31 rfl (fun L st S k => v_lconst dX11_begin_32 (by decide) (fun L st S k => v_lastore dX11_begin_33 (fun L st S k => v_aload_n dX11_begin_34 rfl (fun L st S k => v_get dX11_begin_35 rfl iX11 LY_11 rfl (by decide) rfl fl_X11_87 (fun L st S k => v_iload_n dX11_begin_38 rfl (fun L st S k => v_iconst dX11_begin_39 (by decide) (fun L st S k => v_iastore dX11_begin_40 (fun L st S k => v_iinc dX11_begin_41 (by decide) (by decide) (fun L st S k => v_goto dX11_begin_44 (by decide) k) k) k) k) k) k) k) k) k) k) k) k) k) k) k) k) k) k) k) k) k) k
theorem b_X11_begin_47 {h : Nat} {L : LVs} {st : List AV} {S : ST} {Q : Option AV → ST → Prop} (k : t_vr st S Q) : V MX11_begin h 47 L st S Q :=
  w_vr dX11_begin_47 rfl k
-- QueryForgeModel.come(IIIZ)V
theorem dX11_come_0 : decode cX11_come 0 = .ok (.iload_n 2, 1) := by decide +kernel
theorem dX11_come_1 : decode cX11_come 1 = .ok (.invokestatic 274, 3) := by decide +kernel
theorem dX11_come_4 : decode cX11_come 4 = .ok (.ifCond .ne 19, 3) := by decide +kernel
theorem dX11_come_7 : decode cX11_come 7 = .ok (.aload_n 0, 1) := by decide +kernel
theorem dX11_come_8 : decode cX11_come 8 = .ok (.getfield 78, 3) := by decide +kernel
theorem dX11_come_11 : decode cX11_come 11 = .ok (.iload_n 1, 1) := by decide +kernel
theorem dX11_come_12 : decode cX11_come 12 = .ok (.iload_n 3, 1) := by decide +kernel
theorem dX11_come_13 : decode cX11_come 13 = .ok (.iastore, 1) := by decide +kernel
theorem dX11_come_14 : decode cX11_come 14 = .ok (.aload_n 0, 1) := by decide +kernel
theorem dX11_come_15 : decode cX11_come 15 = .ok (.getfield 81, 3) := by decide +kernel
theorem dX11_come_18 : decode cX11_come 18 = .ok (.iload_n 1, 1) := by decide +kernel
theorem dX11_come_19 : decode cX11_come 19 = .ok (.iload 4, 2) := by decide +kernel
theorem dX11_come_21 : decode cX11_come 21 = .ok (.bastore, 1) := by decide +kernel
theorem dX11_come_22 : decode cX11_come 22 = .ok (.return_, 1) := by decide +kernel
theorem dX11_come_23 : decode cX11_come 23 = .ok (.iload 4, 2) := by decide +kernel
theorem dX11_come_25 : decode cX11_come 25 = .ok (.ifCond .eq 4, 3) := by decide +kernel
theorem dX11_come_28 : decode cX11_come 28 = .ok (.return_, 1) := by decide +kernel
theorem dX11_come_29 : decode cX11_come 29 = .ok (.aload_n 0, 1) := by decide +kernel
theorem dX11_come_30 : decode cX11_come 30 = .ok (.getfield 87, 3) := by decide +kernel
theorem dX11_come_33 : decode cX11_come 33 = .ok (.iload_n 1, 1) := by decide +kernel
theorem dX11_come_34 : decode cX11_come 34 = .ok (.iaload, 1) := by decide +kernel
theorem dX11_come_35 : decode cX11_come 35 = .ok (.ifCond .ne 7, 3) := by decide +kernel
theorem dX11_come_38 : decode cX11_come 38 = .ok (.iconst 1, 1) := by decide +kernel
theorem dX11_come_39 : decode cX11_come 39 = .ok (.goto 4, 3) := by decide +kernel
theorem dX11_come_42 : decode cX11_come 42 = .ok (.iconst 0, 1) := by decide +kernel
theorem dX11_come_43 : decode cX11_come 43 = .ok (.istore 5, 2) := by decide +kernel
theorem dX11_come_45 : decode cX11_come 45 = .ok (.aload_n 0, 1) := by decide +kernel
theorem dX11_come_46 : decode cX11_come 46 = .ok (.getfield 87, 3) := by decide +kernel
theorem dX11_come_49 : decode cX11_come 49 = .ok (.iload_n 1, 1) := by decide +kernel
theorem dX11_come_50 : decode cX11_come 50 = .ok (.dup2, 1) := by decide +kernel
theorem dX11_come_51 : decode cX11_come 51 = .ok (.iaload, 1) := by decide +kernel
theorem dX11_come_52 : decode cX11_come 52 = .ok (.iconst 1, 1) := by decide +kernel
theorem dX11_come_53 : decode cX11_come 53 = .ok (.iadd, 1) := by decide +kernel
theorem dX11_come_54 : decode cX11_come 54 = .ok (.iastore, 1) := by decide +kernel
theorem dX11_come_55 : decode cX11_come 55 = .ok (.aload_n 0, 1) := by decide +kernel
theorem dX11_come_56 : decode cX11_come 56 = .ok (.getfield 84, 3) := by decide +kernel
theorem dX11_come_59 : decode cX11_come 59 = .ok (.iload_n 1, 1) := by decide +kernel
theorem dX11_come_60 : decode cX11_come 60 = .ok (.dup2, 1) := by decide +kernel
theorem dX11_come_61 : decode cX11_come 61 = .ok (.laload, 1) := by decide +kernel
theorem dX11_come_62 : decode cX11_come 62 = .ok (.iload_n 3, 1) := by decide +kernel
theorem dX11_come_63 : decode cX11_come 63 = .ok (.i2l, 1) := by decide +kernel
theorem dX11_come_64 : decode cX11_come 64 = .ok (.ladd, 1) := by decide +kernel
theorem dX11_come_65 : decode cX11_come 65 = .ok (.lastore, 1) := by decide +kernel
theorem dX11_come_66 : decode cX11_come 66 = .ok (.iload 5, 2) := by decide +kernel
theorem dX11_come_68 : decode cX11_come 68 = .ok (.ifCond .ne 35, 3) := by decide +kernel
theorem dX11_come_71 : decode cX11_come 71 = .ok (.iload_n 2, 1) := by decide +kernel
theorem dX11_come_72 : decode cX11_come 72 = .ok (.bipush 21, 2) := by decide +kernel
theorem dX11_come_74 : decode cX11_come 74 = .ok (.if_icmp .ne 13, 3) := by decide +kernel
theorem dX11_come_77 : decode cX11_come 77 = .ok (.iload_n 3, 1) := by decide +kernel
theorem dX11_come_78 : decode cX11_come 78 = .ok (.aload_n 0, 1) := by decide +kernel
theorem dX11_come_79 : decode cX11_come 79 = .ok (.getfield 78, 3) := by decide +kernel
theorem dX11_come_82 : decode cX11_come 82 = .ok (.iload_n 1, 1) := by decide +kernel
theorem dX11_come_83 : decode cX11_come 83 = .ok (.iaload, 1) := by decide +kernel
theorem dX11_come_84 : decode cX11_come 84 = .ok (.if_icmp .gt 19, 3) := by decide +kernel
theorem dX11_come_87 : decode cX11_come 87 = .ok (.iload_n 2, 1) := by decide +kernel
theorem dX11_come_88 : decode cX11_come 88 = .ok (.bipush 20, 2) := by decide +kernel
theorem dX11_come_90 : decode cX11_come 90 = .ok (.if_icmp .ne 20, 3) := by decide +kernel
theorem dX11_come_93 : decode cX11_come 93 = .ok (.iload_n 3, 1) := by decide +kernel
theorem dX11_come_94 : decode cX11_come 94 = .ok (.aload_n 0, 1) := by decide +kernel
theorem dX11_come_95 : decode cX11_come 95 = .ok (.getfield 78, 3) := by decide +kernel
theorem dX11_come_98 : decode cX11_come 98 = .ok (.iload_n 1, 1) := by decide +kernel
theorem dX11_come_99 : decode cX11_come 99 = .ok (.iaload, 1) := by decide +kernel
theorem dX11_come_100 : decode cX11_come 100 = .ok (.if_icmp .ge 10, 3) := by decide +kernel
theorem dX11_come_103 : decode cX11_come 103 = .ok (.aload_n 0, 1) := by decide +kernel
theorem dX11_come_104 : decode cX11_come 104 = .ok (.getfield 78, 3) := by decide +kernel
theorem dX11_come_107 : decode cX11_come 107 = .ok (.iload_n 1, 1) := by decide +kernel
theorem dX11_come_108 : decode cX11_come 108 = .ok (.iload_n 3, 1) := by decide +kernel
theorem dX11_come_109 : decode cX11_come 109 = .ok (.iastore, 1) := by decide +kernel
theorem dX11_come_110 : decode cX11_come 110 = .ok (.return_, 1) := by decide +kernel
theorem b_X11_come_0 {h : Nat} {L : LVs} {st : List AV} {S : ST} {Q : Option AV → ST → Prop} (k : o_il L st S (fun L st S => V MX11_come h 1 L st S Q) 2) : V MX11_come h 0 L st S Q :=
  v_iload_n dX11_come_0 rfl (fun L st S k => k) k
theorem k_X11_come_1 {h : Nat} {L : LVs} {st : List AV} {S : ST} {Q Q' : Option AV → ST → Prop} {a0 : AV} (hC : Ct MX11_isAggregate h [a0] S Q') (k : ∀ (r : Option AV) (S' : ST), Q' r S' → V MX11_come (h + 1) 4 L (r.toList ++ st) S' Q) (hw : wid st ≤ 8) : V MX11_come (h + 1) 1 L (a0 :: st) S Q :=
  v_callS (M' := MX11_isAggregate) (As := [a0]) dX11_come_1 ml_X11_274 sm_X11_isAggregate in_X11 cd_X11_isAggregate ⟨rfl, np_X11_isAggregate⟩ (by decide) hw hC k
theorem b_X11_come_4 {h : Nat} {L : LVs} {st : List AV} {S : ST} {Q : Option AV → ST → Prop} (k : t_1 L st S (fun x => x = nI 0) (fun L st S => V MX11_come h 7 L st S Q) (fun L st S => V MX11_come h 23 L st S Q)) : V MX11_come h 4 L st S Q :=
  w_if_ne dX11_come_4 (by decide) rfl k
theorem b_X11_come_7 {h : Nat} {L : LVs} {st : List AV} {S : ST} {Q : Option AV → ST → Prop} (k : o_al L st S (fun L st S => o_get L st S (fun L st S => o_il L st S (fun L st S => o_il L st S (fun L st S => o_iast L st S (fun L st S => o_al L st S (fun L st S => o_get L st S (fun L st S => o_il L st S (fun L st S => o_il L st S (fun L st S => o_zast L st S (fun L st S => t_vr st S Q)) 4) 1) 11 36 (3, 63, 0)) 0)) 3) 1) 11 35 (3, 62, 0)) 0) : V MX11_come h 7 L st S Q :=
  v_aload_n dX11_come_7 rfl (fun L st S k => v_get dX11_come_8 rfl iX11 LY_11 rfl (by decide) rfl fl_X11_78 (fun L st S k => v_iload_n dX11_come_11 rfl (fun L st S k => v_iload_n dX11_come_12 rfl (fun L st S k => v_iastore dX11_come_13 (fun L st S k => v_aload_n dX11_come_14 rfl (fun L st S k => v_get dX11_come_15 rfl iX11 LY_11 rfl (by decide) rfl fl_X11_81 (fun L st S k => v_iload_n dX11_come_18 rfl (fun L st S k => v_iload dX11_come_19 (fun L st S k => v_zastore dX11_come_21 (fun L st S k => w_vr dX11_come_22 rfl k) k) k) k) k) k) k) k) k) k) k
theorem b_X11_come_23 {h : Nat} {L : LVs} {st : List AV} {S : ST} {Q : Option AV → ST → Prop} (k : o_il L st S (fun L st S => t_1 L st S (fun x => x = nI 0) (fun L st S => V MX11_come h 29 L st S Q) (fun L st S => V MX11_come h 28 L st S Q)) 4) : V MX11_come h 23 L st S Q :=
  v_iload dX11_come_23 (fun L st S k => w_if_eq dX11_come_25 (by decide) rfl k) k
theorem b_X11_come_28 {h : Nat} {L : LVs} {st : List AV} {S : ST} {Q : Option AV → ST → Prop} (k : t_vr st S Q) : V MX11_come h 28 L st S Q :=
  w_vr dX11_come_28 rfl k
theorem b_X11_come_29 {h : Nat} {L : LVs} {st : List AV} {S : ST} {Q : Option AV → ST → Prop} (k : o_al L st S (fun L st S => o_get L st S (fun L st S => o_il L st S (fun L st S => o_iald L st S (fun L st S => t_1 L st S (fun x => x = nI 0) (fun L st S => V MX11_come h 38 L st S Q) (fun L st S => V MX11_come h 42 L st S Q))) 1) 11 38 (3, 65, 0)) 0) : V MX11_come h 29 L st S Q :=
  v_aload_n dX11_come_29 rfl (fun L st S k => v_get dX11_come_30 rfl iX11 LY_11 rfl (by decide) rfl fl_X11_87 (fun L st S k => v_iload_n dX11_come_33 rfl (fun L st S k => v_iaload dX11_come_34 (fun L st S k => w_if_ne dX11_come_35 (by decide) rfl k) k) k) k) k
theorem b_X11_come_38 {h : Nat} {L : LVs} {st : List AV} {S : ST} {Q : Option AV → ST → Prop} (k : o_c L st S (fun L st S => V MX11_come h 43 L st S Q) (nI 1)) : V MX11_come h 38 L st S Q :=
  v_iconst dX11_come_38 (by decide) (fun L st S k => v_goto dX11_come_39 (by decide) k) k
theorem b_X11_come_42 {h : Nat} {L : LVs} {st : List AV} {S : ST} {Q : Option AV → ST → Prop} (k : o_c L st S (fun L st S => V MX11_come h 43 L st S Q) (nI 0)) : V MX11_come h 42 L st S Q :=
  v_iconst dX11_come_42 (by decide) (fun L st S k => k) k
theorem b_X11_come_43 {h : Nat} {L : LVs} {st : List AV} {S : ST} {Q : Option AV → ST → Prop} (k : o_is L st S (fun L st S => o_al L st S (fun L st S => o_get L st S (fun L st S => o_il L st S (fun L st S => o_dup2 L st S (fun L st S => o_iald L st S (fun L st S => o_c L st S (fun L st S => o_iadd L st S (fun L st S => o_iast L st S (fun L st S => o_al L st S (fun L st S => o_get L st S (fun L st S => o_il L st S (fun L st S => o_dup2 L st S (fun L st S => o_lald L st S (fun L st S => o_il L st S (fun L st S => o_i2l L st S (fun L st S => o_ladd L st S (fun L st S => o_last L st S (fun L st S => o_il L st S (fun L st S => t_1 L st S (fun x => x = nI 0) (fun L st S => V MX11_come h 71 L st S Q) (fun L st S => V MX11_come h 103 L st S Q)) 5)))) 3))) 1) 11 37 (3, 64, 0)) 0))) (nI 1)))) 1) 11 38 (3, 65, 0)) 0) 5) : V MX11_come h 43 L st S Q :=
  v_istore dX11_come_43 (by decide) (fun L st S k => v_aload_n dX11_come_45 rfl (fun L st S k => v_get dX11_come_46 rfl iX11 LY_11 rfl (by decide) rfl fl_X11_87 (fun L st S k => v_iload_n dX11_come_49 rfl (fun L st S k => v_dup2 dX11_come_50 (fun L st S k => v_iaload dX11_come_51 (fun L st S k => v_iconst dX11_come_52 (by decide) (fun L st S k => v_iadd dX11_come_53 (fun L st S k => v_iastore dX11_come_54 (fun L st S k => v_aload_n dX11_come_55 rfl (fun L st S k => v_get dX11_come_56 rfl iX11 LY_11 rfl (by decide) rfl fl_X11_84 (fun L st S k => v_iload_n dX11_come_59 rfl (fun L st S k => v_dup2 dX11_come_60 (fun L st S k => v_laload dX11_come_61 (fun L st S k => v_iload_n dX11_come_62 rfl (fun L st S k => v_i2l dX11_come_63 (fun L st S k => v_ladd dX11_come_64 (fun L st S k => v_lastore dX11_come_65 (fun L st S k => v_iload dX11_come_66 (fun L st S k => w_if_ne dX11_come_68 (by decide) rfl k) k) k) k) k) k) k) k) k) k) k) k) k) k) k) k) k) k) k) k
theorem b_X11_come_71 {h : Nat} {L : LVs} {st : List AV} {S : ST} {Q : Option AV → ST → Prop} (k : o_il L st S (fun L st S => o_c L st S (fun L st S => t_2 L st S (fun x y => x = y) (fun L st S => V MX11_come h 77 L st S Q) (fun L st S => V MX11_come h 87 L st S Q)) (nI 21)) 2) : V MX11_come h 71 L st S Q :=
  v_iload_n dX11_come_71 rfl (fun L st S k => v_bipush dX11_come_72 (by decide) (fun L st S k => w_icmp_ne dX11_come_74 (by decide) rfl k) k) k
theorem b_X11_come_77 {h : Nat} {L : LVs} {st : List AV} {S : ST} {Q : Option AV → ST → Prop} (k : o_il L st S (fun L st S => o_al L st S (fun L st S => o_get L st S (fun L st S => o_il L st S (fun L st S => o_iald L st S (fun L st S => t_2 L st S (fun x y => y < x) (fun L st S => V MX11_come h 103 L st S Q) (fun L st S => V MX11_come h 87 L st S Q))) 1) 11 35 (3, 62, 0)) 0) 3) : V MX11_come h 77 L st S Q :=
  v_iload_n dX11_come_77 rfl (fun L st S k => v_aload_n dX11_come_78 rfl (fun L st S k => v_get dX11_come_79 rfl iX11 LY_11 rfl (by decide) rfl fl_X11_78 (fun L st S k => v_iload_n dX11_come_82 rfl (fun L st S k => v_iaload dX11_come_83 (fun L st S k => w_icmp_gt dX11_come_84 (by decide) rfl k) k) k) k) k) k
theorem b_X11_come_87 {h : Nat} {L : LVs} {st : List AV} {S : ST} {Q : Option AV → ST → Prop} (k : o_il L st S (fun L st S => o_c L st S (fun L st S => t_2 L st S (fun x y => x = y) (fun L st S => V MX11_come h 93 L st S Q) (fun L st S => V MX11_come h 110 L st S Q)) (nI 20)) 2) : V MX11_come h 87 L st S Q :=
  v_iload_n dX11_come_87 rfl (fun L st S k => v_bipush dX11_come_88 (by decide) (fun L st S k => w_icmp_ne dX11_come_90 (by decide) rfl k) k) k
theorem b_X11_come_93 {h : Nat} {L : LVs} {st : List AV} {S : ST} {Q : Option AV → ST → Prop} (k : o_il L st S (fun L st S => o_al L st S (fun L st S => o_get L st S (fun L st S => o_il L st S (fun L st S => o_iald L st S (fun L st S => t_2 L st S (fun x y => y ≤ x) (fun L st S => V MX11_come h 110 L st S Q) (fun L st S => V MX11_come h 103 L st S Q))) 1) 11 35 (3, 62, 0)) 0) 3) : V MX11_come h 93 L st S Q :=
  v_iload_n dX11_come_93 rfl (fun L st S k => v_aload_n dX11_come_94 rfl (fun L st S k => v_get dX11_come_95 rfl iX11 LY_11 rfl (by decide) rfl fl_X11_78 (fun L st S k => v_iload_n dX11_come_98 rfl (fun L st S k => v_iaload dX11_come_99 (fun L st S k => w_icmp_ge dX11_come_100 (by decide) rfl k) k) k) k) k) k
theorem b_X11_come_103 {h : Nat} {L : LVs} {st : List AV} {S : ST} {Q : Option AV → ST → Prop} (k : o_al L st S (fun L st S => o_get L st S (fun L st S => o_il L st S (fun L st S => o_il L st S (fun L st S => o_iast L st S (fun L st S => V MX11_come h 110 L st S Q)) 3) 1) 11 35 (3, 62, 0)) 0) : V MX11_come h 103 L st S Q :=
  v_aload_n dX11_come_103 rfl (fun L st S k => v_get dX11_come_104 rfl iX11 LY_11 rfl (by decide) rfl fl_X11_78 (fun L st S k => v_iload_n dX11_come_107 rfl (fun L st S k => v_iload_n dX11_come_108 rfl (fun L st S k => v_iastore dX11_come_109 (fun L st S k => k) k) k) k) k) k
theorem b_X11_come_110 {h : Nat} {L : LVs} {st : List AV} {S : ST} {Q : Option AV → ST → Prop} (k : t_vr st S Q) : V MX11_come h 110 L st S Q :=
  w_vr dX11_come_110 rfl k
-- QueryForgeModel.finish()V
theorem dX11_finish_0 : decode cX11_finish 0 = .ok (.iconst 0, 1) := by decide +kernel
theorem dX11_finish_1 : decode cX11_finish 1 = .ok (.istore_n 1, 1) := by decide +kernel
theorem dX11_finish_2 : decode cX11_finish 2 = .ok (.iload_n 1, 1) := by decide +kernel
theorem dX11_finish_3 : decode cX11_finish 3 = .ok (.aload_n 0, 1) := by decide +kernel
theorem dX11_finish_4 : decode cX11_finish 4 = .ok (.getfield 277, 3) := by decide +kernel
theorem dX11_finish_7 : decode cX11_finish 7 = .ok (.if_icmp .ge 159, 3) := by decide +kernel
theorem dX11_finish_10 : decode cX11_finish 10 = .ok (.iconst 0, 1) := by decide +kernel
theorem dX11_finish_11 : decode cX11_finish 11 = .ok (.istore_n 2, 1) := by decide +kernel
theorem dX11_finish_12 : decode cX11_finish 12 = .ok (.iload_n 2, 1) := by decide +kernel
theorem dX11_finish_13 : decode cX11_finish 13 = .ok (.aload_n 0, 1) := by decide +kernel
theorem dX11_finish_14 : decode cX11_finish 14 = .ok (.getfield 271, 3) := by decide +kernel
theorem dX11_finish_17 : decode cX11_finish 17 = .ok (.if_icmp .ge 143, 3) := by decide +kernel
theorem dX11_finish_20 : decode cX11_finish 20 = .ok (.aload_n 0, 1) := by decide +kernel
theorem dX11_finish_21 : decode cX11_finish 21 = .ok (.getfield 219, 3) := by decide +kernel
theorem dX11_finish_24 : decode cX11_finish 24 = .ok (.ifCond .ne 136, 3) := by decide +kernel
theorem dX11_finish_27 : decode cX11_finish 27 = .ok (.iconst 4, 1) := by decide +kernel
theorem dX11_finish_28 : decode cX11_finish 28 = .ok (.iload_n 1, 1) := by decide +kernel
theorem dX11_finish_29 : decode cX11_finish 29 = .ok (.imul, 1) := by decide +kernel
theorem dX11_finish_30 : decode cX11_finish 30 = .ok (.iload_n 2, 1) := by decide +kernel
theorem dX11_finish_31 : decode cX11_finish 31 = .ok (.iadd, 1) := by decide +kernel
theorem dX11_finish_32 : decode cX11_finish 32 = .ok (.istore_n 3, 1) := by decide +kernel
theorem dX11_finish_33 : decode cX11_finish 33 = .ok (.aload_n 0, 1) := by decide +kernel
theorem dX11_finish_34 : decode cX11_finish 34 = .ok (.getfield 20, 3) := by decide +kernel
theorem dX11_finish_37 : decode cX11_finish 37 = .ok (.aload_n 0, 1) := by decide +kernel
theorem dX11_finish_38 : decode cX11_finish 38 = .ok (.getfield 90, 3) := by decide +kernel
theorem dX11_finish_41 : decode cX11_finish 41 = .ok (.iload_n 2, 1) := by decide +kernel
theorem dX11_finish_42 : decode cX11_finish 42 = .ok (.iaload, 1) := by decide +kernel
theorem dX11_finish_43 : decode cX11_finish 43 = .ok (.iaload, 1) := by decide +kernel
theorem dX11_finish_44 : decode cX11_finish 44 = .ok (.istore 4, 2) := by decide +kernel
theorem dX11_finish_46 : decode cX11_finish 46 = .ok (.iload 4, 2) := by decide +kernel
theorem dX11_finish_48 : decode cX11_finish 48 = .ok (.invokestatic 274, 3) := by decide +kernel
theorem dX11_finish_51 : decode cX11_finish 51 = .ok (.ifCond .eq 103, 3) := by decide +kernel
theorem dX11_finish_54 : decode cX11_finish 54 = .ok (.aload_n 0, 1) := by decide +kernel
theorem dX11_finish_55 : decode cX11_finish 55 = .ok (.getfield 81, 3) := by decide +kernel
theorem dX11_finish_58 : decode cX11_finish 58 = .ok (.iload_n 3, 1) := by decide +kernel
theorem dX11_finish_59 : decode cX11_finish 59 = .ok (.iload 4, 2) := by decide +kernel
theorem dX11_finish_61 : decode cX11_finish 61 = .ok (.bipush 19, 2) := by decide +kernel
theorem dX11_finish_63 : decode cX11_finish 63 = .ok (.if_icmp .eq 16, 3) := by decide +kernel
theorem dX11_finish_66 : decode cX11_finish 66 = .ok (.aload_n 0, 1) := by decide +kernel
theorem dX11_finish_67 : decode cX11_finish 67 = .ok (.getfield 87, 3) := by decide +kernel
theorem dX11_finish_70 : decode cX11_finish 70 = .ok (.iload_n 3, 1) := by decide +kernel
theorem dX11_finish_71 : decode cX11_finish 71 = .ok (.iaload, 1) := by decide +kernel
theorem dX11_finish_72 : decode cX11_finish 72 = .ok (.ifCond .ne 7, 3) := by decide +kernel
theorem dX11_finish_75 : decode cX11_finish 75 = .ok (.iconst 1, 1) := by decide +kernel
theorem dX11_finish_76 : decode cX11_finish 76 = .ok (.goto 4, 3) := by decide +kernel
theorem dX11_finish_79 : decode cX11_finish 79 = .ok (.iconst 0, 1) := by decide +kernel
theorem dX11_finish_80 : decode cX11_finish 80 = .ok (.bastore, 1) := by decide +kernel
theorem dX11_finish_81 : decode cX11_finish 81 = .ok (.aload_n 0, 1) := by decide +kernel
theorem dX11_finish_82 : decode cX11_finish 82 = .ok (.getfield 78, 3) := by decide +kernel
theorem dX11_finish_85 : decode cX11_finish 85 = .ok (.iload_n 3, 1) := by decide +kernel
theorem dX11_finish_86 : decode cX11_finish 86 = .ok (.iload 4, 2) := by decide +kernel
theorem dX11_finish_88 : decode cX11_finish 88 = .ok (.bipush 19, 2) := by decide +kernel
theorem dX11_finish_90 : decode cX11_finish 90 = .ok (.if_icmp .ne 12, 3) := by decide +kernel
theorem dX11_finish_93 : decode cX11_finish 93 = .ok (.aload_n 0, 1) := by decide +kernel
theorem dX11_finish_94 : decode cX11_finish 94 = .ok (.getfield 87, 3) := by decide +kernel
theorem dX11_finish_97 : decode cX11_finish 97 = .ok (.iload_n 3, 1) := by decide +kernel
theorem dX11_finish_98 : decode cX11_finish 98 = .ok (.iaload, 1) := by decide +kernel
theorem dX11_finish_99 : decode cX11_finish 99 = .ok (.goto 29, 3) := by decide +kernel
theorem dX11_finish_102 : decode cX11_finish 102 = .ok (.iload 4, 2) := by decide +kernel
theorem dX11_finish_104 : decode cX11_finish 104 = .ok (.bipush 18, 2) := by decide +kernel
theorem dX11_finish_106 : decode cX11_finish 106 = .ok (.if_icmp .ne 16, 3) := by decide +kernel
theorem dX11_finish_109 : decode cX11_finish 109 = .ok (.aload_n 0, 1) := by decide +kernel
theorem dX11_finish_110 : decode cX11_finish 110 = .ok (.aload_n 0, 1) := by decide +kernel
theorem dX11_finish_111 : decode cX11_finish 111 = .ok (.getfield 84, 3) := by decide +kernel
theorem dX11_finish_114 : decode cX11_finish 114 = .ok (.iload_n 3, 1) := by decide +kernel
theorem dX11_finish_115 : decode cX11_finish 115 = .ok (.laload, 1) := by decide +kernel
theorem dX11_finish_116 : decode cX11_finish 116 = .ok (.invokevirtual 249, 3) := by decide +kernel
theorem dX11_finish_119 : decode cX11_finish 119 = .ok (.goto 9, 3) := by decide +kernel
theorem dX11_finish_122 : decode cX11_finish 122 = .ok (.aload_n 0, 1) := by decide +kernel
theorem dX11_finish_123 : decode cX11_finish 123 = .ok (.getfield 78, 3) := by decide +kernel
theorem dX11_finish_126 : decode cX11_finish 126 = .ok (.iload_n 3, 1) := by decide +kernel
theorem dX11_finish_127 : decode cX11_finish 127 = .ok (.iaload, 1) := by decide +kernel
theorem dX11_finish_128 : decode cX11_finish 128 = .ok (.iastore, 1) := by decide +kernel
theorem dX11_finish_129 : decode cX11_finish 129 = .ok (.aload_n 0, 1) := by decide +kernel
theorem dX11_finish_130 : decode cX11_finish 130 = .ok (.getfield 78, 3) := by decide +kernel
theorem dX11_finish_133 : decode cX11_finish 133 = .ok (.iload_n 3, 1) := by decide +kernel
theorem dX11_finish_134 : decode cX11_finish 134 = .ok (.aload_n 0, 1) := by decide +kernel
theorem dX11_finish_135 : decode cX11_finish 135 = .ok (.getfield 81, 3) := by decide +kernel
theorem dX11_finish_138 : decode cX11_finish 138 = .ok (.iload_n 3, 1) := by decide +kernel
theorem dX11_finish_139 : decode cX11_finish 139 = .ok (.baload, 1) := by decide +kernel
theorem dX11_finish_140 : decode cX11_finish 140 = .ok (.ifCond .eq 7, 3) := by decide +kernel
theorem dX11_finish_143 : decode cX11_finish 143 = .ok (.iconst 0, 1) := by decide +kernel
theorem dX11_finish_144 : decode cX11_finish 144 = .ok (.goto 9, 3) := by decide +kernel
theorem dX11_finish_147 : decode cX11_finish 147 = .ok (.aload_n 0, 1) := by decide +kernel
theorem dX11_finish_148 : decode cX11_finish 148 = .ok (.getfield 78, 3) := by decide +kernel
theorem dX11_finish_151 : decode cX11_finish 151 = .ok (.iload_n 3, 1) := by decide +kernel
theorem dX11_finish_152 : decode cX11_finish 152 = .ok (.iaload, 1) := by decide +kernel
theorem dX11_finish_153 : decode cX11_finish 153 = .ok (.iastore, 1) := by decide +kernel
theorem dX11_finish_154 : decode cX11_finish 154 = .ok (.iinc 2 1, 3) := by decide +kernel
theorem dX11_finish_157 : decode cX11_finish 157 = .ok (.goto (-145), 3) := by decide +kernel
theorem dX11_finish_160 : decode cX11_finish 160 = .ok (.iinc 1 1, 3) := by decide +kernel
theorem dX11_finish_163 : decode cX11_finish 163 = .ok (.goto (-161), 3) := by decide +kernel
theorem dX11_finish_166 : decode cX11_finish 166 = .ok (.return_, 1) := by decide +kernel
theorem b_X11_finish_0 {h : Nat} {L : LVs} {st : List AV} {S : ST} {Q : Option AV → ST → Prop} (k : o_c L st S (fun L st S => o_is L st S (fun L st S => V MX11_finish h 2 L st S Q) 1) (nI 0)) : V MX11_finish h 0 L st S Q :=
  v_iconst dX11_finish_0 (by decide) (fun L st S k => v_istore_n dX11_finish_1 rfl (by decide) (fun L st S k => k) k) k
theorem b_X11_finish_2 {h : Nat} {L : LVs} {st : List AV} {S : ST} {Q : Option AV → ST → Prop} (k : o_il L st S (fun L st S => o_al L st S (fun L st S => o_get L st S (fun L st S => t_2 L st S (fun x y => y ≤ x) (fun L st S => V MX11_finish h 166 L st S Q) (fun L st S => V MX11_finish h 10 L st S Q)) 11 34 (0, 0, 0)) 0) 1) : V MX11_finish h 2 L st S Q :=
  v_iload_n dX11_finish_2 rfl (fun L st S k => v_aload_n dX11_finish_3 rfl (fun L st S k => v_get dX11_finish_4 rfl iX11 LY_11 rfl (by decide) rfl fl_X11_277 (fun L st S k => w_icmp_ge dX11_finish_7 (by decide) rfl k) k) k) k
theorem b_X11_finish_10 {h : Nat} {L : LVs} {st : List AV} {S : ST} {Q : Option AV → ST → Prop} (k : o_c L st S (fun L st S => o_is L st S (fun L st S => V MX11_finish h 12 L st S Q) 2) (nI 0)) : V MX11_finish h 10 L st S Q :=
  v_iconst dX11_finish_10 (by decide) (fun L st S k => v_istore_n dX11_finish_11 rfl (by decide) (fun L st S k => k) k) k
theorem b_X11_finish_12 {h : Nat} {L : LVs} {st : List AV} {S : ST} {Q : Option AV → ST → Prop} (k : o_il L st S (fun L st S => o_al L st S (fun L st S => o_get L st S (fun L st S => t_2 L st S (fun x y => y ≤ x) (fun L st S => V MX11_finish h 160 L st S Q) (fun L st S => V MX11_finish h 20 L st S Q)) 11 40 (0, 0, 0)) 0) 2) : V MX11_finish h 12 L st S Q :=
  v_iload_n dX11_finish_12 rfl (fun L st S k => v_aload_n dX11_finish_13 rfl (fun L st S k => v_get dX11_finish_14 rfl iX11 LY_11 rfl (by decide) rfl fl_X11_271 (fun L st S k => w_icmp_ge dX11_finish_17 (by decide) rfl k) k) k) k
theorem b_X11_finish_20 {h : Nat} {L : LVs} {st : List AV} {S : ST} {Q : Option AV → ST → Prop} (k : o_al L st S (fun L st S => o_get L st S (fun L st S => t_1 L st S (fun x => x = nI 0) (fun L st S => V MX11_finish h 27 L st S Q) (fun L st S => V MX11_finish h 160 L st S Q)) 11 28 (0, 0, 0)) 0) : V MX11_finish h 20 L st S Q :=
  v_aload_n dX11_finish_20 rfl (fun L st S k => v_get dX11_finish_21 rfl iX11 LY_11 rfl (by decide) rfl fl_X11_219 (fun L st S k => w_if_ne dX11_finish_24 (by decide) rfl k) k) k
theorem b_X11_finish_27 {h : Nat} {L : LVs} {st : List AV} {S : ST} {Q : Option AV → ST → Prop} (k : o_c L st S (fun L st S => o_il L st S (fun L st S => o_imul L st S (fun L st S => o_il L st S (fun L st S => o_iadd L st S (fun L st S => o_is L st S (fun L st S => o_al L st S (fun L st S => o_get L st S (fun L st S => o_al L st S (fun L st S => o_get L st S (fun L st S => o_il L st S (fun L st S => o_iald L st S (fun L st S => o_iald L st S (fun L st S => o_is L st S (fun L st S => o_il L st S (fun L st S => V MX11_finish h 48 L st S Q) 4) 4))) 2) 11 39 (3, 66, 0)) 0) 11 8 (3, 43, 0)) 0) 3)) 2)) 1) (nI 4)) : V MX11_finish h 27 L st S Q :=
  v_iconst dX11_finish_27 (by decide) (fun L st S k => v_iload_n dX11_finish_28 rfl (fun L st S k => v_imul dX11_finish_29 (fun L st S k => v_iload_n dX11_finish_30 rfl (fun L st S k => v_iadd dX11_finish_31 (fun L st S k => v_istore_n dX11_finish_32 rfl (by decide) (fun L st S k => v_aload_n dX11_finish_33 rfl (fun L st S k => v_get dX11_finish_34 rfl iX11 LY_11 rfl (by decide) rfl fl_X11_20 (fun L st S k => v_aload_n dX11_finish_37 rfl (fun L st S k => v_get dX11_finish_38 rfl iX11 LY_11 rfl (by decide) rfl fl_X11_90 (fun L st S k => v_iload_n dX11_finish_41 rfl (fun L st S k => v_iaload dX11_finish_42 (fun L st S k => v_iaload dX11_finish_43 (fun L st S k => v_istore dX11_finish_44 (by decide) (fun L st S k => v_iload dX11_finish_46 (fun L st S k => k) k) k) k) k) k) k) k) k) k) k) k) k) k) k) k
theorem k_X11_finish_48 {h : Nat} {L : LVs} {st : List AV} {S : ST} {Q Q' : Option AV → ST → Prop} {a0 : AV} (hC : Ct MX11_isAggregate h [a0] S Q') (k : ∀ (r : Option AV) (S' : ST), Q' r S' → V MX11_finish (h + 1) 51 L (r.toList ++ st) S' Q) (hw : wid st ≤ 8) : V MX11_finish (h + 1) 48 L (a0 :: st) S Q :=
  v_callS (M' := MX11_isAggregate) (As := [a0]) dX11_finish_48 ml_X11_274 sm_X11_isAggregate in_X11 cd_X11_isAggregate ⟨rfl, np_X11_isAggregate⟩ (by decide) hw hC k
theorem b_X11_finish_51 {h : Nat} {L : LVs} {st : List AV} {S : ST} {Q : Option AV → ST → Prop} (k : t_1 L st S (fun x => x = nI 0) (fun L st S => V MX11_finish h 154 L st S Q) (fun L st S => V MX11_finish h 54 L st S Q)) : V MX11_finish h 51 L st S Q :=
  w_if_eq dX11_finish_51 (by decide) rfl k
theorem b_X11_finish_54 {h : Nat} {L : LVs} {st : List AV} {S : ST} {Q : Option AV → ST → Prop} (k : o_al L st S (fun L st S => o_get L st S (fun L st S => o_il L st S (fun L st S => o_il L st S (fun L st S => o_c L st S (fun L st S => t_2 L st S (fun x y => x = y) (fun L st S => V MX11_finish h 79 L st S Q) (fun L st S => V MX11_finish h 66 L st S Q)) (nI 19)) 4) 3) 11 36 (3, 63, 0)) 0) : V MX11_finish h 54 L st S Q :=
  v_aload_n dX11_finish_54 rfl (fun L st S k => v_get dX11_finish_55 rfl iX11 LY_11 rfl (by decide) rfl fl_X11_81 (fun L st S k => v_iload_n dX11_finish_58 rfl (fun L st S k => v_iload dX11_finish_59 (fun L st S k => v_bipush dX11_finish_61 (by decide) (fun L st S k => w_icmp_eq dX11_finish_63 (by decide) rfl k) k) k) k) k) k
theorem b_X11_finish_66 {h : Nat} {L : LVs} {st : List AV} {S : ST} {Q : Option AV → ST → Prop} (k : o_al L st S (fun L st S => o_get L st S (fun L st S => o_il L st S (fun L st S => o_iald L st S (fun L st S => t_1 L st S (fun x => x = nI 0) (fun L st S => V MX11_finish h 75 L st S Q) (fun L st S => V MX11_finish h 79 L st S Q))) 3) 11 38 (3, 65, 0)) 0) : V MX11_finish h 66 L st S Q :=
  v_aload_n dX11_finish_66 rfl (fun L st S k => v_get dX11_finish_67 rfl iX11 LY_11 rfl (by decide) rfl fl_X11_87 (fun L st S k => v_iload_n dX11_finish_70 rfl (fun L st S k => v_iaload dX11_finish_71 (fun L st S k => w_if_ne dX11_finish_72 (by decide) rfl k) k) k) k) k
theorem b_X11_finish_75 {h : Nat} {L : LVs} {st : List AV} {S : ST} {Q : Option AV → ST → Prop} (k : o_c L st S (fun L st S => V MX11_finish h 80 L st S Q) (nI 1)) : V MX11_finish h 75 L st S Q :=
  v_iconst dX11_finish_75 (by decide) (fun L st S k => v_goto dX11_finish_76 (by decide) k) k
theorem b_X11_finish_79 {h : Nat} {L : LVs} {st : List AV} {S : ST} {Q : Option AV → ST → Prop} (k : o_c L st S (fun L st S => V MX11_finish h 80 L st S Q) (nI 0)) : V MX11_finish h 79 L st S Q :=
  v_iconst dX11_finish_79 (by decide) (fun L st S k => k) k
theorem b_X11_finish_80 {h : Nat} {L : LVs} {st : List AV} {S : ST} {Q : Option AV → ST → Prop} (k : o_zast L st S (fun L st S => o_al L st S (fun L st S => o_get L st S (fun L st S => o_il L st S (fun L st S => o_il L st S (fun L st S => o_c L st S (fun L st S => t_2 L st S (fun x y => x = y) (fun L st S => V MX11_finish h 93 L st S Q) (fun L st S => V MX11_finish h 102 L st S Q)) (nI 19)) 4) 3) 11 35 (3, 62, 0)) 0)) : V MX11_finish h 80 L st S Q :=
  v_zastore dX11_finish_80 (fun L st S k => v_aload_n dX11_finish_81 rfl (fun L st S k => v_get dX11_finish_82 rfl iX11 LY_11 rfl (by decide) rfl fl_X11_78 (fun L st S k => v_iload_n dX11_finish_85 rfl (fun L st S k => v_iload dX11_finish_86 (fun L st S k => v_bipush dX11_finish_88 (by decide) (fun L st S k => w_icmp_ne dX11_finish_90 (by decide) rfl k) k) k) k) k) k) k
theorem b_X11_finish_93 {h : Nat} {L : LVs} {st : List AV} {S : ST} {Q : Option AV → ST → Prop} (k : o_al L st S (fun L st S => o_get L st S (fun L st S => o_il L st S (fun L st S => o_iald L st S (fun L st S => V MX11_finish h 128 L st S Q)) 3) 11 38 (3, 65, 0)) 0) : V MX11_finish h 93 L st S Q :=
  v_aload_n dX11_finish_93 rfl (fun L st S k => v_get dX11_finish_94 rfl iX11 LY_11 rfl (by decide) rfl fl_X11_87 (fun L st S k => v_iload_n dX11_finish_97 rfl (fun L st S k => v_iaload dX11_finish_98 (fun L st S k => v_goto dX11_finish_99 (by decide) k) k) k) k) k
theorem b_X11_finish_102 {h : Nat} {L : LVs} {st : List AV} {S : ST} {Q : Option AV → ST → Prop} (k : o_il L st S (fun L st S => o_c L st S (fun L st S => t_2 L st S (fun x y => x = y) (fun L st S => V MX11_finish h 109 L st S Q) (fun L st S => V MX11_finish h 122 L st S Q)) (nI 18)) 4) : V MX11_finish h 102 L st S Q :=
  v_iload dX11_finish_102 (fun L st S k => v_bipush dX11_finish_104 (by decide) (fun L st S k => w_icmp_ne dX11_finish_106 (by decide) rfl k) k) k
theorem b_X11_finish_109 {h : Nat} {L : LVs} {st : List AV} {S : ST} {Q : Option AV → ST → Prop} (k : o_al L st S (fun L st S => o_al L st S (fun L st S => o_get L st S (fun L st S => o_il L st S (fun L st S => o_lald L st S (fun L st S => V MX11_finish h 116 L st S Q)) 3) 11 37 (3, 64, 0)) 0) 0) : V MX11_finish h 109 L st S Q :=
  v_aload_n dX11_finish_109 rfl (fun L st S k => v_aload_n dX11_finish_110 rfl (fun L st S k => v_get dX11_finish_111 rfl iX11 LY_11 rfl (by decide) rfl fl_X11_84 (fun L st S k => v_iload_n dX11_finish_114 rfl (fun L st S k => v_laload dX11_finish_115 (fun L st S k => k) k) k) k) k) k
theorem k_X11_finish_116 {h : Nat} {L : LVs} {st : List AV} {S : ST} {Q Q' : Option AV → ST → Prop} {j : Nat} {a0 : AV} (hC : Ct MX11_inBounds h [vR 11 j, a0] S Q') (k : ∀ (r : Option AV) (S' : ST), Q' r S' → V MX11_finish (h + 1) 119 L (r.toList ++ st) S' Q) (hj : j < NI 11) (hw : wid st ≤ 8) : V MX11_finish (h + 1) 116 L (a0 :: vR 11 j :: st) S Q :=
  v_callV (M' := MX11_inBounds) (c := 11) (As := [a0]) dX11_finish_116 ml_X11_249 im_X11_inBounds se_X11_inBounds in_X11 cd_X11_inBounds rfl LY_11 np_X11_inBounds (by decide) hw hj hC k
theorem b_X11_finish_119 {h : Nat} {L : LVs} {st : List AV} {S : ST} {Q : Option AV → ST → Prop} (k : V MX11_finish h 128 L st S Q) : V MX11_finish h 119 L st S Q :=
  v_goto dX11_finish_119 (by decide) k
theorem b_X11_finish_122 {h : Nat} {L : LVs} {st : List AV} {S : ST} {Q : Option AV → ST → Prop} (k : o_al L st S (fun L st S => o_get L st S (fun L st S => o_il L st S (fun L st S => o_iald L st S (fun L st S => V MX11_finish h 128 L st S Q)) 3) 11 35 (3, 62, 0)) 0) : V MX11_finish h 122 L st S Q :=
  v_aload_n dX11_finish_122 rfl (fun L st S k => v_get dX11_finish_123 rfl iX11 LY_11 rfl (by decide) rfl fl_X11_78 (fun L st S k => v_iload_n dX11_finish_126 rfl (fun L st S k => v_iaload dX11_finish_127 (fun L st S k => k) k) k) k) k
theorem b_X11_finish_128 {h : Nat} {L : LVs} {st : List AV} {S : ST} {Q : Option AV → ST → Prop} (k : o_iast L st S (fun L st S => o_al L st S (fun L st S => o_get L st S (fun L st S => o_il L st S (fun L st S => o_al L st S (fun L st S => o_get L st S (fun L st S => o_il L st S (fun L st S => o_zald L st S (fun L st S => t_1 L st S (fun x => x = nI 0) (fun L st S => V MX11_finish h 147 L st S Q) (fun L st S => V MX11_finish h 143 L st S Q))) 3) 11 36 (3, 63, 0)) 0) 3) 11 35 (3, 62, 0)) 0)) : V MX11_finish h 128 L st S Q :=
  v_iastore dX11_finish_128 (fun L st S k => v_aload_n dX11_finish_129 rfl (fun L st S k => v_get dX11_finish_130 rfl iX11 LY_11 rfl (by decide) rfl fl_X11_78 (fun L st S k => v_iload_n dX11_finish_133 rfl (fun L st S k => v_aload_n dX11_finish_134 rfl (fun L st S k => v_get dX11_finish_135 rfl iX11 LY_11 rfl (by decide) rfl fl_X11_81 (fun L st S k => v_iload_n dX11_finish_138 rfl (fun L st S k => v_zaload dX11_finish_139 (fun L st S k => w_if_eq dX11_finish_140 (by decide) rfl k) k) k) k) k) k) k) k) k
theorem b_X11_finish_143 {h : Nat} {L : LVs} {st : List AV} {S : ST} {Q : Option AV → ST → Prop} (k : o_c L st S (fun L st S => V MX11_finish h 153 L st S Q) (nI 0)) : V MX11_finish h 143 L st S Q :=
  v_iconst dX11_finish_143 (by decide) (fun L st S k => v_goto dX11_finish_144 (by decide) k) k
theorem b_X11_finish_147 {h : Nat} {L : LVs} {st : List AV} {S : ST} {Q : Option AV → ST → Prop} (k : o_al L st S (fun L st S => o_get L st S (fun L st S => o_il L st S (fun L st S => o_iald L st S (fun L st S => V MX11_finish h 153 L st S Q)) 3) 11 35 (3, 62, 0)) 0) : V MX11_finish h 147 L st S Q :=
  v_aload_n dX11_finish_147 rfl (fun L st S k => v_get dX11_finish_148 rfl iX11 LY_11 rfl (by decide) rfl fl_X11_78 (fun L st S k => v_iload_n dX11_finish_151 rfl (fun L st S k => v_iaload dX11_finish_152 (fun L st S k => k) k) k) k) k
theorem b_X11_finish_153 {h : Nat} {L : LVs} {st : List AV} {S : ST} {Q : Option AV → ST → Prop} (k : o_iast L st S (fun L st S => V MX11_finish h 154 L st S Q)) : V MX11_finish h 153 L st S Q :=
  v_iastore dX11_finish_153 (fun L st S k => k) k
theorem b_X11_finish_154 {h : Nat} {L : LVs} {st : List AV} {S : ST} {Q : Option AV → ST → Prop} (k : o_inc L st S (fun L st S => V MX11_finish h 12 L st S Q) 2 (nI 1)) : V MX11_finish h 154 L st S Q :=
  v_iinc dX11_finish_154 (by decide) (by decide) (fun L st S k => v_goto dX11_finish_157 (by decide) k) k
theorem b_X11_finish_160 {h : Nat} {L : LVs} {st : List AV} {S : ST} {Q : Option AV → ST → Prop} (k : o_inc L st S (fun L st S => V MX11_finish h 2 L st S Q) 1 (nI 1)) : V MX11_finish h 160 L st S Q :=
  v_iinc dX11_finish_160 (by decide) (by decide) (fun L st S k => v_goto dX11_finish_163 (by decide) k) k
theorem b_X11_finish_166 {h : Nat} {L : LVs} {st : List AV} {S : ST} {Q : Option AV → ST → Prop} (k : t_vr st S Q) : V MX11_finish h 166 L st S Q :=
  w_vr dX11_finish_166 rfl k
-- QueryForgeModel.goesBefore(IIIZ)Z
theorem dX11_goesBefore_0 : decode cX11_goesBefore 0 = .ok (.iload 4, 2) := by decide +kernel
theorem dX11_goesBefore_2 : decode cX11_goesBefore 2 = .ok (.ifCond .eq 7, 3) := by decide +kernel
theorem dX11_goesBefore_5 : decode cX11_goesBefore 5 = .ok (.iload_n 2, 1) := by decide +kernel
theorem dX11_goesBefore_6 : decode cX11_goesBefore 6 = .ok (.goto 4, 3) := by decide +kernel
theorem dX11_goesBefore_9 : decode cX11_goesBefore 9 = .ok (.iload_n 1, 1) := by decide +kernel
theorem dX11_goesBefore_10 : decode cX11_goesBefore 10 = .ok (.istore 5, 2) := by decide +kernel
theorem dX11_goesBefore_12 : decode cX11_goesBefore 12 = .ok (.iload 4, 2) := by decide +kernel
theorem dX11_goesBefore_14 : decode cX11_goesBefore 14 = .ok (.ifCond .eq 7, 3) := by decide +kernel
theorem dX11_goesBefore_17 : decode cX11_goesBefore 17 = .ok (.iload_n 1, 1) := by decide +kernel
theorem dX11_goesBefore_18 : decode cX11_goesBefore 18 = .ok (.goto 4, 3) := by decide +kernel
theorem dX11_goesBefore_21 : decode cX11_goesBefore 21 = .ok (.iload_n 2, 1) := by decide +kernel
theorem dX11_goesBefore_22 : decode cX11_goesBefore 22 = .ok (.istore 6, 2) := by decide +kernel
theorem dX11_goesBefore_24 : decode cX11_goesBefore 24 = .ok (.iconst 4, 1) := by decide +kernel
theorem dX11_goesBefore_25 : decode cX11_goesBefore 25 = .ok (.iload 5, 2) := by decide +kernel
theorem dX11_goesBefore_27 : decode cX11_goesBefore 27 = .ok (.imul, 1) := by decide +kernel
theorem dX11_goesBefore_28 : decode cX11_goesBefore 28 = .ok (.iload_n 3, 1) := by decide +kernel
theorem dX11_goesBefore_29 : decode cX11_goesBefore 29 = .ok (.iadd, 1) := by decide +kernel
theorem dX11_goesBefore_30 : decode cX11_goesBefore 30 = .ok (.istore 7, 2) := by decide +kernel
theorem dX11_goesBefore_32 : decode cX11_goesBefore 32 = .ok (.iconst 4, 1) := by decide +kernel
theorem dX11_goesBefore_33 : decode cX11_goesBefore 33 = .ok (.iload 6, 2) := by decide +kernel
theorem dX11_goesBefore_35 : decode cX11_goesBefore 35 = .ok (.imul, 1) := by decide +kernel
theorem dX11_goesBefore_36 : decode cX11_goesBefore 36 = .ok (.iload_n 3, 1) := by decide +kernel
theorem dX11_goesBefore_37 : decode cX11_goesBefore 37 = .ok (.iadd, 1) := by decide +kernel
theorem dX11_goesBefore_38 : decode cX11_goesBefore 38 = .ok (.istore 8, 2) := by decide +kernel
theorem dX11_goesBefore_40 : decode cX11_goesBefore 40 = .ok (.aload_n 0, 1) := by decide +kernel
theorem dX11_goesBefore_41 : decode cX11_goesBefore 41 = .ok (.getfield 81, 3) := by decide +kernel
theorem dX11_goesBefore_44 : decode cX11_goesBefore 44 = .ok (.iload 7, 2) := by decide +kernel
theorem dX11_goesBefore_46 : decode cX11_goesBefore 46 = .ok (.baload, 1) := by decide +kernel
theorem dX11_goesBefore_47 : decode cX11_goesBefore 47 = .ok (.ifCond .eq 21, 3) := by decide +kernel
theorem dX11_goesBefore_50 : decode cX11_goesBefore 50 = .ok (.aload_n 0, 1) := by decide +kernel
theorem dX11_goesBefore_51 : decode cX11_goesBefore 51 = .ok (.getfield 81, 3) := by decide +kernel
theorem dX11_goesBefore_54 : decode cX11_goesBefore 54 = .ok (.iload 8, 2) := by decide +kernel
theorem dX11_goesBefore_56 : decode cX11_goesBefore 56 = .ok (.baload, 1) := by decide +kernel
theorem dX11_goesBefore_57 : decode cX11_goesBefore 57 = .ok (.ifCond .ne 7, 3) := by decide +kernel
theorem dX11_goesBefore_60 : decode cX11_goesBefore 60 = .ok (.iconst 1, 1) := by decide +kernel
theorem dX11_goesBefore_61 : decode cX11_goesBefore 61 = .ok (.goto 39, 3) := by decide +kernel
theorem dX11_goesBefore_64 : decode cX11_goesBefore 64 = .ok (.iconst 0, 1) := by decide +kernel
theorem dX11_goesBefore_65 : decode cX11_goesBefore 65 = .ok (.goto 35, 3) := by decide +kernel
theorem dX11_goesBefore_68 : decode cX11_goesBefore 68 = .ok (.aload_n 0, 1) := by decide +kernel
theorem dX11_goesBefore_69 : decode cX11_goesBefore 69 = .ok (.getfield 81, 3) := by decide +kernel
theorem dX11_goesBefore_72 : decode cX11_goesBefore 72 = .ok (.iload 8, 2) := by decide +kernel
theorem dX11_goesBefore_74 : decode cX11_goesBefore 74 = .ok (.baload, 1) := by decide +kernel
theorem dX11_goesBefore_75 : decode cX11_goesBefore 75 = .ok (.ifCond .ne 24, 3) := by decide +kernel
theorem dX11_goesBefore_78 : decode cX11_goesBefore 78 = .ok (.aload_n 0, 1) := by decide +kernel
theorem dX11_goesBefore_79 : decode cX11_goesBefore 79 = .ok (.getfield 78, 3) := by decide +kernel
theorem dX11_goesBefore_82 : decode cX11_goesBefore 82 = .ok (.iload 7, 2) := by decide +kernel
theorem dX11_goesBefore_84 : decode cX11_goesBefore 84 = .ok (.iaload, 1) := by decide +kernel
theorem dX11_goesBefore_85 : decode cX11_goesBefore 85 = .ok (.aload_n 0, 1) := by decide +kernel
theorem dX11_goesBefore_86 : decode cX11_goesBefore 86 = .ok (.getfield 78, 3) := by decide +kernel
theorem dX11_goesBefore_89 : decode cX11_goesBefore 89 = .ok (.iload 8, 2) := by decide +kernel
theorem dX11_goesBefore_91 : decode cX11_goesBefore 91 = .ok (.iaload, 1) := by decide +kernel
theorem dX11_goesBefore_92 : decode cX11_goesBefore 92 = .ok (.if_icmp .ge 7, 3) := by decide +kernel
theorem dX11_goesBefore_95 : decode cX11_goesBefore 95 = .ok (.iconst 1, 1) := by decide +kernel
theorem dX11_goesBefore_96 : decode cX11_goesBefore 96 = .ok (.goto 4, 3) := by decide +kernel
theorem dX11_goesBefore_99 : decode cX11_goesBefore 99 = .ok (.iconst 0, 1) := by decide +kernel
theorem dX11_goesBefore_100 : decode cX11_goesBefore 100 = .ok (.ireturn, 1) := by decide +kernel
theorem b_X11_goesBefore_0 {h : Nat} {L : LVs} {st : List AV} {S : ST} {Q : Option AV → ST → Prop} (k : o_il L st S (fun L st S => t_1 L st S (fun x => x = nI 0) (fun L st S => V MX11_goesBefore h 9 L st S Q) (fun L st S => V MX11_goesBefore h 5 L st S Q)) 4) : V MX11_goesBefore h 0 L st S Q :=
  v_iload dX11_goesBefore_0 (fun L st S k => w_if_eq dX11_goesBefore_2 (by decide) rfl k) k
theorem b_X11_goesBefore_5 {h : Nat} {L : LVs} {st : List AV} {S : ST} {Q : Option AV → ST → Prop} (k : o_il L st S (fun L st S => V MX11_goesBefore h 10 L st S Q) 2) : V MX11_goesBefore h 5 L st S Q :=
  v_iload_n dX11_goesBefore_5 rfl (fun L st S k => v_goto dX11_goesBefore_6 (by decide) k) k
theorem b_X11_goesBefore_9 {h : Nat} {L : LVs} {st : List AV} {S : ST} {Q : Option AV → ST → Prop} (k : o_il L st S (fun L st S => V MX11_goesBefore h 10 L st S Q) 1) : V MX11_goesBefore h 9 L st S Q :=
  v_iload_n dX11_goesBefore_9 rfl (fun L st S k => k) k
theorem b_X11_goesBefore_10 {h : Nat} {L : LVs} {st : List AV} {S : ST} {Q : Option AV → ST → Prop} (k : o_is L st S (fun L st S => o_il L st S (fun L st S => t_1 L st S (fun x => x = nI 0) (fun L st S => V MX11_goesBefore h 21 L st S Q) (fun L st S => V MX11_goesBefore h 17 L st S Q)) 4) 5) : V MX11_goesBefore h 10 L st S Q :=
  v_istore dX11_goesBefore_10 (by decide) (fun L st S k => v_iload dX11_goesBefore_12 (fun L st S k => w_if_eq dX11_goesBefore_14 (by decide) rfl k) k) k
theorem b_X11_goesBefore_17 {h : Nat} {L : LVs} {st : List AV} {S : ST} {Q : Option AV → ST → Prop} (k : o_il L st S (fun L st S => V MX11_goesBefore h 22 L st S Q) 1) : V MX11_goesBefore h 17 L st S Q :=
  v_iload_n dX11_goesBefore_17 rfl (fun L st S k => v_goto dX11_goesBefore_18 (by decide) k) k
theorem b_X11_goesBefore_21 {h : Nat} {L : LVs} {st : List AV} {S : ST} {Q : Option AV → ST → Prop} (k : o_il L st S (fun L st S => V MX11_goesBefore h 22 L st S Q) 2) : V MX11_goesBefore h 21 L st S Q :=
  v_iload_n dX11_goesBefore_21 rfl (fun L st S k => k) k
theorem b_X11_goesBefore_22 {h : Nat} {L : LVs} {st : List AV} {S : ST} {Q : Option AV → ST → Prop} (k : o_is L st S (fun L st S => o_c L st S (fun L st S => o_il L st S (fun L st S => o_imul L st S (fun L st S => o_il L st S (fun L st S => o_iadd L st S (fun L st S => o_is L st S (fun L st S => o_c L st S (fun L st S => o_il L st S (fun L st S => o_imul L st S (fun L st S => o_il L st S (fun L st S => o_iadd L st S (fun L st S => o_is L st S (fun L st S => o_al L st S (fun L st S => o_get L st S (fun L st S => o_il L st S (fun L st S => o_zald L st S (fun L st S => t_1 L st S (fun x => x = nI 0) (fun L st S => V MX11_goesBefore h 68 L st S Q) (fun L st S => V MX11_goesBefore h 50 L st S Q))) 7) 11 36 (3, 63, 0)) 0) 8)) 3)) 6) (nI 4)) 7)) 3)) 5) (nI 4)) 6) : V MX11_goesBefore h 22 L st S Q :=
  v_istore dX11_goesBefore_22 (by decide) (fun L st S k => v_iconst dX11_goesBefore_24 (by decide) (fun L st S k => v_iload dX11_goesBefore_25 (fun L st S k => v_imul dX11_goesBefore_27 (fun L st S k => v_iload_n dX11_goesBefore_28 rfl (fun L st S k => v_iadd dX11_goesBefore_29 (fun L st S k => v_istore dX11_goesBefore_30 (by decide) (fun L st S k => v_iconst dX11_goesBefore_32 (by decide) (fun L st S k => v_iload dX11_goesBefore_33 (fun L st S k => v_imul dX11_goesBefore_35 (fun L st S k => v_iload_n dX11_goesBefore_36 rfl (fun L st S k => v_iadd dX11_goesBefore_37 (fun L st S k => v_istore dX11_goesBefore_38 (by decide) (fun L st S k => v_aload_n dX11_goesBefore_40 rfl (fun L st S k => v_get dX11_goesBefore_41 rfl iX11 LY_11 rfl (by decide) rfl fl_X11_81 (fun L st S k => v_iload dX11_goesBefore_44 (fun L st S k => v_zaload dX11_goesBefore_46 (fun L st S k => w_if_eq dX11_goesBefore_47 (by decide) rfl k) k) k) k) k) k) k) k) k) k) k) k) k) k) k) k) k) k
theorem b_X11_goesBefore_50 {h : Nat} {L : LVs} {st : List AV} {S : ST} {Q : Option AV → ST → Prop} (k : o_al L st S (fun L st S => o_get L st S (fun L st S => o_il L st S (fun L st S => o_zald L st S (fun L st S => t_1 L st S (fun x => x = nI 0) (fun L st S => V MX11_goesBefore h 60 L st S Q) (fun L st S => V MX11_goesBefore h 64 L st S Q))) 8) 11 36 (3, 63, 0)) 0) : V MX11_goesBefore h 50 L st S Q :=
  v_aload_n dX11_goesBefore_50 rfl (fun L st S k => v_get dX11_goesBefore_51 rfl iX11 LY_11 rfl (by decide) rfl fl_X11_81 (fun L st S k => v_iload dX11_goesBefore_54 (fun L st S k => v_zaload dX11_goesBefore_56 (fun L st S k => w_if_ne dX11_goesBefore_57 (by decide) rfl k) k) k) k) k
theorem b_X11_goesBefore_60 {h : Nat} {L : LVs} {st : List AV} {S : ST} {Q : Option AV → ST → Prop} (k : o_c L st S (fun L st S => V MX11_goesBefore h 100 L st S Q) (nI 1)) : V MX11_goesBefore h 60 L st S Q :=
  v_iconst dX11_goesBefore_60 (by decide) (fun L st S k => v_goto dX11_goesBefore_61 (by decide) k) k
theorem b_X11_goesBefore_64 {h : Nat} {L : LVs} {st : List AV} {S : ST} {Q : Option AV → ST → Prop} (k : o_c L st S (fun L st S => V MX11_goesBefore h 100 L st S Q) (nI 0)) : V MX11_goesBefore h 64 L st S Q :=
  v_iconst dX11_goesBefore_64 (by decide) (fun L st S k => v_goto dX11_goesBefore_65 (by decide) k) k
theorem b_X11_goesBefore_68 {h : Nat} {L : LVs} {st : List AV} {S : ST} {Q : Option AV → ST → Prop} (k : o_al L st S (fun L st S => o_get L st S (fun L st S => o_il L st S (fun L st S => o_zald L st S (fun L st S => t_1 L st S (fun x => x = nI 0) (fun L st S => V MX11_goesBefore h 78 L st S Q) (fun L st S => V MX11_goesBefore h 99 L st S Q))) 8) 11 36 (3, 63, 0)) 0) : V MX11_goesBefore h 68 L st S Q :=
  v_aload_n dX11_goesBefore_68 rfl (fun L st S k => v_get dX11_goesBefore_69 rfl iX11 LY_11 rfl (by decide) rfl fl_X11_81 (fun L st S k => v_iload dX11_goesBefore_72 (fun L st S k => v_zaload dX11_goesBefore_74 (fun L st S k => w_if_ne dX11_goesBefore_75 (by decide) rfl k) k) k) k) k
theorem b_X11_goesBefore_78 {h : Nat} {L : LVs} {st : List AV} {S : ST} {Q : Option AV → ST → Prop} (k : o_al L st S (fun L st S => o_get L st S (fun L st S => o_il L st S (fun L st S => o_iald L st S (fun L st S => o_al L st S (fun L st S => o_get L st S (fun L st S => o_il L st S (fun L st S => o_iald L st S (fun L st S => t_2 L st S (fun x y => y ≤ x) (fun L st S => V MX11_goesBefore h 99 L st S Q) (fun L st S => V MX11_goesBefore h 95 L st S Q))) 8) 11 35 (3, 62, 0)) 0)) 7) 11 35 (3, 62, 0)) 0) : V MX11_goesBefore h 78 L st S Q :=
  v_aload_n dX11_goesBefore_78 rfl (fun L st S k => v_get dX11_goesBefore_79 rfl iX11 LY_11 rfl (by decide) rfl fl_X11_78 (fun L st S k => v_iload dX11_goesBefore_82 (fun L st S k => v_iaload dX11_goesBefore_84 (fun L st S k => v_aload_n dX11_goesBefore_85 rfl (fun L st S k => v_get dX11_goesBefore_86 rfl iX11 LY_11 rfl (by decide) rfl fl_X11_78 (fun L st S k => v_iload dX11_goesBefore_89 (fun L st S k => v_iaload dX11_goesBefore_91 (fun L st S k => w_icmp_ge dX11_goesBefore_92 (by decide) rfl k) k) k) k) k) k) k) k) k
theorem b_X11_goesBefore_95 {h : Nat} {L : LVs} {st : List AV} {S : ST} {Q : Option AV → ST → Prop} (k : o_c L st S (fun L st S => V MX11_goesBefore h 100 L st S Q) (nI 1)) : V MX11_goesBefore h 95 L st S Q :=
  v_iconst dX11_goesBefore_95 (by decide) (fun L st S k => v_goto dX11_goesBefore_96 (by decide) k) k
theorem b_X11_goesBefore_99 {h : Nat} {L : LVs} {st : List AV} {S : ST} {Q : Option AV → ST → Prop} (k : o_c L st S (fun L st S => V MX11_goesBefore h 100 L st S Q) (nI 0)) : V MX11_goesBefore h 99 L st S Q :=
  v_iconst dX11_goesBefore_99 (by decide) (fun L st S k => k) k
theorem b_X11_goesBefore_100 {h : Nat} {L : LVs} {st : List AV} {S : ST} {Q : Option AV → ST → Prop} (k : t_zr st S Q) : V MX11_goesBefore h 100 L st S Q :=
  w_zr dX11_goesBefore_100 rfl k
-- QueryForgeModel.swap(I)V
theorem dX11_swap_0 : decode cX11_swap 0 = .ok (.iconst 4, 1) := by decide +kernel
theorem dX11_swap_1 : decode cX11_swap 1 = .ok (.iload_n 1, 1) := by decide +kernel
theorem dX11_swap_2 : decode cX11_swap 2 = .ok (.imul, 1) := by decide +kernel
theorem dX11_swap_3 : decode cX11_swap 3 = .ok (.istore_n 2, 1) := by decide +kernel
theorem dX11_swap_4 : decode cX11_swap 4 = .ok (.iload_n 2, 1) := by decide +kernel
theorem dX11_swap_5 : decode cX11_swap 5 = .ok (.iconst 4, 1) := by decide +kernel
theorem dX11_swap_6 : decode cX11_swap 6 = .ok (.iload_n 1, 1) := by decide +kernel
theorem dX11_swap_7 : decode cX11_swap 7 = .ok (.imul, 1) := by decide +kernel
theorem dX11_swap_8 : decode cX11_swap 8 = .ok (.iconst 4, 1) := by decide +kernel
theorem dX11_swap_9 : decode cX11_swap 9 = .ok (.iadd, 1) := by decide +kernel
theorem dX11_swap_10 : decode cX11_swap 10 = .ok (.if_icmp .ge 71, 3) := by decide +kernel
theorem dX11_swap_13 : decode cX11_swap 13 = .ok (.aload_n 0, 1) := by decide +kernel
theorem dX11_swap_14 : decode cX11_swap 14 = .ok (.getfield 78, 3) := by decide +kernel
theorem dX11_swap_17 : decode cX11_swap 17 = .ok (.iload_n 2, 1) := by decide +kernel
theorem dX11_swap_18 : decode cX11_swap 18 = .ok (.iaload, 1) := by decide +kernel
theorem dX11_swap_19 : decode cX11_swap 19 = .ok (.istore_n 3, 1) := by decide +kernel
theorem dX11_swap_20 : decode cX11_swap 20 = .ok (.aload_n 0, 1) := by decide +kernel
theorem dX11_swap_21 : decode cX11_swap 21 = .ok (.getfield 81, 3) := by decide +kernel
theorem dX11_swap_24 : decode cX11_swap 24 = .ok (.iload_n 2, 1) := by decide +kernel
theorem dX11_swap_25 : decode cX11_swap 25 = .ok (.baload, 1) := by decide +kernel
theorem dX11_swap_26 : decode cX11_swap 26 = .ok (.istore 4, 2) := by decide +kernel
theorem dX11_swap_28 : decode cX11_swap 28 = .ok (.aload_n 0, 1) := by decide +kernel
theorem dX11_swap_29 : decode cX11_swap 29 = .ok (.getfield 78, 3) := by decide +kernel
theorem dX11_swap_32 : decode cX11_swap 32 = .ok (.iload_n 2, 1) := by decide +kernel
theorem dX11_swap_33 : decode cX11_swap 33 = .ok (.aload_n 0, 1) := by decide +kernel
theorem dX11_swap_34 : decode cX11_swap 34 = .ok (.getfield 78, 3) := by decide +kernel
theorem dX11_swap_37 : decode cX11_swap 37 = .ok (.iload_n 2, 1) := by decide +kernel
theorem dX11_swap_38 : decode cX11_swap 38 = .ok (.iconst 4, 1) := by decide +kernel
theorem dX11_swap_39 : decode cX11_swap 39 = .ok (.isub, 1) := by decide +kernel
theorem dX11_swap_40 : decode cX11_swap 40 = .ok (.iaload, 1) := by decide +kernel
theorem dX11_swap_41 : decode cX11_swap 41 = .ok (.iastore, 1) := by decide +kernel
theorem dX11_swap_42 : decode cX11_swap 42 = .ok (.aload_n 0, 1) := by decide +kernel
theorem dX11_swap_43 : decode cX11_swap 43 = .ok (.getfield 81, 3) := by decide +kernel
theorem dX11_swap_46 : decode cX11_swap 46 = .ok (.iload_n 2, 1) := by decide +kernel
theorem dX11_swap_47 : decode cX11_swap 47 = .ok (.aload_n 0, 1) := by decide +kernel
theorem dX11_swap_48 : decode cX11_swap 48 = .ok (.getfield 81, 3) := by decide +kernel
theorem dX11_swap_51 : decode cX11_swap 51 = .ok (.iload_n 2, 1) := by decide +kernel
theorem dX11_swap_52 : decode cX11_swap 52 = .ok (.iconst 4, 1) := by decide +kernel
theorem dX11_swap_53 : decode cX11_swap 53 = .ok (.isub, 1) := by decide +kernel
theorem dX11_swap_54 : decode cX11_swap 54 = .ok (.baload, 1) := by decide +kernel
theorem dX11_swap_55 : decode cX11_swap 55 = .ok (.bastore, 1) := by decide +kernel
theorem dX11_swap_56 : decode cX11_swap 56 = .ok (.aload_n 0, 1) := by decide +kernel
theorem dX11_swap_57 : decode cX11_swap 57 = .ok (.getfield 78, 3) := by decide +kernel
theorem dX11_swap_60 : decode cX11_swap 60 = .ok (.iload_n 2, 1) := by decide +kernel
theorem dX11_swap_61 : decode cX11_swap 61 = .ok (.iconst 4, 1) := by decide +kernel
theorem dX11_swap_62 : decode cX11_swap 62 = .ok (.isub, 1) := by decide +kernel
theorem dX11_swap_63 : decode cX11_swap 63 = .ok (.iload_n 3, 1) := by decide +kernel
theorem dX11_swap_64 : decode cX11_swap 64 = .ok (.iastore, 1) := by decide +kernel
theorem dX11_swap_65 : decode cX11_swap 65 = .ok (.aload_n 0, 1) := by decide +kernel
theorem dX11_swap_66 : decode cX11_swap 66 = .ok (.getfield 81, 3) := by decide +kernel
theorem dX11_swap_69 : decode cX11_swap 69 = .ok (.iload_n 2, 1) := by decide +kernel
theorem dX11_swap_70 : decode cX11_swap 70 = .ok (.iconst 4, 1) := by decide +kernel
theorem dX11_swap_71 : decode cX11_swap 71 = .ok (.isub, 1) := by decide +kernel
theorem dX11_swap_72 : decode cX11_swap 72 = .ok (.iload 4, 2) := by decide +kernel
theorem dX11_swap_74 : decode cX11_swap 74 = .ok (.bastore, 1) := by decide +kernel
theorem dX11_swap_75 : decode cX11_swap 75 = .ok (.iinc 2 1, 3) := by decide +kernel
theorem dX11_swap_78 : decode cX11_swap 78 = .ok (.goto (-74), 3) := by decide +kernel
theorem dX11_swap_81 : decode cX11_swap 81 = .ok (.return_, 1) := by decide +kernel
theorem b_X11_swap_0 {h : Nat} {L : LVs} {st : List AV} {S : ST} {Q : Option AV → ST → Prop} (k : o_c L st S (fun L st S => o_il L st S (fun L st S => o_imul L st S (fun L st S => o_is L st S (fun L st S => V MX11_swap h 4 L st S Q) 2)) 1) (nI 4)) : V MX11_swap h 0 L st S Q :=
  v_iconst dX11_swap_0 (by decide) (fun L st S k => v_iload_n dX11_swap_1 rfl (fun L st S k => v_imul dX11_swap_2 (fun L st S k => v_istore_n dX11_swap_3 rfl (by decide) (fun L st S k => k) k) k) k) k
theorem b_X11_swap_4 {h : Nat} {L : LVs} {st : List AV} {S : ST} {Q : Option AV → ST → Prop} (k : o_il L st S (fun L st S => o_c L st S (fun L st S => o_il L st S (fun L st S => o_imul L st S (fun L st S => o_c L st S (fun L st S => o_iadd L st S (fun L st S => t_2 L st S (fun x y => y ≤ x) (fun L st S => V MX11_swap h 81 L st S Q) (fun L st S => V MX11_swap h 13 L st S Q))) (nI 4))) 1) (nI 4)) 2) : V MX11_swap h 4 L st S Q :=
  v_iload_n dX11_swap_4 rfl (fun L st S k => v_iconst dX11_swap_5 (by decide) (fun L st S k => v_iload_n dX11_swap_6 rfl (fun L st S k => v_imul dX11_swap_7 (fun L st S k => v_iconst dX11_swap_8 (by decide) (fun L st S k => v_iadd dX11_swap_9 (fun L st S k => w_icmp_ge dX11_swap_10 (by decide) rfl k) k) k) k) k) k) k
theorem b_X11_swap_13 {h : Nat} {L : LVs} {st : List AV} {S : ST} {Q : Option AV → ST → Prop} (k : o_al L st S (fun L st S => o_get L st S (fun L st S => o_il L st S (fun L st S => o_iald L st S (fun L st S => o_is L st S (fun L st S => o_al L st S (fun L st S => o_get L st S (fun L st S => o_il L st S (fun L st S => o_zald L st S (fun L st S => o_is L st S (fun L st S => o_al L st S (fun L st S => o_get L st S (fun L st S => o_il L st S (fun L st S => o_al L st S (fun L st S => o_get L st S (fun L st S => o_il L st S (fun L st S => o_c L st S (fun L st S => o_isub L st S (fun L st S => o_iald L st S (fun L st S => o_iast L st S (fun L st S => o_al L st S (fun L st S => o_get L st S (fun L st S => o_il L st S (fun L st S => o_al L st S (fun L st S => o_get L st S (fun L st S => o_il L st S (fun L st S => o_c L st S (fun L st S => o_isub L st S (fun L st S => o_zald L st S (fun L st S => o_zast L st S (fun L st S => o_al L st S (fun L st S => o_get L st S (fun L st S => o_il L st S (fun L st S => o_c L st S (fun L st S => o_isub L st S (fun L st S => o_il L st S (fun L st S => o_iast L st S (fun L st S => o_al L st S (fun L st S => o_get L st S (fun L st S => o_il L st S (fun L st S => o_c L st S (fun L st S => o_isub L st S (fun L st S => o_il L st S (fun L st S => o_zast L st S (fun L st S => o_inc L st S (fun L st S => V MX11_swap h 4 L st S Q) 2 (nI 1))) 4)) (nI 4)) 2) 11 36 (3, 63, 0)) 0)) 3)) (nI 4)) 2) 11 35 (3, 62, 0)) 0)))) (nI 4)) 2) 11 36 (3, 63, 0)) 0) 2) 11 36 (3, 63, 0)) 0)))) (nI 4)) 2) 11 35 (3, 62, 0)) 0) 2) 11 35 (3, 62, 0)) 0) 4)) 2) 11 36 (3, 63, 0)) 0) 3)) 2) 11 35 (3, 62, 0)) 0) : V MX11_swap h 13 L st S Q :=
  v_aload_n dX11_swap_13 rfl (fun L st S k => v_get dX11_swap_14 rfl iX11 LY_11 rfl (by decide) rfl fl_X11_78 (fun L st S k => v_iload_n dX11_swap_17 rfl (fun L st S k => v_iaload dX11_swap_18 (fun L st S k => v_istore_n dX11_swap_19 rfl (by decide) (fun L st S k => v_aload_n dX11_swap_20 rfl (fun L st S k => v_get dX11_swap_21 rfl iX11 LY_11 rfl (by decide) rfl fl_X11_81 (fun L st S k => v_iload_n dX11_swap_24 rfl (fun L st S k => v_zaload dX11_swap_25 (fun L st S k => v_istore dX11_swap_26 (by decide) (fun L st S k => v_aload_n dX11_swap_28 rfl (fun L st S k => v_get dX11_swap_29 rfl iX11 LY_11 rfl (by decide) rfl fl_X11_78 (fun L st S k => v_iload_n dX11_swap_32 rfl (fun L st S k => v_aload_n dX11_swap_33 rfl (fun L st S k => v_get dX11_swap_34 rfl iX11 LY_11 rfl (by decide) rfl fl_X11_78 (fun L st S k => v_iload_n dX11_swap_37 rfl (fun L st S k => v_iconst dX11_swap_38 (by decide) (fun L st S k => v_isub dX11_swap_39 (fun L st S k => v_iaload dX11_swap_40 (fun L st S k => v_iastore dX11_swap_41 (fun L st S k => v_aload_n dX11_swap_42 rfl (fun L st S k => v_get dX11_swap_43 rfl iX11 LY_11 rfl (by decide) rfl fl_X11_81 (fun L st S k => v_iload_n dX11_swap_46 rfl (fun L st S k => v_aload_n dX11_swap_47 rfl (fun L st S k => v_get dX11_swap_48 rfl iX11 LY_11 rfl (by decide) rfl fl_X11_81 (fun L st S k => v_iload_n dX11_swap_51 rfl (fun L st S k => v_iconst dX11_swap_52 (by decide) (fun L st S k => v_isub dX11_swap_53 (fun L st S k => v_zaload dX11_swap_54 (fun L st S k => v_zastore dX11_swap_55 (fun L st S k => v_aload_n dX11_swap_56 rfl (fun L st S k => v_get dX11_swap_57 rfl iX11 LY_11 rfl (by decide) rfl fl_X11_78 (fun L st S k => v_iload_n dX11_swap_60 rfl (fun L st S k => v_iconst dX11_swap_61 (by decide) (fun L st S k => v_isub dX11_swap_62 (fun L st S k => v_iload_n dX11_swap_63 rfl (fun L st S k => v_iastore dX11_swap_64 (fun L st S k => v_aload_n dX11_swap_65 rfl (fun L st S k => v_get dX11_swap_66 rfl iX11 LY_11 rfl (by decide) rfl fl_X11_81 (fun L st S k => v_iload_n dX11_swap_69 rfl (fun L st S k => v_iconst dX11_swap_70 (by decide) (fun L st S k => v_isub dX11_swap_71 (fun L st S k => v_iload dX11_swap_72 (fun L st S k => v_zastore dX11_swap_74 (fun L st S k => v_iinc dX11_swap_75 (by decide) (by decide) (fun L st S k => v_goto dX11_swap_78 (by decide) k) k) k) k) k) k) k) k) k) k) k) k) k) k) k) k) k) k) k) k) k) k) k) k) k) k) k) k) k) k) k) k) k) k) k) k) k) k) k) k) k) k) k) k) k) k
theorem b_X11_swap_81 {h : Nat} {L : LVs} {st : List AV} {S : ST} {Q : Option AV → ST → Prop} (k : t_vr st S Q) : V MX11_swap h 81 L st S Q :=
  w_vr dX11_swap_81 rfl k
-- QueryForgeModel.select()I
theorem dX11_select_0 : decode cX11_select 0 = .ok (.aload_n 0, 1) := by decide +kernel
theorem dX11_select_1 : decode cX11_select 1 = .ok (.iconst 0, 1) := by decide +kernel
theorem dX11_select_2 : decode cX11_select 2 = .ok (.putfield 271, 3) := by decide +kernel
theorem dX11_select_5 : decode cX11_select 5 = .ok (.iconst 1, 1) := by decide +kernel
theorem dX11_select_6 : decode cX11_select 6 = .ok (.istore_n 1, 1) := by decide +kernel
theorem dX11_select_7 : decode cX11_select 7 = .ok (.iload_n 1, 1) := by decide +kernel
theorem dX11_select_8 : decode cX11_select 8 = .ok (.ifCond .eq 77, 3) := by decide +kernel
theorem dX11_select_11 : decode cX11_select 11 = .ok (.aload_n 0, 1) := by decide +kernel
theorem dX11_select_12 : decode cX11_select 12 = .ok (.getfield 169, 3) := by decide +kernel
theorem dX11_select_15 : decode cX11_select 15 = .ok (.ifCond .ge 70, 3) := by decide +kernel
theorem dX11_select_18 : decode cX11_select 18 = .ok (.aload_n 0, 1) := by decide +kernel
theorem dX11_select_19 : decode cX11_select 19 = .ok (.getfield 90, 3) := by decide +kernel
theorem dX11_select_22 : decode cX11_select 22 = .ok (.aload_n 0, 1) := by decide +kernel
theorem dX11_select_23 : decode cX11_select 23 = .ok (.getfield 271, 3) := by decide +kernel
theorem dX11_select_26 : decode cX11_select 26 = .ok (.aload_n 0, 1) := by decide +kernel
theorem dX11_select_27 : decode cX11_select 27 = .ok (.invokevirtual 280, 3) := by decide +kernel
theorem dX11_select_30 : decode cX11_select 30 = .ok (.iastore, 1) := by decide +kernel
theorem dX11_select_31 : decode cX11_select 31 = .ok (.aload_n 0, 1) := by decide +kernel
theorem dX11_select_32 : decode cX11_select 32 = .ok (.dup, 1) := by decide +kernel
theorem dX11_select_33 : decode cX11_select 33 = .ok (.getfield 271, 3) := by decide +kernel
theorem dX11_select_36 : decode cX11_select 36 = .ok (.iconst 1, 1) := by decide +kernel
theorem dX11_select_37 : decode cX11_select 37 = .ok (.iadd, 1) := by decide +kernel
theorem dX11_select_38 : decode cX11_select 38 = .ok (.putfield 271, 3) := by decide +kernel
theorem dX11_select_41 : decode cX11_select 41 = .ok (.aload_n 0, 1) := by decide +kernel
theorem dX11_select_42 : decode cX11_select 42 = .ok (.getfield 271, 3) := by decide +kernel
theorem dX11_select_45 : decode cX11_select 45 = .ok (.iconst 4, 1) := by decide +kernel
theorem dX11_select_46 : decode cX11_select 46 = .ok (.if_icmp .ge 16, 3) := by decide +kernel
theorem dX11_select_49 : decode cX11_select 49 = .ok (.aload_n 0, 1) := by decide +kernel
theorem dX11_select_50 : decode cX11_select 50 = .ok (.bipush 34, 2) := by decide +kernel
theorem dX11_select_52 : decode cX11_select 52 = .ok (.invokevirtual 189, 3) := by decide +kernel
theorem dX11_select_55 : decode cX11_select 55 = .ok (.ifCond .eq 7, 3) := by decide +kernel
theorem dX11_select_58 : decode cX11_select 58 = .ok (.iconst 1, 1) := by decide +kernel
theorem dX11_select_59 : decode cX11_select 59 = .ok (.goto 4, 3) := by decide +kernel
theorem dX11_select_62 : decode cX11_select 62 = .ok (.iconst 0, 1) := by decide +kernel
theorem dX11_select_63 : decode cX11_select 63 = .ok (.istore_n 1, 1) := by decide +kernel
theorem dX11_select_64 : decode cX11_select 64 = .ok (.aload_n 0, 1) := by decide +kernel
theorem dX11_select_65 : decode cX11_select 65 = .ok (.dup, 1) := by decide +kernel
theorem dX11_select_66 : decode cX11_select 66 = .ok (.getfield 172, 3) := by decide +kernel
theorem dX11_select_69 : decode cX11_select 69 = .ok (.iload_n 1, 1) := by decide +kernel
theorem dX11_select_70 : decode cX11_select 70 = .ok (.ifCond .eq 7, 3) := by decide +kernel
theorem dX11_select_73 : decode cX11_select 73 = .ok (.iconst 1, 1) := by decide +kernel
theorem dX11_select_74 : decode cX11_select 74 = .ok (.goto 4, 3) := by decide +kernel
theorem dX11_select_77 : decode cX11_select 77 = .ok (.iconst 0, 1) := by decide +kernel
theorem dX11_select_78 : decode cX11_select 78 = .ok (.iadd, 1) := by decide +kernel
theorem dX11_select_79 : decode cX11_select 79 = .ok (.putfield 172, 3) := by decide +kernel
theorem dX11_select_82 : decode cX11_select 82 = .ok (.goto (-75), 3) := by decide +kernel
theorem dX11_select_85 : decode cX11_select 85 = .ok (.aload_n 0, 1) := by decide +kernel
theorem dX11_select_86 : decode cX11_select 86 = .ok (.bipush 6, 2) := by decide +kernel
theorem dX11_select_88 : decode cX11_select 88 = .ok (.invokevirtual 181, 3) := by decide +kernel
theorem dX11_select_91 : decode cX11_select 91 = .ok (.lstore_n 2, 1) := by decide +kernel
theorem dX11_select_92 : decode cX11_select 92 = .ok (.aload_n 0, 1) := by decide +kernel
theorem dX11_select_93 : decode cX11_select 93 = .ok (.getfield 63, 3) := by decide +kernel
theorem dX11_select_96 : decode cX11_select 96 = .ok (.iconst 0, 1) := by decide +kernel
theorem dX11_select_97 : decode cX11_select 97 = .ok (.aload_n 0, 1) := by decide +kernel
theorem dX11_select_98 : decode cX11_select 98 = .ok (.bipush 50, 2) := by decide +kernel
theorem dX11_select_100 : decode cX11_select 100 = .ok (.invokevirtual 181, 3) := by decide +kernel
theorem dX11_select_103 : decode cX11_select 103 = .ok (.lastore, 1) := by decide +kernel
theorem dX11_select_104 : decode cX11_select 104 = .ok (.aload_n 0, 1) := by decide +kernel
theorem dX11_select_105 : decode cX11_select 105 = .ok (.iconst 1, 1) := by decide +kernel
theorem dX11_select_106 : decode cX11_select 106 = .ok (.putfield 222, 3) := by decide +kernel
theorem dX11_select_109 : decode cX11_select 109 = .ok (.aload_n 0, 1) := by decide +kernel
theorem dX11_select_110 : decode cX11_select 110 = .ok (.bipush 34, 2) := by decide +kernel
theorem dX11_select_112 : decode cX11_select 112 = .ok (.invokevirtual 189, 3) := by decide +kernel
theorem dX11_select_115 : decode cX11_select 115 = .ok (.ifCond .eq 30, 3) := by decide +kernel
theorem dX11_select_118 : decode cX11_select 118 = .ok (.aload_n 0, 1) := by decide +kernel
theorem dX11_select_119 : decode cX11_select 119 = .ok (.dup, 1) := by decide +kernel
theorem dX11_select_120 : decode cX11_select 120 = .ok (.getfield 172, 3) := by decide +kernel
theorem dX11_select_123 : decode cX11_select 123 = .ok (.iconst 1, 1) := by decide +kernel
theorem dX11_select_124 : decode cX11_select 124 = .ok (.iadd, 1) := by decide +kernel
theorem dX11_select_125 : decode cX11_select 125 = .ok (.putfield 172, 3) := by decide +kernel
theorem dX11_select_128 : decode cX11_select 128 = .ok (.aload_n 0, 1) := by decide +kernel
theorem dX11_select_129 : decode cX11_select 129 = .ok (.getfield 63, 3) := by decide +kernel
theorem dX11_select_132 : decode cX11_select 132 = .ok (.iconst 1, 1) := by decide +kernel
theorem dX11_select_133 : decode cX11_select 133 = .ok (.aload_n 0, 1) := by decide +kernel
theorem dX11_select_134 : decode cX11_select 134 = .ok (.bipush 50, 2) := by decide +kernel
theorem dX11_select_136 : decode cX11_select 136 = .ok (.invokevirtual 181, 3) := by decide +kernel
theorem dX11_select_139 : decode cX11_select 139 = .ok (.lastore, 1) := by decide +kernel
theorem dX11_select_140 : decode cX11_select 140 = .ok (.aload_n 0, 1) := by decide +kernel
theorem dX11_select_141 : decode cX11_select 141 = .ok (.iconst 2, 1) := by decide +kernel
theorem dX11_select_142 : decode cX11_select 142 = .ok (.putfield 222, 3) := by decide +kernel
theorem dX11_select_145 : decode cX11_select 145 = .ok (.aload_n 0, 1) := by decide +kernel
theorem dX11_select_146 : decode cX11_select 146 = .ok (.invokevirtual 262, 3) := by decide +kernel
theorem dX11_select_149 : decode cX11_select 149 = .ok (.istore 4, 2) := by decide +kernel
theorem dX11_select_151 : decode cX11_select 151 = .ok (.iconst (-1), 1) := by decide +kernel
theorem dX11_select_152 : decode cX11_select 152 = .ok (.istore 5, 2) := by decide +kernel
theorem dX11_select_154 : decode cX11_select 154 = .ok (.aload_n 0, 1) := by decide +kernel
theorem dX11_select_155 : decode cX11_select 155 = .ok (.bipush 8, 2) := by decide +kernel
theorem dX11_select_157 : decode cX11_select 157 = .ok (.invokevirtual 189, 3) := by decide +kernel
theorem dX11_select_160 : decode cX11_select 160 = .ok (.ifCond .eq 19, 3) := by decide +kernel
theorem dX11_select_163 : decode cX11_select 163 = .ok (.aload_n 0, 1) := by decide +kernel
theorem dX11_select_164 : decode cX11_select 164 = .ok (.dup, 1) := by decide +kernel
theorem dX11_select_165 : decode cX11_select 165 = .ok (.getfield 172, 3) := by decide +kernel
theorem dX11_select_168 : decode cX11_select 168 = .ok (.iconst 1, 1) := by decide +kernel
theorem dX11_select_169 : decode cX11_select 169 = .ok (.iadd, 1) := by decide +kernel
theorem dX11_select_170 : decode cX11_select 170 = .ok (.putfield 172, 3) := by decide +kernel
theorem dX11_select_173 : decode cX11_select 173 = .ok (.aload_n 0, 1) := by decide +kernel
theorem dX11_select_174 : decode cX11_select 174 = .ok (.invokevirtual 192, 3) := by decide +kernel
theorem dX11_select_177 : decode cX11_select 177 = .ok (.istore 5, 2) := by decide +kernel
theorem dX11_select_179 : decode cX11_select 179 = .ok (.ldc2_w 283, 3) := by decide +kernel
theorem dX11_select_182 : decode cX11_select 182 = .ok (.lstore 6, 2) := by decide +kernel
theorem dX11_select_184 : decode cX11_select 184 = .ok (.iconst 0, 1) := by decide +kernel
theorem dX11_select_185 : decode cX11_select 185 = .ok (.istore 8, 2) := by decide +kernel
theorem dX11_select_187 : decode cX11_select 187 = .ok (.aload_n 0, 1) := by decide +kernel
theorem dX11_select_188 : decode cX11_select 188 = .ok (.bipush 9, 2) := by decide +kernel
theorem dX11_select_190 : decode cX11_select 190 = .ok (.invokevirtual 189, 3) := by decide +kernel
theorem dX11_select_193 : decode cX11_select 193 = .ok (.ifCond .eq 48, 3) := by decide +kernel
theorem dX11_select_196 : decode cX11_select 196 = .ok (.aload_n 0, 1) := by decide +kernel
theorem dX11_select_197 : decode cX11_select 197 = .ok (.dup, 1) := by decide +kernel
theorem dX11_select_198 : decode cX11_select 198 = .ok (.getfield 172, 3) := by decide +kernel
theorem dX11_select_201 : decode cX11_select 201 = .ok (.iconst 1, 1) := by decide +kernel
theorem dX11_select_202 : decode cX11_select 202 = .ok (.iadd, 1) := by decide +kernel
theorem dX11_select_203 : decode cX11_select 203 = .ok (.putfield 172, 3) := by decide +kernel
theorem dX11_select_206 : decode cX11_select 206 = .ok (.aload_n 0, 1) := by decide +kernel
theorem dX11_select_207 : decode cX11_select 207 = .ok (.bipush 51, 2) := by decide +kernel
theorem dX11_select_209 : decode cX11_select 209 = .ok (.invokevirtual 181, 3) := by decide +kernel
theorem dX11_select_212 : decode cX11_select 212 = .ok (.lstore 6, 2) := by decide +kernel
theorem dX11_select_214 : decode cX11_select 214 = .ok (.aload_n 0, 1) := by decide +kernel
theorem dX11_select_215 : decode cX11_select 215 = .ok (.bipush 10, 2) := by decide +kernel
theorem dX11_select_217 : decode cX11_select 217 = .ok (.invokevirtual 189, 3) := by decide +kernel
theorem dX11_select_220 : decode cX11_select 220 = .ok (.istore 8, 2) := by decide +kernel
theorem dX11_select_222 : decode cX11_select 222 = .ok (.aload_n 0, 1) := by decide +kernel
theorem dX11_select_223 : decode cX11_select 223 = .ok (.dup, 1) := by decide +kernel
theorem dX11_select_224 : decode cX11_select 224 = .ok (.getfield 172, 3) := by decide +kernel
theorem dX11_select_227 : decode cX11_select 227 = .ok (.iload 8, 2) := by decide +kernel
theorem dX11_select_229 : decode cX11_select 229 = .ok (.ifCond .eq 7, 3) := by decide +kernel
theorem dX11_select_232 : decode cX11_select 232 = .ok (.iconst 1, 1) := by decide +kernel
theorem dX11_select_233 : decode cX11_select 233 = .ok (.goto 4, 3) := by decide +kernel
theorem dX11_select_236 : decode cX11_select 236 = .ok (.iconst 0, 1) := by decide +kernel
theorem dX11_select_237 : decode cX11_select 237 = .ok (.iadd, 1) := by decide +kernel
theorem dX11_select_238 : decode cX11_select 238 = .ok (.putfield 172, 3) := by decide +kernel
theorem dX11_select_241 : decode cX11_select 241 = .ok (.aload_n 0, 1) := by decide +kernel
theorem dX11_select_242 : decode cX11_select 242 = .ok (.invokevirtual 255, 3) := by decide +kernel
theorem dX11_select_245 : decode cX11_select 245 = .ok (.ifCond .ne 5, 3) := by decide +kernel
theorem dX11_select_248 : decode cX11_select 248 = .ok (.iconst 0, 1) := by decide +kernel
theorem dX11_select_249 : decode cX11_select 249 = .ok (.ireturn, 1) := by decide +kernel
theorem dX11_select_250 : decode cX11_select 250 = .ok (.aload_n 0, 1) := by decide +kernel
theorem dX11_select_251 : decode cX11_select 251 = .ok (.invokevirtual 259, 3) := by decide +kernel
theorem dX11_select_254 : decode cX11_select 254 = .ok (.iconst 0, 1) := by decide +kernel
theorem dX11_select_255 : decode cX11_select 255 = .ok (.istore 9, 2) := by decide +kernel
theorem dX11_select_257 : decode cX11_select 257 = .ok (.iload 9, 2) := by decide +kernel
theorem dX11_select_259 : decode cX11_select 259 = .ok (.aload_n 0, 1) := by decide +kernel
theorem dX11_select_260 : decode cX11_select 260 = .ok (.getfield 271, 3) := by decide +kernel
theorem dX11_select_263 : decode cX11_select 263 = .ok (.if_icmp .ge 22, 3) := by decide +kernel
theorem dX11_select_266 : decode cX11_select 266 = .ok (.aload_n 0, 1) := by decide +kernel
theorem dX11_select_267 : decode cX11_select 267 = .ok (.aload_n 0, 1) := by decide +kernel
theorem dX11_select_268 : decode cX11_select 268 = .ok (.getfield 90, 3) := by decide +kernel
theorem dX11_select_271 : decode cX11_select 271 = .ok (.iload 9, 2) := by decide +kernel
theorem dX11_select_273 : decode cX11_select 273 = .ok (.iaload, 1) := by decide +kernel
theorem dX11_select_274 : decode cX11_select 274 = .ok (.invokevirtual 236, 3) := by decide +kernel
theorem dX11_select_277 : decode cX11_select 277 = .ok (.istore 10, 2) := by decide +kernel
theorem dX11_select_279 : decode cX11_select 279 = .ok (.iinc 9 1, 3) := by decide +kernel
theorem dX11_select_282 : decode cX11_select 282 = .ok (.goto (-25), 3) := by decide +kernel
theorem dX11_select_285 : decode cX11_select 285 = .ok (.iload 4, 2) := by decide +kernel
theorem dX11_select_287 : decode cX11_select 287 = .ok (.ifCond .lt 11, 3) := by decide +kernel
theorem dX11_select_290 : decode cX11_select 290 = .ok (.aload_n 0, 1) := by decide +kernel
theorem dX11_select_291 : decode cX11_select 291 = .ok (.iload 4, 2) := by decide +kernel
theorem dX11_select_293 : decode cX11_select 293 = .ok (.invokevirtual 236, 3) := by decide +kernel
theorem dX11_select_296 : decode cX11_select 296 = .ok (.istore 9, 2) := by decide +kernel
theorem dX11_select_298 : decode cX11_select 298 = .ok (.iload 5, 2) := by decide +kernel
theorem dX11_select_300 : decode cX11_select 300 = .ok (.ifCond .lt 11, 3) := by decide +kernel
theorem dX11_select_303 : decode cX11_select 303 = .ok (.aload_n 0, 1) := by decide +kernel
theorem dX11_select_304 : decode cX11_select 304 = .ok (.iload 5, 2) := by decide +kernel
theorem dX11_select_306 : decode cX11_select 306 = .ok (.invokevirtual 236, 3) := by decide +kernel
theorem dX11_select_309 : decode cX11_select 309 = .ok (.istore 9, 2) := by decide +kernel
theorem dX11_select_311 : decode cX11_select 311 = .ok (.lload 6, 2) := by decide +kernel
theorem dX11_select_313 : decode cX11_select 313 = .ok (.lconst 0, 1) := by decide +kernel
theorem dX11_select_314 : decode cX11_select 314 = .ok (.lcmp, 1) := by decide +kernel
theorem dX11_select_315 : decode cX11_select 315 = .ok (.ifCond .lt 28, 3) := by decide +kernel
theorem dX11_select_318 : decode cX11_select 318 = .ok (.lload 6, 2) := by decide +kernel
theorem dX11_select_320 : decode cX11_select 320 = .ok (.lconst 1, 1) := by decide +kernel
theorem dX11_select_321 : decode cX11_select 321 = .ok (.lcmp, 1) := by decide +kernel
theorem dX11_select_322 : decode cX11_select 322 = .ok (.ifCond .lt 14, 3) := by decide +kernel
theorem dX11_select_325 : decode cX11_select 325 = .ok (.lload 6, 2) := by decide +kernel
theorem dX11_select_327 : decode cX11_select 327 = .ok (.aload_n 0, 1) := by decide +kernel
theorem dX11_select_328 : decode cX11_select 328 = .ok (.getfield 271, 3) := by decide +kernel
theorem dX11_select_331 : decode cX11_select 331 = .ok (.i2l, 1) := by decide +kernel
theorem dX11_select_332 : decode cX11_select 332 = .ok (.lcmp, 1) := by decide +kernel
theorem dX11_select_333 : decode cX11_select 333 = .ok (.ifCond .le 10, 3) := by decide +kernel
theorem dX11_select_336 : decode cX11_select 336 = .ok (.aload_n 0, 1) := by decide +kernel
theorem dX11_select_337 : decode cX11_select 337 = .ok (.sipush (-1002), 3) := by decide +kernel
theorem dX11_select_340 : decode cX11_select 340 = .ok (.invokevirtual 229, 3) := by decide +kernel
theorem dX11_select_343 : decode cX11_select 343 = .ok (.aload_n 0, 1) := by decide +kernel
theorem dX11_select_344 : decode cX11_select 344 = .ok (.getfield 219, 3) := by decide +kernel
theorem dX11_select_347 : decode cX11_select 347 = .ok (.ifCond .ne 9, 3) := by decide +kernel
theorem dX11_select_350 : decode cX11_select 350 = .ok (.aload_n 0, 1) := by decide +kernel
theorem dX11_select_351 : decode cX11_select 351 = .ok (.iload 5, 2) := by decide +kernel
theorem dX11_select_353 : decode cX11_select 353 = .ok (.invokevirtual 285, 3) := by decide +kernel
theorem dX11_select_356 : decode cX11_select 356 = .ok (.iconst 0, 1) := by decide +kernel
theorem dX11_select_357 : decode cX11_select 357 = .ok (.istore 9, 2) := by decide +kernel
theorem dX11_select_359 : decode cX11_select 359 = .ok (.iload 9, 2) := by decide +kernel
theorem dX11_select_361 : decode cX11_select 361 = .ok (.aload_n 0, 1) := by decide +kernel
theorem dX11_select_362 : decode cX11_select 362 = .ok (.getfield 271, 3) := by decide +kernel
theorem dX11_select_365 : decode cX11_select 365 = .ok (.if_icmp .ge 20, 3) := by decide +kernel
theorem dX11_select_368 : decode cX11_select 368 = .ok (.aload_n 0, 1) := by decide +kernel
theorem dX11_select_369 : decode cX11_select 369 = .ok (.aload_n 0, 1) := by decide +kernel
theorem dX11_select_370 : decode cX11_select 370 = .ok (.getfield 90, 3) := by decide +kernel
theorem dX11_select_373 : decode cX11_select 373 = .ok (.iload 9, 2) := by decide +kernel
theorem dX11_select_375 : decode cX11_select 375 = .ok (.iaload, 1) := by decide +kernel
theorem dX11_select_376 : decode cX11_select 376 = .ok (.invokevirtual 265, 3) := by decide +kernel
theorem dX11_select_379 : decode cX11_select 379 = .ok (.iinc 9 1, 3) := by decide +kernel
theorem dX11_select_382 : decode cX11_select 382 = .ok (.goto (-23), 3) := by decide +kernel
theorem dX11_select_385 : decode cX11_select 385 = .ok (.aload_n 0, 1) := by decide +kernel
theorem dX11_select_386 : decode cX11_select 386 = .ok (.iload 4, 2) := by decide +kernel
theorem dX11_select_388 : decode cX11_select 388 = .ok (.invokevirtual 265, 3) := by decide +kernel
theorem dX11_select_391 : decode cX11_select 391 = .ok (.aload_n 0, 1) := by decide +kernel
theorem dX11_select_392 : decode cX11_select 392 = .ok (.getfield 219, 3) := by decide +kernel
theorem dX11_select_395 : decode cX11_select 395 = .ok (.ifCond .eq 5, 3) := by decide +kernel
theorem dX11_select_398 : decode cX11_select 398 = .ok (.iconst 0, 1) := by decide +kernel
theorem dX11_select_399 : decode cX11_select 399 = .ok (.ireturn, 1) := by decide +kernel
theorem dX11_select_400 : decode cX11_select 400 = .ok (.aload_n 0, 1) := by decide +kernel
theorem dX11_select_401 : decode cX11_select 401 = .ok (.iload 4, 2) := by decide +kernel
theorem dX11_select_403 : decode cX11_select 403 = .ok (.iload 5, 2) := by decide +kernel
theorem dX11_select_405 : decode cX11_select 405 = .ok (.invokevirtual 288, 3) := by decide +kernel
theorem dX11_select_408 : decode cX11_select 408 = .ok (.aload_n 0, 1) := by decide +kernel
theorem dX11_select_409 : decode cX11_select 409 = .ok (.invokevirtual 292, 3) := by decide +kernel
theorem dX11_select_412 : decode cX11_select 412 = .ok (.iconst 1, 1) := by decide +kernel
theorem dX11_select_413 : decode cX11_select 413 = .ok (.istore 9, 2) := by decide +kernel
theorem dX11_select_415 : decode cX11_select 415 = .ok (.lload 6, 2) := by decide +kernel
theorem dX11_select_417 : decode cX11_select 417 = .ok (.lconst 0, 1) := by decide +kernel
theorem dX11_select_418 : decode cX11_select 418 = .ok (.lcmp, 1) := by decide +kernel
theorem dX11_select_419 : decode cX11_select 419 = .ok (.ifCond .lt 66, 3) := by decide +kernel
theorem dX11_select_422 : decode cX11_select 422 = .ok (.iload 9, 2) := by decide +kernel
theorem dX11_select_424 : decode cX11_select 424 = .ok (.aload_n 0, 1) := by decide +kernel
theorem dX11_select_425 : decode cX11_select 425 = .ok (.getfield 277, 3) := by decide +kernel
theorem dX11_select_428 : decode cX11_select 428 = .ok (.if_icmp .ge 57, 3) := by decide +kernel
theorem dX11_select_431 : decode cX11_select 431 = .ok (.aload_n 0, 1) := by decide +kernel
theorem dX11_select_432 : decode cX11_select 432 = .ok (.getfield 219, 3) := by decide +kernel
theorem dX11_select_435 : decode cX11_select 435 = .ok (.ifCond .ne 50, 3) := by decide +kernel
theorem dX11_select_438 : decode cX11_select 438 = .ok (.iload 9, 2) := by decide +kernel
theorem dX11_select_440 : decode cX11_select 440 = .ok (.istore 10, 2) := by decide +kernel
theorem dX11_select_442 : decode cX11_select 442 = .ok (.iload 10, 2) := by decide +kernel
theorem dX11_select_444 : decode cX11_select 444 = .ok (.ifCond .le 35, 3) := by decide +kernel
theorem dX11_select_447 : decode cX11_select 447 = .ok (.aload_n 0, 1) := by decide +kernel
theorem dX11_select_448 : decode cX11_select 448 = .ok (.iload 10, 2) := by decide +kernel
theorem dX11_select_450 : decode cX11_select 450 = .ok (.iload 10, 2) := by decide +kernel
theorem dX11_select_452 : decode cX11_select 452 = .ok (.iconst 1, 1) := by decide +kernel
theorem dX11_select_453 : decode cX11_select 453 = .ok (.isub, 1) := by decide +kernel
theorem dX11_select_454 : decode cX11_select 454 = .ok (.lload 6, 2) := by decide +kernel
theorem dX11_select_456 : decode cX11_select 456 = .ok (.l2i, 1) := by decide +kernel
theorem dX11_select_457 : decode cX11_select 457 = .ok (.iconst 1, 1) := by decide +kernel
theorem dX11_select_458 : decode cX11_select 458 = .ok (.isub, 1) := by decide +kernel
theorem dX11_select_459 : decode cX11_select 459 = .ok (.iload 8, 2) := by decide +kernel
theorem dX11_select_461 : decode cX11_select 461 = .ok (.invokevirtual 295, 3) := by decide +kernel
theorem dX11_select_464 : decode cX11_select 464 = .ok (.ifCond .eq 15, 3) := by decide +kernel
theorem dX11_select_467 : decode cX11_select 467 = .ok (.aload_n 0, 1) := by decide +kernel
theorem dX11_select_468 : decode cX11_select 468 = .ok (.iload 10, 2) := by decide +kernel
theorem dX11_select_470 : decode cX11_select 470 = .ok (.invokevirtual 299, 3) := by decide +kernel
theorem dX11_select_473 : decode cX11_select 473 = .ok (.iinc 10 (-1), 3) := by decide +kernel
theorem dX11_select_476 : decode cX11_select 476 = .ok (.goto (-34), 3) := by decide +kernel
theorem dX11_select_479 : decode cX11_select 479 = .ok (.iinc 9 1, 3) := by decide +kernel
theorem dX11_select_482 : decode cX11_select 482 = .ok (.goto (-67), 3) := by decide +kernel
theorem dX11_select_485 : decode cX11_select 485 = .ok (.aload_n 0, 1) := by decide +kernel
theorem dX11_select_486 : decode cX11_select 486 = .ok (.getfield 219, 3) := by decide +kernel
theorem dX11_select_489 : decode cX11_select 489 = .ok (.ifCond .ne 81, 3) := by decide +kernel
theorem dX11_select_492 : decode cX11_select 492 = .ok (.aload_n 0, 1) := by decide +kernel
theorem dX11_select_493 : decode cX11_select 493 = .ok (.aload_n 0, 1) := by decide +kernel
theorem dX11_select_494 : decode cX11_select 494 = .ok (.getfield 277, 3) := by decide +kernel
theorem dX11_select_497 : decode cX11_select 497 = .ok (.putfield 302, 3) := by decide +kernel
theorem dX11_select_500 : decode cX11_select 500 = .ok (.aload_n 0, 1) := by decide +kernel
theorem dX11_select_501 : decode cX11_select 501 = .ok (.aload_n 0, 1) := by decide +kernel
theorem dX11_select_502 : decode cX11_select 502 = .ok (.getfield 271, 3) := by decide +kernel
theorem dX11_select_505 : decode cX11_select 505 = .ok (.putfield 305, 3) := by decide +kernel
theorem dX11_select_508 : decode cX11_select 508 = .ok (.iconst 0, 1) := by decide +kernel
theorem dX11_select_509 : decode cX11_select 509 = .ok (.istore 9, 2) := by decide +kernel
theorem dX11_select_511 : decode cX11_select 511 = .ok (.iload 9, 2) := by decide +kernel
theorem dX11_select_513 : decode cX11_select 513 = .ok (.iconst 4, 1) := by decide +kernel
theorem dX11_select_514 : decode cX11_select 514 = .ok (.aload_n 0, 1) := by decide +kernel
theorem dX11_select_515 : decode cX11_select 515 = .ok (.getfield 277, 3) := by decide +kernel
theorem dX11_select_518 : decode cX11_select 518 = .ok (.imul, 1) := by decide +kernel
theorem dX11_select_519 : decode cX11_select 519 = .ok (.if_icmp .ge 51, 3) := by decide +kernel
theorem dX11_select_522 : decode cX11_select 522 = .ok (.aload_n 0, 1) := by decide +kernel
theorem dX11_select_523 : decode cX11_select 523 = .ok (.getfield 72, 3) := by decide +kernel
theorem dX11_select_526 : decode cX11_select 526 = .ok (.iload 9, 2) := by decide +kernel
theorem dX11_select_528 : decode cX11_select 528 = .ok (.aload_n 0, 1) := by decide +kernel
theorem dX11_select_529 : decode cX11_select 529 = .ok (.getfield 81, 3) := by decide +kernel
theorem dX11_select_532 : decode cX11_select 532 = .ok (.iload 9, 2) := by decide +kernel
theorem dX11_select_534 : decode cX11_select 534 = .ok (.baload, 1) := by decide +kernel
theorem dX11_select_535 : decode cX11_select 535 = .ok (.ifCond .eq 7, 3) := by decide +kernel
theorem dX11_select_538 : decode cX11_select 538 = .ok (.iconst 0, 1) := by decide +kernel
theorem dX11_select_539 : decode cX11_select 539 = .ok (.goto 10, 3) := by decide +kernel
theorem dX11_select_542 : decode cX11_select 542 = .ok (.aload_n 0, 1) := by decide +kernel
theorem dX11_select_543 : decode cX11_select 543 = .ok (.getfield 78, 3) := by decide +kernel
theorem dX11_select_546 : decode cX11_select 546 = .ok (.iload 9, 2) := by decide +kernel
theorem dX11_select_548 : decode cX11_select 548 = .ok (.iaload, 1) := by decide +kernel
theorem dX11_select_549 : decode cX11_select 549 = .ok (.iastore, 1) := by decide +kernel
theorem dX11_select_550 : decode cX11_select 550 = .ok (.aload_n 0, 1) := by decide +kernel
theorem dX11_select_551 : decode cX11_select 551 = .ok (.getfield 75, 3) := by decide +kernel
theorem dX11_select_554 : decode cX11_select 554 = .ok (.iload 9, 2) := by decide +kernel
theorem dX11_select_556 : decode cX11_select 556 = .ok (.aload_n 0, 1) := by decide +kernel
theorem dX11_select_557 : decode cX11_select 557 = .ok (.getfield 81, 3) := by decide +kernel
theorem dX11_select_560 : decode cX11_select 560 = .ok (.iload 9, 2) := by decide +kernel
theorem dX11_select_562 : decode cX11_select 562 = .ok (.baload, 1) := by decide +kernel
theorem dX11_select_563 : decode cX11_select 563 = .ok (.bastore, 1) := by decide +kernel
theorem dX11_select_564 : decode cX11_select 564 = .ok (.iinc 9 1, 3) := by decide +kernel
theorem dX11_select_567 : decode cX11_select 567 = .ok (.goto (-56), 3) := by decide +kernel
theorem dX11_select_570 : decode cX11_select 570 = .ok (.aload_n 0, 1) := by decide +kernel
theorem dX11_select_571 : decode cX11_select 571 = .ok (.getfield 277, 3) := by decide +kernel
theorem dX11_select_574 : decode cX11_select 574 = .ok (.ireturn, 1) := by decide +kernel
theorem b_X11_select_0 {h : Nat} {L : LVs} {st : List AV} {S : ST} {Q : Option AV → ST → Prop} (k : o_al L st S (fun L st S => o_c L st S (fun L st S => o_puti L st S (fun L st S => o_c L st S (fun L st S => o_is L st S (fun L st S => V MX11_select h 7 L st S Q) 1) (nI 1)) 11 40) (nI 0)) 0) : V MX11_select h 0 L st S Q :=
  v_aload_n dX11_select_0 rfl (fun L st S k => v_iconst dX11_select_1 (by decide) (fun L st S k => v_puti dX11_select_2 rfl iX11 tyX11_ok nmX11 LY_11 rfl (by decide) rfl fl_X11_271 rfl rfl (fun L st S k => v_iconst dX11_select_5 (by decide) (fun L st S k => v_istore_n dX11_select_6 rfl (by decide) (fun L st S k => k) k) k) k) k) k
theorem b_X11_select_7 {h : Nat} {L : LVs} {st : List AV} {S : ST} {Q : Option AV → ST → Prop} (k : o_il L st S (fun L st S => t_1 L st S (fun x => x = nI 0) (fun L st S => V MX11_select h 85 L st S Q) (fun L st S => V MX11_select h 11 L st S Q)) 1) : V MX11_select h 7 L st S Q :=
  v_iload_n dX11_select_7 rfl (fun L st S k => w_if_eq dX11_select_8 (by decide) rfl k) k
theorem b_X11_select_11 {h : Nat} {L : LVs} {st : List AV} {S : ST} {Q : Option AV → ST → Prop} (k : o_al L st S (fun L st S => o_get L st S (fun L st S => t_1 L st S (fun x => nI 0 ≤ x) (fun L st S => V MX11_select h 85 L st S Q) (fun L st S => V MX11_select h 18 L st S Q)) 11 6 (0, 0, 0)) 0) : V MX11_select h 11 L st S Q :=
  v_aload_n dX11_select_11 rfl (fun L st S k => v_get dX11_select_12 rfl iX11 LY_11 rfl (by decide) rfl fl_X11_169 (fun L st S k => w_if_ge dX11_select_15 (by decide) rfl k) k) k
theorem b_X11_select_18 {h : Nat} {L : LVs} {st : List AV} {S : ST} {Q : Option AV → ST → Prop} (k : o_al L st S (fun L st S => o_get L st S (fun L st S => o_al L st S (fun L st S => o_get L st S (fun L st S => o_al L st S (fun L st S => V MX11_select h 27 L st S Q) 0) 11 40 (0, 0, 0)) 0) 11 39 (3, 66, 0)) 0) : V MX11_select h 18 L st S Q :=
  v_aload_n dX11_select_18 rfl (fun L st S k => v_get dX11_select_19 rfl iX11 LY_11 rfl (by decide) rfl fl_X11_90 (fun L st S k => v_aload_n dX11_select_22 rfl (fun L st S k => v_get dX11_select_23 rfl iX11 LY_11 rfl (by decide) rfl fl_X11_271 (fun L st S k => v_aload_n dX11_select_26 rfl (fun L st S k => k) k) k) k) k) k
theorem k_X11_select_27 {h : Nat} {L : LVs} {st : List AV} {S : ST} {Q Q' : Option AV → ST → Prop} {j : Nat} (hC : Ct MX11_item h [vR 11 j] S Q') (k : ∀ (r : Option AV) (S' : ST), Q' r S' → V MX11_select (h + 1) 30 L (r.toList ++ st) S' Q) (hj : j < NI 11) (hw : wid st ≤ 8) : V MX11_select (h + 1) 27 L (vR 11 j :: st) S Q :=
  v_callV (M' := MX11_item) (c := 11) (As := []) dX11_select_27 ml_X11_280 im_X11_item se_X11_item in_X11 cd_X11_item rfl LY_11 np_X11_item (by decide) hw hj hC k
theorem b_X11_select_30 {h : Nat} {L : LVs} {st : List AV} {S : ST} {Q : Option AV → ST → Prop} (k : o_iast L st S (fun L st S => o_al L st S (fun L st S => o_dup L st S (fun L st S => o_get L st S (fun L st S => o_c L st S (fun L st S => o_iadd L st S (fun L st S => o_puti L st S (fun L st S => o_al L st S (fun L st S => o_get L st S (fun L st S => o_c L st S (fun L st S => t_2 L st S (fun x y => y ≤ x) (fun L st S => V MX11_select h 62 L st S Q) (fun L st S => V MX11_select h 49 L st S Q)) (nI 4)) 11 40 (0, 0, 0)) 0) 11 40)) (nI 1)) 11 40 (0, 0, 0))) 0)) : V MX11_select h 30 L st S Q :=
  v_iastore dX11_select_30 (fun L st S k => v_aload_n dX11_select_31 rfl (fun L st S k => v_dup dX11_select_32 (fun L st S k => v_get dX11_select_33 rfl iX11 LY_11 rfl (by decide) rfl fl_X11_271 (fun L st S k => v_iconst dX11_select_36 (by decide) (fun L st S k => v_iadd dX11_select_37 (fun L st S k => v_puti dX11_select_38 rfl iX11 tyX11_ok nmX11 LY_11 rfl (by decide) rfl fl_X11_271 rfl rfl (fun L st S k => v_aload_n dX11_select_41 rfl (fun L st S k => v_get dX11_select_42 rfl iX11 LY_11 rfl (by decide) rfl fl_X11_271 (fun L st S k => v_iconst dX11_select_45 (by decide) (fun L st S k => w_icmp_ge dX11_select_46 (by decide) rfl k) k) k) k) k) k) k) k) k) k) k
theorem b_X11_select_49 {h : Nat} {L : LVs} {st : List AV} {S : ST} {Q : Option AV → ST → Prop} (k : o_al L st S (fun L st S => o_c L st S (fun L st S => V MX11_select h 52 L st S Q) (nI 34)) 0) : V MX11_select h 49 L st S Q :=
  v_aload_n dX11_select_49 rfl (fun L st S k => v_bipush dX11_select_50 (by decide) (fun L st S k => k) k) k
theorem k_X11_select_52 {h : Nat} {L : LVs} {st : List AV} {S : ST} {Q Q' : Option AV → ST → Prop} {j : Nat} {a0 : AV} (hC : Ct MX11_is h [vR 11 j, a0] S Q') (k : ∀ (r : Option AV) (S' : ST), Q' r S' → V MX11_select (h + 1) 55 L (r.toList ++ st) S' Q) (hj : j < NI 11) (hw : wid st ≤ 8) : V MX11_select (h + 1) 52 L (a0 :: vR 11 j :: st) S Q :=
  v_callV (M' := MX11_is) (c := 11) (As := [a0]) dX11_select_52 ml_X11_189 im_X11_is se_X11_is in_X11 cd_X11_is rfl LY_11 np_X11_is (by decide) hw hj hC k
theorem b_X11_select_55 {h : Nat} {L : LVs} {st : List AV} {S : ST} {Q : Option AV → ST → Prop} (k : t_1 L st S (fun x => x = nI 0) (fun L st S => V MX11_select h 62 L st S Q) (fun L st S => V MX11_select h 58 L st S Q)) : V MX11_select h 55 L st S Q :=
  w_if_eq dX11_select_55 (by decide) rfl k
theorem b_X11_select_58 {h : Nat} {L : LVs} {st : List AV} {S : ST} {Q : Option AV → ST → Prop} (k : o_c L st S (fun L st S => V MX11_select h 63 L st S Q) (nI 1)) : V MX11_select h 58 L st S Q :=
  v_iconst dX11_select_58 (by decide) (fun L st S k => v_goto dX11_select_59 (by decide) k) k
theorem b_X11_select_62 {h : Nat} {L : LVs} {st : List AV} {S : ST} {Q : Option AV → ST → Prop} (k : o_c L st S (fun L st S => V MX11_select h 63 L st S Q) (nI 0)) : V MX11_select h 62 L st S Q :=
  v_iconst dX11_select_62 (by decide) (fun L st S k => k) k
theorem b_X11_select_63 {h : Nat} {L : LVs} {st : List AV} {S : ST} {Q : Option AV → ST → Prop} (k : o_is L st S (fun L st S => o_al L st S (fun L st S => o_dup L st S (fun L st S => o_get L st S (fun L st S => o_il L st S (fun L st S => t_1 L st S (fun x => x = nI 0) (fun L st S => V MX11_select h 77 L st S Q) (fun L st S => V MX11_select h 73 L st S Q)) 1) 11 5 (0, 0, 0))) 0) 1) : V MX11_select h 63 L st S Q :=
  v_istore_n dX11_select_63 rfl (by decide) (fun L st S k => v_aload_n dX11_select_64 rfl (fun L st S k => v_dup dX11_select_65 (fun L st S k => v_get dX11_select_66 rfl iX11 LY_11 rfl (by decide) rfl fl_X11_172 (fun L st S k => v_iload_n dX11_select_69 rfl (fun L st S k => w_if_eq dX11_select_70 (by decide) rfl k) k) k) k) k) k
theorem b_X11_select_73 {h : Nat} {L : LVs} {st : List AV} {S : ST} {Q : Option AV → ST → Prop} (k : o_c L st S (fun L st S => V MX11_select h 78 L st S Q) (nI 1)) : V MX11_select h 73 L st S Q :=
  v_iconst dX11_select_73 (by decide) (fun L st S k => v_goto dX11_select_74 (by decide) k) k
theorem b_X11_select_77 {h : Nat} {L : LVs} {st : List AV} {S : ST} {Q : Option AV → ST → Prop} (k : o_c L st S (fun L st S => V MX11_select h 78 L st S Q) (nI 0)) : V MX11_select h 77 L st S Q :=
  v_iconst dX11_select_77 (by decide) (fun L st S k => k) k
theorem b_X11_select_78 {h : Nat} {L : LVs} {st : List AV} {S : ST} {Q : Option AV → ST → Prop} (k : o_iadd L st S (fun L st S => o_puti L st S (fun L st S => V MX11_select h 7 L st S Q) 11 5)) : V MX11_select h 78 L st S Q :=
  v_iadd dX11_select_78 (fun L st S k => v_puti dX11_select_79 rfl iX11 tyX11_ok nmX11 LY_11 rfl (by decide) rfl fl_X11_172 rfl rfl (fun L st S k => v_goto dX11_select_82 (by decide) k) k) k
theorem b_X11_select_85 {h : Nat} {L : LVs} {st : List AV} {S : ST} {Q : Option AV → ST → Prop} (k : o_al L st S (fun L st S => o_c L st S (fun L st S => V MX11_select h 88 L st S Q) (nI 6)) 0) : V MX11_select h 85 L st S Q :=
  v_aload_n dX11_select_85 rfl (fun L st S k => v_bipush dX11_select_86 (by decide) (fun L st S k => k) k) k
theorem k_X11_select_88 {h : Nat} {L : LVs} {st : List AV} {S : ST} {Q Q' : Option AV → ST → Prop} {j : Nat} {a0 : AV} (hC : Ct MX11_take h [vR 11 j, a0] S Q') (k : ∀ (r : Option AV) (S' : ST), Q' r S' → V MX11_select (h + 1) 91 L (r.toList ++ st) S' Q) (hj : j < NI 11) (hw : wid st ≤ 8) : V MX11_select (h + 1) 88 L (a0 :: vR 11 j :: st) S Q :=
  v_callV (M' := MX11_take) (c := 11) (As := [a0]) dX11_select_88 ml_X11_181 im_X11_take se_X11_take in_X11 cd_X11_take rfl LY_11 np_X11_take (by decide) hw hj hC k
theorem b_X11_select_91 {h : Nat} {L : LVs} {st : List AV} {S : ST} {Q : Option AV → ST → Prop} (k : o_ls L st S (fun L st S => o_al L st S (fun L st S => o_get L st S (fun L st S => o_c L st S (fun L st S => o_al L st S (fun L st S => o_c L st S (fun L st S => V MX11_select h 100 L st S Q) (nI 50)) 0) (nI 0)) 11 25 (3, 57, 0)) 0) 2) : V MX11_select h 91 L st S Q :=
  v_lstore_n dX11_select_91 rfl (by decide) (fun L st S k => v_aload_n dX11_select_92 rfl (fun L st S k => v_get dX11_select_93 rfl iX11 LY_11 rfl (by decide) rfl fl_X11_63 (fun L st S k => v_iconst dX11_select_96 (by decide) (fun L st S k => v_aload_n dX11_select_97 rfl (fun L st S k => v_bipush dX11_select_98 (by decide) (fun L st S k => k) k) k) k) k) k) k
theorem k_X11_select_100 {h : Nat} {L : LVs} {st : List AV} {S : ST} {Q Q' : Option AV → ST → Prop} {j : Nat} {a0 : AV} (hC : Ct MX11_take h [vR 11 j, a0] S Q') (k : ∀ (r : Option AV) (S' : ST), Q' r S' → V MX11_select (h + 1) 103 L (r.toList ++ st) S' Q) (hj : j < NI 11) (hw : wid st ≤ 8) : V MX11_select (h + 1) 100 L (a0 :: vR 11 j :: st) S Q :=
  v_callV (M' := MX11_take) (c := 11) (As := [a0]) dX11_select_100 ml_X11_181 im_X11_take se_X11_take in_X11 cd_X11_take rfl LY_11 np_X11_take (by decide) hw hj hC k
theorem b_X11_select_103 {h : Nat} {L : LVs} {st : List AV} {S : ST} {Q : Option AV → ST → Prop} (k : o_last L st S (fun L st S => o_al L st S (fun L st S => o_c L st S (fun L st S => o_puti L st S (fun L st S => o_al L st S (fun L st S => o_c L st S (fun L st S => V MX11_select h 112 L st S Q) (nI 34)) 0) 11 24) (nI 1)) 0)) : V MX11_select h 103 L st S Q :=
  v_lastore dX11_select_103 (fun L st S k => v_aload_n dX11_select_104 rfl (fun L st S k => v_iconst dX11_select_105 (by decide) (fun L st S k => v_puti dX11_select_106 rfl iX11 tyX11_ok nmX11 LY_11 rfl (by decide) rfl fl_X11_222 rfl rfl (fun L st S k => v_aload_n dX11_select_109 rfl (fun L st S k => v_bipush dX11_select_110 (by decide) (fun L st S k => k) k) k) k) k) k) k
theorem k_X11_select_112 {h : Nat} {L : LVs} {st : List AV} {S : ST} {Q Q' : Option AV → ST → Prop} {j : Nat} {a0 : AV} (hC : Ct MX11_is h [vR 11 j, a0] S Q') (k : ∀ (r : Option AV) (S' : ST), Q' r S' → V MX11_select (h + 1) 115 L (r.toList ++ st) S' Q) (hj : j < NI 11) (hw : wid st ≤ 8) : V MX11_select (h + 1) 112 L (a0 :: vR 11 j :: st) S Q :=
  v_callV (M' := MX11_is) (c := 11) (As := [a0]) dX11_select_112 ml_X11_189 im_X11_is se_X11_is in_X11 cd_X11_is rfl LY_11 np_X11_is (by decide) hw hj hC k
theorem b_X11_select_115 {h : Nat} {L : LVs} {st : List AV} {S : ST} {Q : Option AV → ST → Prop} (k : t_1 L st S (fun x => x = nI 0) (fun L st S => V MX11_select h 145 L st S Q) (fun L st S => V MX11_select h 118 L st S Q)) : V MX11_select h 115 L st S Q :=
  w_if_eq dX11_select_115 (by decide) rfl k
theorem b_X11_select_118 {h : Nat} {L : LVs} {st : List AV} {S : ST} {Q : Option AV → ST → Prop} (k : o_al L st S (fun L st S => o_dup L st S (fun L st S => o_get L st S (fun L st S => o_c L st S (fun L st S => o_iadd L st S (fun L st S => o_puti L st S (fun L st S => o_al L st S (fun L st S => o_get L st S (fun L st S => o_c L st S (fun L st S => o_al L st S (fun L st S => o_c L st S (fun L st S => V MX11_select h 136 L st S Q) (nI 50)) 0) (nI 1)) 11 25 (3, 57, 0)) 0) 11 5)) (nI 1)) 11 5 (0, 0, 0))) 0) : V MX11_select h 118 L st S Q :=
  v_aload_n dX11_select_118 rfl (fun L st S k => v_dup dX11_select_119 (fun L st S k => v_get dX11_select_120 rfl iX11 LY_11 rfl (by decide) rfl fl_X11_172 (fun L st S k => v_iconst dX11_select_123 (by decide) (fun L st S k => v_iadd dX11_select_124 (fun L st S k => v_puti dX11_select_125 rfl iX11 tyX11_ok nmX11 LY_11 rfl (by decide) rfl fl_X11_172 rfl rfl (fun L st S k => v_aload_n dX11_select_128 rfl (fun L st S k => v_get dX11_select_129 rfl iX11 LY_11 rfl (by decide) rfl fl_X11_63 (fun L st S k => v_iconst dX11_select_132 (by decide) (fun L st S k => v_aload_n dX11_select_133 rfl (fun L st S k => v_bipush dX11_select_134 (by decide) (fun L st S k => k) k) k) k) k) k) k) k) k) k) k) k
theorem k_X11_select_136 {h : Nat} {L : LVs} {st : List AV} {S : ST} {Q Q' : Option AV → ST → Prop} {j : Nat} {a0 : AV} (hC : Ct MX11_take h [vR 11 j, a0] S Q') (k : ∀ (r : Option AV) (S' : ST), Q' r S' → V MX11_select (h + 1) 139 L (r.toList ++ st) S' Q) (hj : j < NI 11) (hw : wid st ≤ 8) : V MX11_select (h + 1) 136 L (a0 :: vR 11 j :: st) S Q :=
  v_callV (M' := MX11_take) (c := 11) (As := [a0]) dX11_select_136 ml_X11_181 im_X11_take se_X11_take in_X11 cd_X11_take rfl LY_11 np_X11_take (by decide) hw hj hC k
theorem b_X11_select_139 {h : Nat} {L : LVs} {st : List AV} {S : ST} {Q : Option AV → ST → Prop} (k : o_last L st S (fun L st S => o_al L st S (fun L st S => o_c L st S (fun L st S => o_puti L st S (fun L st S => V MX11_select h 145 L st S Q) 11 24) (nI 2)) 0)) : V MX11_select h 139 L st S Q :=
  v_lastore dX11_select_139 (fun L st S k => v_aload_n dX11_select_140 rfl (fun L st S k => v_iconst dX11_select_141 (by decide) (fun L st S k => v_puti dX11_select_142 rfl iX11 tyX11_ok nmX11 LY_11 rfl (by decide) rfl fl_X11_222 rfl rfl (fun L st S k => k) k) k) k) k
theorem b_X11_select_145 {h : Nat} {L : LVs} {st : List AV} {S : ST} {Q : Option AV → ST → Prop} (k : o_al L st S (fun L st S => V MX11_select h 146 L st S Q) 0) : V MX11_select h 145 L st S Q :=
  v_aload_n dX11_select_145 rfl (fun L st S k => k) k
theorem k_X11_select_146 {h : Nat} {L : LVs} {st : List AV} {S : ST} {Q Q' : Option AV → ST → Prop} {j : Nat} (hC : Ct MX11_where h [vR 11 j] S Q') (k : ∀ (r : Option AV) (S' : ST), Q' r S' → V MX11_select (h + 1) 149 L (r.toList ++ st) S' Q) (hj : j < NI 11) (hw : wid st ≤ 8) : V MX11_select (h + 1) 146 L (vR 11 j :: st) S Q :=
  v_callV (M' := MX11_where) (c := 11) (As := []) dX11_select_146 ml_X11_262 im_X11_where se_X11_where in_X11 cd_X11_where rfl LY_11 np_X11_where (by decide) hw hj hC k
theorem b_X11_select_149 {h : Nat} {L : LVs} {st : List AV} {S : ST} {Q : Option AV → ST → Prop} (k : o_is L st S (fun L st S => o_c L st S (fun L st S => o_is L st S (fun L st S => o_al L st S (fun L st S => o_c L st S (fun L st S => V MX11_select h 157 L st S Q) (nI 8)) 0) 5) (-1)) 4) : V MX11_select h 149 L st S Q :=
  v_istore dX11_select_149 (by decide) (fun L st S k => v_iconst dX11_select_151 (by decide) (fun L st S k => v_istore dX11_select_152 (by decide) (fun L st S k => v_aload_n dX11_select_154 rfl (fun L st S k => v_bipush dX11_select_155 (by decide) (fun L st S k => k) k) k) k) k) k
theorem k_X11_select_157 {h : Nat} {L : LVs} {st : List AV} {S : ST} {Q Q' : Option AV → ST → Prop} {j : Nat} {a0 : AV} (hC : Ct MX11_is h [vR 11 j, a0] S Q') (k : ∀ (r : Option AV) (S' : ST), Q' r S' → V MX11_select (h + 1) 160 L (r.toList ++ st) S' Q) (hj : j < NI 11) (hw : wid st ≤ 8) : V MX11_select (h + 1) 157 L (a0 :: vR 11 j :: st) S Q :=
  v_callV (M' := MX11_is) (c := 11) (As := [a0]) dX11_select_157 ml_X11_189 im_X11_is se_X11_is in_X11 cd_X11_is rfl LY_11 np_X11_is (by decide) hw hj hC k
theorem b_X11_select_160 {h : Nat} {L : LVs} {st : List AV} {S : ST} {Q : Option AV → ST → Prop} (k : t_1 L st S (fun x => x = nI 0) (fun L st S => V MX11_select h 179 L st S Q) (fun L st S => V MX11_select h 163 L st S Q)) : V MX11_select h 160 L st S Q :=
  w_if_eq dX11_select_160 (by decide) rfl k
theorem b_X11_select_163 {h : Nat} {L : LVs} {st : List AV} {S : ST} {Q : Option AV → ST → Prop} (k : o_al L st S (fun L st S => o_dup L st S (fun L st S => o_get L st S (fun L st S => o_c L st S (fun L st S => o_iadd L st S (fun L st S => o_puti L st S (fun L st S => o_al L st S (fun L st S => V MX11_select h 174 L st S Q) 0) 11 5)) (nI 1)) 11 5 (0, 0, 0))) 0) : V MX11_select h 163 L st S Q :=
  v_aload_n dX11_select_163 rfl (fun L st S k => v_dup dX11_select_164 (fun L st S k => v_get dX11_select_165 rfl iX11 LY_11 rfl (by decide) rfl fl_X11_172 (fun L st S k => v_iconst dX11_select_168 (by decide) (fun L st S k => v_iadd dX11_select_169 (fun L st S k => v_puti dX11_select_170 rfl iX11 tyX11_ok nmX11 LY_11 rfl (by decide) rfl fl_X11_172 rfl rfl (fun L st S k => v_aload_n dX11_select_173 rfl (fun L st S k => k) k) k) k) k) k) k) k
theorem k_X11_select_174 {h : Nat} {L : LVs} {st : List AV} {S : ST} {Q Q' : Option AV → ST → Prop} {j : Nat} (hC : Ct MX11_place h [vR 11 j] S Q') (k : ∀ (r : Option AV) (S' : ST), Q' r S' → V MX11_select (h + 1) 177 L (r.toList ++ st) S' Q) (hj : j < NI 11) (hw : wid st ≤ 8) : V MX11_select (h + 1) 174 L (vR 11 j :: st) S Q :=
  v_callV (M' := MX11_place) (c := 11) (As := []) dX11_select_174 ml_X11_192 im_X11_place se_X11_place in_X11 cd_X11_place rfl LY_11 np_X11_place (by decide) hw hj hC k
theorem b_X11_select_177 {h : Nat} {L : LVs} {st : List AV} {S : ST} {Q : Option AV → ST → Prop} (k : o_is L st S (fun L st S => V MX11_select h 179 L st S Q) 5) : V MX11_select h 177 L st S Q :=
  v_istore dX11_select_177 (by decide) (fun L st S k => k) k
theorem b_X11_select_179 {h : Nat} {L : LVs} {st : List AV} {S : ST} {Q : Option AV → ST → Prop} (k : o_lc L st S (fun L st S => o_ls L st S (fun L st S => o_c L st S (fun L st S => o_is L st S (fun L st S => o_al L st S (fun L st S => o_c L st S (fun L st S => V MX11_select h 190 L st S Q) (nI 9)) 0) 8) (nI 0)) 6) (-1)) : V MX11_select h 179 L st S Q :=
  v_ldc2 dX11_select_179 kl_X11_283 (fun L st S k => v_lstore dX11_select_182 (by decide) (fun L st S k => v_iconst dX11_select_184 (by decide) (fun L st S k => v_istore dX11_select_185 (by decide) (fun L st S k => v_aload_n dX11_select_187 rfl (fun L st S k => v_bipush dX11_select_188 (by decide) (fun L st S k => k) k) k) k) k) k) k
theorem k_X11_select_190 {h : Nat} {L : LVs} {st : List AV} {S : ST} {Q Q' : Option AV → ST → Prop} {j : Nat} {a0 : AV} (hC : Ct MX11_is h [vR 11 j, a0] S Q') (k : ∀ (r : Option AV) (S' : ST), Q' r S' → V MX11_select (h + 1) 193 L (r.toList ++ st) S' Q) (hj : j < NI 11) (hw : wid st ≤ 8) : V MX11_select (h + 1) 190 L (a0 :: vR 11 j :: st) S Q :=
  v_callV (M' := MX11_is) (c := 11) (As := [a0]) dX11_select_190 ml_X11_189 im_X11_is se_X11_is in_X11 cd_X11_is rfl LY_11 np_X11_is (by decide) hw hj hC k
theorem b_X11_select_193 {h : Nat} {L : LVs} {st : List AV} {S : ST} {Q : Option AV → ST → Prop} (k : t_1 L st S (fun x => x = nI 0) (fun L st S => V MX11_select h 241 L st S Q) (fun L st S => V MX11_select h 196 L st S Q)) : V MX11_select h 193 L st S Q :=
  w_if_eq dX11_select_193 (by decide) rfl k
theorem b_X11_select_196 {h : Nat} {L : LVs} {st : List AV} {S : ST} {Q : Option AV → ST → Prop} (k : o_al L st S (fun L st S => o_dup L st S (fun L st S => o_get L st S (fun L st S => o_c L st S (fun L st S => o_iadd L st S (fun L st S => o_puti L st S (fun L st S => o_al L st S (fun L st S => o_c L st S (fun L st S => V MX11_select h 209 L st S Q) (nI 51)) 0) 11 5)) (nI 1)) 11 5 (0, 0, 0))) 0) : V MX11_select h 196 L st S Q :=
  v_aload_n dX11_select_196 rfl (fun L st S k => v_dup dX11_select_197 (fun L st S k => v_get dX11_select_198 rfl iX11 LY_11 rfl (by decide) rfl fl_X11_172 (fun L st S k => v_iconst dX11_select_201 (by decide) (fun L st S k => v_iadd dX11_select_202 (fun L st S k => v_puti dX11_select_203 rfl iX11 tyX11_ok nmX11 LY_11 rfl (by decide) rfl fl_X11_172 rfl rfl (fun L st S k => v_aload_n dX11_select_206 rfl (fun L st S k => v_bipush dX11_select_207 (by decide) (fun L st S k => k) k) k) k) k) k) k) k) k
theorem k_X11_select_209 {h : Nat} {L : LVs} {st : List AV} {S : ST} {Q Q' : Option AV → ST → Prop} {j : Nat} {a0 : AV} (hC : Ct MX11_take h [vR 11 j, a0] S Q') (k : ∀ (r : Option AV) (S' : ST), Q' r S' → V MX11_select (h + 1) 212 L (r.toList ++ st) S' Q) (hj : j < NI 11) (hw : wid st ≤ 8) : V MX11_select (h + 1) 209 L (a0 :: vR 11 j :: st) S Q :=
  v_callV (M' := MX11_take) (c := 11) (As := [a0]) dX11_select_209 ml_X11_181 im_X11_take se_X11_take in_X11 cd_X11_take rfl LY_11 np_X11_take (by decide) hw hj hC k
theorem b_X11_select_212 {h : Nat} {L : LVs} {st : List AV} {S : ST} {Q : Option AV → ST → Prop} (k : o_ls L st S (fun L st S => o_al L st S (fun L st S => o_c L st S (fun L st S => V MX11_select h 217 L st S Q) (nI 10)) 0) 6) : V MX11_select h 212 L st S Q :=
  v_lstore dX11_select_212 (by decide) (fun L st S k => v_aload_n dX11_select_214 rfl (fun L st S k => v_bipush dX11_select_215 (by decide) (fun L st S k => k) k) k) k
theorem k_X11_select_217 {h : Nat} {L : LVs} {st : List AV} {S : ST} {Q Q' : Option AV → ST → Prop} {j : Nat} {a0 : AV} (hC : Ct MX11_is h [vR 11 j, a0] S Q') (k : ∀ (r : Option AV) (S' : ST), Q' r S' → V MX11_select (h + 1) 220 L (r.toList ++ st) S' Q) (hj : j < NI 11) (hw : wid st ≤ 8) : V MX11_select (h + 1) 217 L (a0 :: vR 11 j :: st) S Q :=
  v_callV (M' := MX11_is) (c := 11) (As := [a0]) dX11_select_217 ml_X11_189 im_X11_is se_X11_is in_X11 cd_X11_is rfl LY_11 np_X11_is (by decide) hw hj hC k
theorem b_X11_select_220 {h : Nat} {L : LVs} {st : List AV} {S : ST} {Q : Option AV → ST → Prop} (k : o_is L st S (fun L st S => o_al L st S (fun L st S => o_dup L st S (fun L st S => o_get L st S (fun L st S => o_il L st S (fun L st S => t_1 L st S (fun x => x = nI 0) (fun L st S => V MX11_select h 236 L st S Q) (fun L st S => V MX11_select h 232 L st S Q)) 8) 11 5 (0, 0, 0))) 0) 8) : V MX11_select h 220 L st S Q :=
  v_istore dX11_select_220 (by decide) (fun L st S k => v_aload_n dX11_select_222 rfl (fun L st S k => v_dup dX11_select_223 (fun L st S k => v_get dX11_select_224 rfl iX11 LY_11 rfl (by decide) rfl fl_X11_172 (fun L st S k => v_iload dX11_select_227 (fun L st S k => w_if_eq dX11_select_229 (by decide) rfl k) k) k) k) k) k
theorem b_X11_select_232 {h : Nat} {L : LVs} {st : List AV} {S : ST} {Q : Option AV → ST → Prop} (k : o_c L st S (fun L st S => V MX11_select h 237 L st S Q) (nI 1)) : V MX11_select h 232 L st S Q :=
  v_iconst dX11_select_232 (by decide) (fun L st S k => v_goto dX11_select_233 (by decide) k) k
theorem b_X11_select_236 {h : Nat} {L : LVs} {st : List AV} {S : ST} {Q : Option AV → ST → Prop} (k : o_c L st S (fun L st S => V MX11_select h 237 L st S Q) (nI 0)) : V MX11_select h 236 L st S Q :=
  v_iconst dX11_select_236 (by decide) (fun L st S k => k) k
theorem b_X11_select_237 {h : Nat} {L : LVs} {st : List AV} {S : ST} {Q : Option AV → ST → Prop} (k : o_iadd L st S (fun L st S => o_puti L st S (fun L st S => V MX11_select h 241 L st S Q) 11 5)) : V MX11_select h 237 L st S Q :=
  v_iadd dX11_select_237 (fun L st S k => v_puti dX11_select_238 rfl iX11 tyX11_ok nmX11 LY_11 rfl (by decide) rfl fl_X11_172 rfl rfl (fun L st S k => k) k) k
theorem b_X11_select_241 {h : Nat} {L : LVs} {st : List AV} {S : ST} {Q : Option AV → ST → Prop} (k : o_al L st S (fun L st S => V MX11_select h 242 L st S Q) 0) : V MX11_select h 241 L st S Q :=
  v_aload_n dX11_select_241 rfl (fun L st S k => k) k
theorem k_X11_select_242 {h : Nat} {L : LVs} {st : List AV} {S : ST} {Q Q' : Option AV → ST → Prop} {j : Nat} (hC : Ct MX11_ends h [vR 11 j] S Q') (k : ∀ (r : Option AV) (S' : ST), Q' r S' → V MX11_select (h + 1) 245 L (r.toList ++ st) S' Q) (hj : j < NI 11) (hw : wid st ≤ 8) : V MX11_select (h + 1) 242 L (vR 11 j :: st) S Q :=
  v_callV (M' := MX11_ends) (c := 11) (As := []) dX11_select_242 ml_X11_255 im_X11_ends se_X11_ends in_X11 cd_X11_ends rfl LY_11 np_X11_ends (by decide) hw hj hC k
theorem b_X11_select_245 {h : Nat} {L : LVs} {st : List AV} {S : ST} {Q : Option AV → ST → Prop} (k : t_1 L st S (fun x => x = nI 0) (fun L st S => V MX11_select h 248 L st S Q) (fun L st S => V MX11_select h 250 L st S Q)) : V MX11_select h 245 L st S Q :=
  w_if_ne dX11_select_245 (by decide) rfl k
theorem b_X11_select_248 {h : Nat} {L : LVs} {st : List AV} {S : ST} {Q : Option AV → ST → Prop} (k : o_c L st S (fun L st S => t_ir st S Q) (nI 0)) : V MX11_select h 248 L st S Q :=
  v_iconst dX11_select_248 (by decide) (fun L st S k => w_ir dX11_select_249 rfl k) k
theorem b_X11_select_250 {h : Nat} {L : LVs} {st : List AV} {S : ST} {Q : Option AV → ST → Prop} (k : o_al L st S (fun L st S => V MX11_select h 251 L st S Q) 0) : V MX11_select h 250 L st S Q :=
  v_aload_n dX11_select_250 rfl (fun L st S k => k) k
theorem k_X11_select_251 {h : Nat} {L : LVs} {st : List AV} {S : ST} {Q Q' : Option AV → ST → Prop} {j : Nat} (hC : Ct MX11_lookForTables h [vR 11 j] S Q') (k : ∀ (r : Option AV) (S' : ST), Q' r S' → V MX11_select (h + 1) 254 L (r.toList ++ st) S' Q) (hj : j < NI 11) (hw : wid st ≤ 8) : V MX11_select (h + 1) 251 L (vR 11 j :: st) S Q :=
  v_callV (M' := MX11_lookForTables) (c := 11) (As := []) dX11_select_251 ml_X11_259 im_X11_lookForTables se_X11_lookForTables in_X11 cd_X11_lookForTables rfl LY_11 np_X11_lookForTables (by decide) hw hj hC k
theorem b_X11_select_254 {h : Nat} {L : LVs} {st : List AV} {S : ST} {Q : Option AV → ST → Prop} (k : o_c L st S (fun L st S => o_is L st S (fun L st S => V MX11_select h 257 L st S Q) 9) (nI 0)) : V MX11_select h 254 L st S Q :=
  v_iconst dX11_select_254 (by decide) (fun L st S k => v_istore dX11_select_255 (by decide) (fun L st S k => k) k) k
theorem b_X11_select_257 {h : Nat} {L : LVs} {st : List AV} {S : ST} {Q : Option AV → ST → Prop} (k : o_il L st S (fun L st S => o_al L st S (fun L st S => o_get L st S (fun L st S => t_2 L st S (fun x y => y ≤ x) (fun L st S => V MX11_select h 285 L st S Q) (fun L st S => V MX11_select h 266 L st S Q)) 11 40 (0, 0, 0)) 0) 9) : V MX11_select h 257 L st S Q :=
  v_iload dX11_select_257 (fun L st S k => v_aload_n dX11_select_259 rfl (fun L st S k => v_get dX11_select_260 rfl iX11 LY_11 rfl (by decide) rfl fl_X11_271 (fun L st S k => w_icmp_ge dX11_select_263 (by decide) rfl k) k) k) k
theorem b_X11_select_266 {h : Nat} {L : LVs} {st : List AV} {S : ST} {Q : Option AV → ST → Prop} (k : o_al L st S (fun L st S => o_al L st S (fun L st S => o_get L st S (fun L st S => o_il L st S (fun L st S => o_iald L st S (fun L st S => V MX11_select h 274 L st S Q)) 9) 11 39 (3, 66, 0)) 0) 0) : V MX11_select h 266 L st S Q :=
  v_aload_n dX11_select_266 rfl (fun L st S k => v_aload_n dX11_select_267 rfl (fun L st S k => v_get dX11_select_268 rfl iX11 LY_11 rfl (by decide) rfl fl_X11_90 (fun L st S k => v_iload dX11_select_271 (fun L st S k => v_iaload dX11_select_273 (fun L st S k => k) k) k) k) k) k
theorem k_X11_select_274 {h : Nat} {L : LVs} {st : List AV} {S : ST} {Q Q' : Option AV → ST → Prop} {j : Nat} {a0 : AV} (hC : Ct MX11_check h [vR 11 j, a0] S Q') (k : ∀ (r : Option AV) (S' : ST), Q' r S' → V MX11_select (h + 1) 277 L (r.toList ++ st) S' Q) (hj : j < NI 11) (hw : wid st ≤ 8) : V MX11_select (h + 1) 274 L (a0 :: vR 11 j :: st) S Q :=
  v_callV (M' := MX11_check) (c := 11) (As := [a0]) dX11_select_274 ml_X11_236 im_X11_check se_X11_check in_X11 cd_X11_check rfl LY_11 np_X11_check (by decide) hw hj hC k
theorem b_X11_select_277 {h : Nat} {L : LVs} {st : List AV} {S : ST} {Q : Option AV → ST → Prop} (k : o_is L st S (fun L st S => o_inc L st S (fun L st S => V MX11_select h 257 L st S Q) 9 (nI 1)) 10) : V MX11_select h 277 L st S Q :=
  v_istore dX11_select_277 (by decide) (fun L st S k => v_iinc dX11_select_279 (by decide) (by decide) (fun L st S k => v_goto dX11_select_282 (by decide) k) k) k
theorem b_X11_select_285 {h : Nat} {L : LVs} {st : List AV} {S : ST} {Q : Option AV → ST → Prop} (k : o_il L st S (fun L st S => t_1 L st S (fun x => x < nI 0) (fun L st S => V MX11_select h 298 L st S Q) (fun L st S => V MX11_select h 290 L st S Q)) 4) : V MX11_select h 285 L st S Q :=
  v_iload dX11_select_285 (fun L st S k => w_if_lt dX11_select_287 (by decide) rfl k) k
theorem b_X11_select_290 {h : Nat} {L : LVs} {st : List AV} {S : ST} {Q : Option AV → ST → Prop} (k : o_al L st S (fun L st S => o_il L st S (fun L st S => V MX11_select h 293 L st S Q) 4) 0) : V MX11_select h 290 L st S Q :=
  v_aload_n dX11_select_290 rfl (fun L st S k => v_iload dX11_select_291 (fun L st S k => k) k) k
theorem k_X11_select_293 {h : Nat} {L : LVs} {st : List AV} {S : ST} {Q Q' : Option AV → ST → Prop} {j : Nat} {a0 : AV} (hC : Ct MX11_check h [vR 11 j, a0] S Q') (k : ∀ (r : Option AV) (S' : ST), Q' r S' → V MX11_select (h + 1) 296 L (r.toList ++ st) S' Q) (hj : j < NI 11) (hw : wid st ≤ 8) : V MX11_select (h + 1) 293 L (a0 :: vR 11 j :: st) S Q :=
  v_callV (M' := MX11_check) (c := 11) (As := [a0]) dX11_select_293 ml_X11_236 im_X11_check se_X11_check in_X11 cd_X11_check rfl LY_11 np_X11_check (by decide) hw hj hC k
theorem b_X11_select_296 {h : Nat} {L : LVs} {st : List AV} {S : ST} {Q : Option AV → ST → Prop} (k : o_is L st S (fun L st S => V MX11_select h 298 L st S Q) 9) : V MX11_select h 296 L st S Q :=
  v_istore dX11_select_296 (by decide) (fun L st S k => k) k
theorem b_X11_select_298 {h : Nat} {L : LVs} {st : List AV} {S : ST} {Q : Option AV → ST → Prop} (k : o_il L st S (fun L st S => t_1 L st S (fun x => x < nI 0) (fun L st S => V MX11_select h 311 L st S Q) (fun L st S => V MX11_select h 303 L st S Q)) 5) : V MX11_select h 298 L st S Q :=
  v_iload dX11_select_298 (fun L st S k => w_if_lt dX11_select_300 (by decide) rfl k) k
theorem b_X11_select_303 {h : Nat} {L : LVs} {st : List AV} {S : ST} {Q : Option AV → ST → Prop} (k : o_al L st S (fun L st S => o_il L st S (fun L st S => V MX11_select h 306 L st S Q) 5) 0) : V MX11_select h 303 L st S Q :=
  v_aload_n dX11_select_303 rfl (fun L st S k => v_iload dX11_select_304 (fun L st S k => k) k) k
theorem k_X11_select_306 {h : Nat} {L : LVs} {st : List AV} {S : ST} {Q Q' : Option AV → ST → Prop} {j : Nat} {a0 : AV} (hC : Ct MX11_check h [vR 11 j, a0] S Q') (k : ∀ (r : Option AV) (S' : ST), Q' r S' → V MX11_select (h + 1) 309 L (r.toList ++ st) S' Q) (hj : j < NI 11) (hw : wid st ≤ 8) : V MX11_select (h + 1) 306 L (a0 :: vR 11 j :: st) S Q :=
  v_callV (M' := MX11_check) (c := 11) (As := [a0]) dX11_select_306 ml_X11_236 im_X11_check se_X11_check in_X11 cd_X11_check rfl LY_11 np_X11_check (by decide) hw hj hC k
theorem b_X11_select_309 {h : Nat} {L : LVs} {st : List AV} {S : ST} {Q : Option AV → ST → Prop} (k : o_is L st S (fun L st S => V MX11_select h 311 L st S Q) 9) : V MX11_select h 309 L st S Q :=
  v_istore dX11_select_309 (by decide) (fun L st S k => k) k
theorem b_X11_select_311 {h : Nat} {L : LVs} {st : List AV} {S : ST} {Q : Option AV → ST → Prop} (k : o_ll L st S (fun L st S => o_lc L st S (fun L st S => o_lcmp L st S (fun L st S => t_1 L st S (fun x => x < nI 0) (fun L st S => V MX11_select h 343 L st S Q) (fun L st S => V MX11_select h 318 L st S Q))) (lN 0)) 6) : V MX11_select h 311 L st S Q :=
  v_lload dX11_select_311 (fun L st S k => v_lconst dX11_select_313 (by decide) (fun L st S k => v_lcmp dX11_select_314 (fun L st S k => w_if_lt dX11_select_315 (by decide) rfl k) k) k) k
theorem b_X11_select_318 {h : Nat} {L : LVs} {st : List AV} {S : ST} {Q : Option AV → ST → Prop} (k : o_ll L st S (fun L st S => o_lc L st S (fun L st S => o_lcmp L st S (fun L st S => t_1 L st S (fun x => x < nI 0) (fun L st S => V MX11_select h 336 L st S Q) (fun L st S => V MX11_select h 325 L st S Q))) (lN 1)) 6) : V MX11_select h 318 L st S Q :=
  v_lload dX11_select_318 (fun L st S k => v_lconst dX11_select_320 (by decide) (fun L st S k => v_lcmp dX11_select_321 (fun L st S k => w_if_lt dX11_select_322 (by decide) rfl k) k) k) k
theorem b_X11_select_325 {h : Nat} {L : LVs} {st : List AV} {S : ST} {Q : Option AV → ST → Prop} (k : o_ll L st S (fun L st S => o_al L st S (fun L st S => o_get L st S (fun L st S => o_i2l L st S (fun L st S => o_lcmp L st S (fun L st S => t_1 L st S (fun x => x ≤ nI 0) (fun L st S => V MX11_select h 343 L st S Q) (fun L st S => V MX11_select h 336 L st S Q)))) 11 40 (0, 0, 0)) 0) 6) : V MX11_select h 325 L st S Q :=
  v_lload dX11_select_325 (fun L st S k => v_aload_n dX11_select_327 rfl (fun L st S k => v_get dX11_select_328 rfl iX11 LY_11 rfl (by decide) rfl fl_X11_271 (fun L st S k => v_i2l dX11_select_331 (fun L st S k => v_lcmp dX11_select_332 (fun L st S k => w_if_le dX11_select_333 (by decide) rfl k) k) k) k) k) k
theorem b_X11_select_336 {h : Nat} {L : LVs} {st : List AV} {S : ST} {Q : Option AV → ST → Prop} (k : o_al L st S (fun L st S => o_c L st S (fun L st S => V MX11_select h 340 L st S Q) (-1002)) 0) : V MX11_select h 336 L st S Q :=
  v_aload_n dX11_select_336 rfl (fun L st S k => v_sipush dX11_select_337 (by decide) (fun L st S k => k) k) k
theorem k_X11_select_340 {h : Nat} {L : LVs} {st : List AV} {S : ST} {Q Q' : Option AV → ST → Prop} {j : Nat} {a0 : AV} (hC : Ct MX11_fails h [vR 11 j, a0] S Q') (k : ∀ (r : Option AV) (S' : ST), Q' r S' → V MX11_select (h + 1) 343 L (r.toList ++ st) S' Q) (hj : j < NI 11) (hw : wid st ≤ 8) : V MX11_select (h + 1) 340 L (a0 :: vR 11 j :: st) S Q :=
  v_callV (M' := MX11_fails) (c := 11) (As := [a0]) dX11_select_340 ml_X11_229 im_X11_fails se_X11_fails in_X11 cd_X11_fails rfl LY_11 np_X11_fails (by decide) hw hj hC k
theorem b_X11_select_343 {h : Nat} {L : LVs} {st : List AV} {S : ST} {Q : Option AV → ST → Prop} (k : o_al L st S (fun L st S => o_get L st S (fun L st S => t_1 L st S (fun x => x = nI 0) (fun L st S => V MX11_select h 350 L st S Q) (fun L st S => V MX11_select h 356 L st S Q)) 11 28 (0, 0, 0)) 0) : V MX11_select h 343 L st S Q :=
  v_aload_n dX11_select_343 rfl (fun L st S k => v_get dX11_select_344 rfl iX11 LY_11 rfl (by decide) rfl fl_X11_219 (fun L st S k => w_if_ne dX11_select_347 (by decide) rfl k) k) k
theorem b_X11_select_350 {h : Nat} {L : LVs} {st : List AV} {S : ST} {Q : Option AV → ST → Prop} (k : o_al L st S (fun L st S => o_il L st S (fun L st S => V MX11_select h 353 L st S Q) 5) 0) : V MX11_select h 350 L st S Q :=
  v_aload_n dX11_select_350 rfl (fun L st S k => v_iload dX11_select_351 (fun L st S k => k) k) k
theorem k_X11_select_353 {h : Nat} {L : LVs} {st : List AV} {S : ST} {Q Q' : Option AV → ST → Prop} {j : Nat} {a0 : AV} (hC : Ct MX11_checkGroup h [vR 11 j, a0] S Q') (k : ∀ (r : Option AV) (S' : ST), Q' r S' → V MX11_select (h + 1) 356 L (r.toList ++ st) S' Q) (hj : j < NI 11) (hw : wid st ≤ 8) : V MX11_select (h + 1) 353 L (a0 :: vR 11 j :: st) S Q :=
  v_callV (M' := MX11_checkGroup) (c := 11) (As := [a0]) dX11_select_353 ml_X11_285 im_X11_checkGroup se_X11_checkGroup in_X11 cd_X11_checkGroup rfl LY_11 np_X11_checkGroup (by decide) hw hj hC k
theorem b_X11_select_356 {h : Nat} {L : LVs} {st : List AV} {S : ST} {Q : Option AV → ST → Prop} (k : o_c L st S (fun L st S => o_is L st S (fun L st S => V MX11_select h 359 L st S Q) 9) (nI 0)) : V MX11_select h 356 L st S Q :=
  v_iconst dX11_select_356 (by decide) (fun L st S k => v_istore dX11_select_357 (by decide) (fun L st S k => k) k) k
theorem b_X11_select_359 {h : Nat} {L : LVs} {st : List AV} {S : ST} {Q : Option AV → ST → Prop} (k : o_il L st S (fun L st S => o_al L st S (fun L st S => o_get L st S (fun L st S => t_2 L st S (fun x y => y ≤ x) (fun L st S => V MX11_select h 385 L st S Q) (fun L st S => V MX11_select h 368 L st S Q)) 11 40 (0, 0, 0)) 0) 9) : V MX11_select h 359 L st S Q :=
  v_iload dX11_select_359 (fun L st S k => v_aload_n dX11_select_361 rfl (fun L st S k => v_get dX11_select_362 rfl iX11 LY_11 rfl (by decide) rfl fl_X11_271 (fun L st S k => w_icmp_ge dX11_select_365 (by decide) rfl k) k) k) k
theorem b_X11_select_368 {h : Nat} {L : LVs} {st : List AV} {S : ST} {Q : Option AV → ST → Prop} (k : o_al L st S (fun L st S => o_al L st S (fun L st S => o_get L st S (fun L st S => o_il L st S (fun L st S => o_iald L st S (fun L st S => V MX11_select h 376 L st S Q)) 9) 11 39 (3, 66, 0)) 0) 0) : V MX11_select h 368 L st S Q :=
  v_aload_n dX11_select_368 rfl (fun L st S k => v_aload_n dX11_select_369 rfl (fun L st S k => v_get dX11_select_370 rfl iX11 LY_11 rfl (by decide) rfl fl_X11_90 (fun L st S k => v_iload dX11_select_373 (fun L st S k => v_iaload dX11_select_375 (fun L st S k => k) k) k) k) k) k
theorem k_X11_select_376 {h : Nat} {L : LVs} {st : List AV} {S : ST} {Q Q' : Option AV → ST → Prop} {j : Nat} {a0 : AV} (hC : Ct MX11_checkDeep h [vR 11 j, a0] S Q') (k : ∀ (r : Option AV) (S' : ST), Q' r S' → V MX11_select (h + 1) 379 L (r.toList ++ st) S' Q) (hj : j < NI 11) (hw : wid st ≤ 8) : V MX11_select (h + 1) 376 L (a0 :: vR 11 j :: st) S Q :=
  v_callV (M' := MX11_checkDeep) (c := 11) (As := [a0]) dX11_select_376 ml_X11_265 im_X11_checkDeep se_X11_checkDeep in_X11 cd_X11_checkDeep rfl LY_11 np_X11_checkDeep (by decide) hw hj hC k
theorem b_X11_select_379 {h : Nat} {L : LVs} {st : List AV} {S : ST} {Q : Option AV → ST → Prop} (k : o_inc L st S (fun L st S => V MX11_select h 359 L st S Q) 9 (nI 1)) : V MX11_select h 379 L st S Q :=
  v_iinc dX11_select_379 (by decide) (by decide) (fun L st S k => v_goto dX11_select_382 (by decide) k) k
theorem b_X11_select_385 {h : Nat} {L : LVs} {st : List AV} {S : ST} {Q : Option AV → ST → Prop} (k : o_al L st S (fun L st S => o_il L st S (fun L st S => V MX11_select h 388 L st S Q) 4) 0) : V MX11_select h 385 L st S Q :=
  v_aload_n dX11_select_385 rfl (fun L st S k => v_iload dX11_select_386 (fun L st S k => k) k) k
theorem k_X11_select_388 {h : Nat} {L : LVs} {st : List AV} {S : ST} {Q Q' : Option AV → ST → Prop} {j : Nat} {a0 : AV} (hC : Ct MX11_checkDeep h [vR 11 j, a0] S Q') (k : ∀ (r : Option AV) (S' : ST), Q' r S' → V MX11_select (h + 1) 391 L (r.toList ++ st) S' Q) (hj : j < NI 11) (hw : wid st ≤ 8) : V MX11_select (h + 1) 388 L (a0 :: vR 11 j :: st) S Q :=
  v_callV (M' := MX11_checkDeep) (c := 11) (As := [a0]) dX11_select_388 ml_X11_265 im_X11_checkDeep se_X11_checkDeep in_X11 cd_X11_checkDeep rfl LY_11 np_X11_checkDeep (by decide) hw hj hC k
theorem b_X11_select_391 {h : Nat} {L : LVs} {st : List AV} {S : ST} {Q : Option AV → ST → Prop} (k : o_al L st S (fun L st S => o_get L st S (fun L st S => t_1 L st S (fun x => x = nI 0) (fun L st S => V MX11_select h 400 L st S Q) (fun L st S => V MX11_select h 398 L st S Q)) 11 28 (0, 0, 0)) 0) : V MX11_select h 391 L st S Q :=
  v_aload_n dX11_select_391 rfl (fun L st S k => v_get dX11_select_392 rfl iX11 LY_11 rfl (by decide) rfl fl_X11_219 (fun L st S k => w_if_eq dX11_select_395 (by decide) rfl k) k) k
theorem b_X11_select_398 {h : Nat} {L : LVs} {st : List AV} {S : ST} {Q : Option AV → ST → Prop} (k : o_c L st S (fun L st S => t_ir st S Q) (nI 0)) : V MX11_select h 398 L st S Q :=
  v_iconst dX11_select_398 (by decide) (fun L st S k => w_ir dX11_select_399 rfl k) k
theorem b_X11_select_400 {h : Nat} {L : LVs} {st : List AV} {S : ST} {Q : Option AV → ST → Prop} (k : o_al L st S (fun L st S => o_il L st S (fun L st S => o_il L st S (fun L st S => V MX11_select h 405 L st S Q) 5) 4) 0) : V MX11_select h 400 L st S Q :=
  v_aload_n dX11_select_400 rfl (fun L st S k => v_iload dX11_select_401 (fun L st S k => v_iload dX11_select_403 (fun L st S k => k) k) k) k
theorem k_X11_select_405 {h : Nat} {L : LVs} {st : List AV} {S : ST} {Q Q' : Option AV → ST → Prop} {j : Nat} {a0 a1 : AV} (hC : Ct MX11_gather h [vR 11 j, a0, a1] S Q') (k : ∀ (r : Option AV) (S' : ST), Q' r S' → V MX11_select (h + 1) 408 L (r.toList ++ st) S' Q) (hj : j < NI 11) (hw : wid st ≤ 8) : V MX11_select (h + 1) 405 L (a1 :: a0 :: vR 11 j :: st) S Q :=
  v_callV (M' := MX11_gather) (c := 11) (As := [a0, a1]) dX11_select_405 ml_X11_288 im_X11_gather se_X11_gather in_X11 cd_X11_gather rfl LY_11 np_X11_gather (by decide) hw hj hC k
theorem b_X11_select_408 {h : Nat} {L : LVs} {st : List AV} {S : ST} {Q : Option AV → ST → Prop} (k : o_al L st S (fun L st S => V MX11_select h 409 L st S Q) 0) : V MX11_select h 408 L st S Q :=
  v_aload_n dX11_select_408 rfl (fun L st S k => k) k
theorem k_X11_select_409 {h : Nat} {L : LVs} {st : List AV} {S : ST} {Q Q' : Option AV → ST → Prop} {j : Nat} (hC : Ct MX11_finish h [vR 11 j] S Q') (k : ∀ (r : Option AV) (S' : ST), Q' r S' → V MX11_select (h + 1) 412 L (r.toList ++ st) S' Q) (hj : j < NI 11) (hw : wid st ≤ 8) : V MX11_select (h + 1) 409 L (vR 11 j :: st) S Q :=
  v_callV (M' := MX11_finish) (c := 11) (As := []) dX11_select_409 ml_X11_292 im_X11_finish se_X11_finish in_X11 cd_X11_finish rfl LY_11 np_X11_finish (by decide) hw hj hC k
theorem b_X11_select_412 {h : Nat} {L : LVs} {st : List AV} {S : ST} {Q : Option AV → ST → Prop} (k : o_c L st S (fun L st S => o_is L st S (fun L st S => V MX11_select h 415 L st S Q) 9) (nI 1)) : V MX11_select h 412 L st S Q :=
  v_iconst dX11_select_412 (by decide) (fun L st S k => v_istore dX11_select_413 (by decide) (fun L st S k => k) k) k
theorem b_X11_select_415 {h : Nat} {L : LVs} {st : List AV} {S : ST} {Q : Option AV → ST → Prop} (k : o_ll L st S (fun L st S => o_lc L st S (fun L st S => o_lcmp L st S (fun L st S => t_1 L st S (fun x => x < nI 0) (fun L st S => V MX11_select h 485 L st S Q) (fun L st S => V MX11_select h 422 L st S Q))) (lN 0)) 6) : V MX11_select h 415 L st S Q :=
  v_lload dX11_select_415 (fun L st S k => v_lconst dX11_select_417 (by decide) (fun L st S k => v_lcmp dX11_select_418 (fun L st S k => w_if_lt dX11_select_419 (by decide) rfl k) k) k) k
theorem b_X11_select_422 {h : Nat} {L : LVs} {st : List AV} {S : ST} {Q : Option AV → ST → Prop} (k : o_il L st S (fun L st S => o_al L st S (fun L st S => o_get L st S (fun L st S => t_2 L st S (fun x y => y ≤ x) (fun L st S => V MX11_select h 485 L st S Q) (fun L st S => V MX11_select h 431 L st S Q)) 11 34 (0, 0, 0)) 0) 9) : V MX11_select h 422 L st S Q :=
  v_iload dX11_select_422 (fun L st S k => v_aload_n dX11_select_424 rfl (fun L st S k => v_get dX11_select_425 rfl iX11 LY_11 rfl (by decide) rfl fl_X11_277 (fun L st S k => w_icmp_ge dX11_select_428 (by decide) rfl k) k) k) k
theorem b_X11_select_431 {h : Nat} {L : LVs} {st : List AV} {S : ST} {Q : Option AV → ST → Prop} (k : o_al L st S (fun L st S => o_get L st S (fun L st S => t_1 L st S (fun x => x = nI 0) (fun L st S => V MX11_select h 438 L st S Q) (fun L st S => V MX11_select h 485 L st S Q)) 11 28 (0, 0, 0)) 0) : V MX11_select h 431 L st S Q :=
  v_aload_n dX11_select_431 rfl (fun L st S k => v_get dX11_select_432 rfl iX11 LY_11 rfl (by decide) rfl fl_X11_219 (fun L st S k => w_if_ne dX11_select_435 (by decide) rfl k) k) k
theorem b_X11_select_438 {h : Nat} {L : LVs} {st : List AV} {S : ST} {Q : Option AV → ST → Prop} (k : o_il L st S (fun L st S => o_is L st S (fun L st S => V MX11_select h 442 L st S Q) 10) 9) : V MX11_select h 438 L st S Q :=
  v_iload dX11_select_438 (fun L st S k => v_istore dX11_select_440 (by decide) (fun L st S k => k) k) k
theorem b_X11_select_442 {h : Nat} {L : LVs} {st : List AV} {S : ST} {Q : Option AV → ST → Prop} (k : o_il L st S (fun L st S => t_1 L st S (fun x => x ≤ nI 0) (fun L st S => V MX11_select h 479 L st S Q) (fun L st S => V MX11_select h 447 L st S Q)) 10) : V MX11_select h 442 L st S Q :=
  v_iload dX11_select_442 (fun L st S k => w_if_le dX11_select_444 (by decide) rfl k) k
theorem b_X11_select_447 {h : Nat} {L : LVs} {st : List AV} {S : ST} {Q : Option AV → ST → Prop} (k : o_al L st S (fun L st S => o_il L st S (fun L st S => o_il L st S (fun L st S => o_c L st S (fun L st S => o_isub L st S (fun L st S => o_ll L st S (fun L st S => o_l2i L st S (fun L st S => o_c L st S (fun L st S => o_isub L st S (fun L st S => o_il L st S (fun L st S => V MX11_select h 461 L st S Q) 8)) (nI 1))) 6)) (nI 1)) 10) 10) 0) : V MX11_select h 447 L st S Q :=
  v_aload_n dX11_select_447 rfl (fun L st S k => v_iload dX11_select_448 (fun L st S k => v_iload dX11_select_450 (fun L st S k => v_iconst dX11_select_452 (by decide) (fun L st S k => v_isub dX11_select_453 (fun L st S k => v_lload dX11_select_454 (fun L st S k => v_l2i dX11_select_456 (fun L st S k => v_iconst dX11_select_457 (by decide) (fun L st S k => v_isub dX11_select_458 (fun L st S k => v_iload dX11_select_459 (fun L st S k => k) k) k) k) k) k) k) k) k) k) k
theorem k_X11_select_461 {h : Nat} {L : LVs} {st : List AV} {S : ST} {Q Q' : Option AV → ST → Prop} {j : Nat} {a0 a1 a2 a3 : AV} (hC : Ct MX11_goesBefore h [vR 11 j, a0, a1, a2, a3] S Q') (k : ∀ (r : Option AV) (S' : ST), Q' r S' → V MX11_select (h + 1) 464 L (r.toList ++ st) S' Q) (hj : j < NI 11) (hw : wid st ≤ 8) : V MX11_select (h + 1) 461 L (a3 :: a2 :: a1 :: a0 :: vR 11 j :: st) S Q :=
  v_callV (M' := MX11_goesBefore) (c := 11) (As := [a0, a1, a2, a3]) dX11_select_461 ml_X11_295 im_X11_goesBefore se_X11_goesBefore in_X11 cd_X11_goesBefore rfl LY_11 np_X11_goesBefore (by decide) hw hj hC k
theorem b_X11_select_464 {h : Nat} {L : LVs} {st : List AV} {S : ST} {Q : Option AV → ST → Prop} (k : t_1 L st S (fun x => x = nI 0) (fun L st S => V MX11_select h 479 L st S Q) (fun L st S => V MX11_select h 467 L st S Q)) : V MX11_select h 464 L st S Q :=
  w_if_eq dX11_select_464 (by decide) rfl k
theorem b_X11_select_467 {h : Nat} {L : LVs} {st : List AV} {S : ST} {Q : Option AV → ST → Prop} (k : o_al L st S (fun L st S => o_il L st S (fun L st S => V MX11_select h 470 L st S Q) 10) 0) : V MX11_select h 467 L st S Q :=
  v_aload_n dX11_select_467 rfl (fun L st S k => v_iload dX11_select_468 (fun L st S k => k) k) k
theorem k_X11_select_470 {h : Nat} {L : LVs} {st : List AV} {S : ST} {Q Q' : Option AV → ST → Prop} {j : Nat} {a0 : AV} (hC : Ct MX11_swap h [vR 11 j, a0] S Q') (k : ∀ (r : Option AV) (S' : ST), Q' r S' → V MX11_select (h + 1) 473 L (r.toList ++ st) S' Q) (hj : j < NI 11) (hw : wid st ≤ 8) : V MX11_select (h + 1) 470 L (a0 :: vR 11 j :: st) S Q :=
  v_callV (M' := MX11_swap) (c := 11) (As := [a0]) dX11_select_470 ml_X11_299 im_X11_swap se_X11_swap in_X11 cd_X11_swap rfl LY_11 np_X11_swap (by decide) hw hj hC k
theorem b_X11_select_473 {h : Nat} {L : LVs} {st : List AV} {S : ST} {Q : Option AV → ST → Prop} (k : o_inc L st S (fun L st S => V MX11_select h 442 L st S Q) 10 (-1)) : V MX11_select h 473 L st S Q :=
  v_iinc dX11_select_473 (by decide) (by decide) (fun L st S k => v_goto dX11_select_476 (by decide) k) k
theorem b_X11_select_479 {h : Nat} {L : LVs} {st : List AV} {S : ST} {Q : Option AV → ST → Prop} (k : o_inc L st S (fun L st S => V MX11_select h 415 L st S Q) 9 (nI 1)) : V MX11_select h 479 L st S Q :=
  v_iinc dX11_select_479 (by decide) (by decide) (fun L st S k => v_goto dX11_select_482 (by decide) k) k
theorem b_X11_select_485 {h : Nat} {L : LVs} {st : List AV} {S : ST} {Q : Option AV → ST → Prop} (k : o_al L st S (fun L st S => o_get L st S (fun L st S => t_1 L st S (fun x => x = nI 0) (fun L st S => V MX11_select h 492 L st S Q) (fun L st S => V MX11_select h 570 L st S Q)) 11 28 (0, 0, 0)) 0) : V MX11_select h 485 L st S Q :=
  v_aload_n dX11_select_485 rfl (fun L st S k => v_get dX11_select_486 rfl iX11 LY_11 rfl (by decide) rfl fl_X11_219 (fun L st S k => w_if_ne dX11_select_489 (by decide) rfl k) k) k
theorem b_X11_select_492 {h : Nat} {L : LVs} {st : List AV} {S : ST} {Q : Option AV → ST → Prop} (k : o_al L st S (fun L st S => o_al L st S (fun L st S => o_get L st S (fun L st S => o_puti L st S (fun L st S => o_al L st S (fun L st S => o_al L st S (fun L st S => o_get L st S (fun L st S => o_puti L st S (fun L st S => o_c L st S (fun L st S => o_is L st S (fun L st S => V MX11_select h 511 L st S Q) 9) (nI 0)) 11 31) 11 40 (0, 0, 0)) 0) 0) 11 30) 11 34 (0, 0, 0)) 0) 0) : V MX11_select h 492 L st S Q :=
  v_aload_n dX11_select_492 rfl (fun L st S k => v_aload_n dX11_select_493 rfl (fun L st S k => v_get dX11_select_494 rfl iX11 LY_11 rfl (by decide) rfl fl_X11_277 (fun L st S k => v_puti dX11_select_497 rfl iX11 tyX11_ok nmX11 LY_11 rfl (by decide) rfl fl_X11_302 rfl rfl (fun L st S k => v_aload_n dX11_select_500 rfl (fun L st S k => v_aload_n dX11_select_501 rfl (fun L st S k => v_get dX11_select_502 rfl iX11 LY_11 rfl (by decide) rfl fl_X11_271 (fun L st S k => v_puti dX11_select_505 rfl iX11 tyX11_ok nmX11 LY_11 rfl (by decide) rfl fl_X11_305 rfl rfl (fun L st S k => v_iconst dX11_select_508 (by decide) (fun L st S k => v_istore dX11_select_509 (by decide) (fun L st S k => k) k) k) k) k) k) k) k) k) k) k
theorem b_X11_select_511 {h : Nat} {L : LVs} {st : List AV} {S : ST} {Q : Option AV → ST → Prop} (k : o_il L st S (fun L st S => o_c L st S (fun L st S => o_al L st S (fun L st S => o_get L st S (fun L st S => o_imul L st S (fun L st S => t_2 L st S (fun x y => y ≤ x) (fun L st S => V MX11_select h 570 L st S Q) (fun L st S => V MX11_select h 522 L st S Q))) 11 34 (0, 0, 0)) 0) (nI 4)) 9) : V MX11_select h 511 L st S Q :=
  v_iload dX11_select_511 (fun L st S k => v_iconst dX11_select_513 (by decide) (fun L st S k => v_aload_n dX11_select_514 rfl (fun L st S k => v_get dX11_select_515 rfl iX11 LY_11 rfl (by decide) rfl fl_X11_277 (fun L st S k => v_imul dX11_select_518 (fun L st S k => w_icmp_ge dX11_select_519 (by decide) rfl k) k) k) k) k) k
theorem b_X11_select_522 {h : Nat} {L : LVs} {st : List AV} {S : ST} {Q : Option AV → ST → Prop} (k : o_al L st S (fun L st S => o_get L st S (fun L st S => o_il L st S (fun L st S => o_al L st S (fun L st S => o_get L st S (fun L st S => o_il L st S (fun L st S => o_zald L st S (fun L st S => t_1 L st S (fun x => x = nI 0) (fun L st S => V MX11_select h 542 L st S Q) (fun L st S => V MX11_select h 538 L st S Q))) 9) 11 36 (3, 63, 0)) 0) 9) 11 32 (3, 60, 0)) 0) : V MX11_select h 522 L st S Q :=
  v_aload_n dX11_select_522 rfl (fun L st S k => v_get dX11_select_523 rfl iX11 LY_11 rfl (by decide) rfl fl_X11_72 (fun L st S k => v_iload dX11_select_526 (fun L st S k => v_aload_n dX11_select_528 rfl (fun L st S k => v_get dX11_select_529 rfl iX11 LY_11 rfl (by decide) rfl fl_X11_81 (fun L st S k => v_iload dX11_select_532 (fun L st S k => v_zaload dX11_select_534 (fun L st S k => w_if_eq dX11_select_535 (by decide) rfl k) k) k) k) k) k) k) k
theorem b_X11_select_538 {h : Nat} {L : LVs} {st : List AV} {S : ST} {Q : Option AV → ST → Prop} (k : o_c L st S (fun L st S => V MX11_select h 549 L st S Q) (nI 0)) : V MX11_select h 538 L st S Q :=
  v_iconst dX11_select_538 (by decide) (fun L st S k => v_goto dX11_select_539 (by decide) k) k
theorem b_X11_select_542 {h : Nat} {L : LVs} {st : List AV} {S : ST} {Q : Option AV → ST → Prop} (k : o_al L st S (fun L st S => o_get L st S (fun L st S => o_il L st S (fun L st S => o_iald L st S (fun L st S => V MX11_select h 549 L st S Q)) 9) 11 35 (3, 62, 0)) 0) : V MX11_select h 542 L st S Q :=
  v_aload_n dX11_select_542 rfl (fun L st S k => v_get dX11_select_543 rfl iX11 LY_11 rfl (by decide) rfl fl_X11_78 (fun L st S k => v_iload dX11_select_546 (fun L st S k => v_iaload dX11_select_548 (fun L st S k => k) k) k) k) k
theorem b_X11_select_549 {h : Nat} {L : LVs} {st : List AV} {S : ST} {Q : Option AV → ST → Prop} (k : o_iast L st S (fun L st S => o_al L st S (fun L st S => o_get L st S (fun L st S => o_il L st S (fun L st S => o_al L st S (fun L st S => o_get L st S (fun L st S => o_il L st S (fun L st S => o_zald L st S (fun L st S => o_zast L st S (fun L st S => o_inc L st S (fun L st S => V MX11_select h 511 L st S Q) 9 (nI 1)))) 9) 11 36 (3, 63, 0)) 0) 9) 11 33 (3, 61, 0)) 0)) : V MX11_select h 549 L st S Q :=
  v_iastore dX11_select_549 (fun L st S k => v_aload_n dX11_select_550 rfl (fun L st S k => v_get dX11_select_551 rfl iX11 LY_11 rfl (by decide) rfl fl_X11_75 (fun L st S k => v_iload dX11_select_554 (fun L st S k => v_aload_n dX11_select_556 rfl (fun L st S k => v_get dX11_select_557 rfl iX11 LY_11 rfl (by decide) rfl fl_X11_81 (fun L st S k => v_iload dX11_select_560 (fun L st S k => v_zaload dX11_select_562 (fun L st S k => v_zastore dX11_select_563 (fun L st S k => v_iinc dX11_select_564 (by decide) (by decide) (fun L st S k => v_goto dX11_select_567 (by decide) k) k) k) k) k) k) k) k) k) k) k
theorem b_X11_select_570 {h : Nat} {L : LVs} {st : List AV} {S : ST} {Q : Option AV → ST → Prop} (k : o_al L st S (fun L st S => o_get L st S (fun L st S => t_ir st S Q) 11 34 (0, 0, 0)) 0) : V MX11_select h 570 L st S Q :=
  v_aload_n dX11_select_570 rfl (fun L st S k => v_get dX11_select_571 rfl iX11 LY_11 rfl (by decide) rfl fl_X11_277 (fun L st S k => w_ir dX11_select_574 rfl k) k) k
-- QueryForgeModel.gather(II)V
theorem dX11_gather_0 : decode cX11_gather 0 = .ok (.iload_n 2, 1) := by decide +kernel
theorem dX11_gather_1 : decode cX11_gather 1 = .ok (.ifCond .ge 24, 3) := by decide +kernel
theorem dX11_gather_4 : decode cX11_gather 4 = .ok (.aload_n 0, 1) := by decide +kernel
theorem dX11_gather_5 : decode cX11_gather 5 = .ok (.getfield 20, 3) := by decide +kernel
theorem dX11_gather_8 : decode cX11_gather 8 = .ok (.aload_n 0, 1) := by decide +kernel
theorem dX11_gather_9 : decode cX11_gather 9 = .ok (.getfield 90, 3) := by decide +kernel
theorem dX11_gather_12 : decode cX11_gather 12 = .ok (.iconst 0, 1) := by decide +kernel
theorem dX11_gather_13 : decode cX11_gather 13 = .ok (.iaload, 1) := by decide +kernel
theorem dX11_gather_14 : decode cX11_gather 14 = .ok (.iaload, 1) := by decide +kernel
theorem dX11_gather_15 : decode cX11_gather 15 = .ok (.invokestatic 274, 3) := by decide +kernel
theorem dX11_gather_18 : decode cX11_gather 18 = .ok (.ifCond .eq 7, 3) := by decide +kernel
theorem dX11_gather_21 : decode cX11_gather 21 = .ok (.iconst 1, 1) := by decide +kernel
theorem dX11_gather_22 : decode cX11_gather 22 = .ok (.goto 4, 3) := by decide +kernel
theorem dX11_gather_25 : decode cX11_gather 25 = .ok (.iconst 0, 1) := by decide +kernel
theorem dX11_gather_26 : decode cX11_gather 26 = .ok (.istore_n 3, 1) := by decide +kernel
theorem dX11_gather_27 : decode cX11_gather 27 = .ok (.aload_n 0, 1) := by decide +kernel
theorem dX11_gather_28 : decode cX11_gather 28 = .ok (.iconst 0, 1) := by decide +kernel
theorem dX11_gather_29 : decode cX11_gather 29 = .ok (.putfield 277, 3) := by decide +kernel
theorem dX11_gather_32 : decode cX11_gather 32 = .ok (.iload_n 3, 1) := by decide +kernel
theorem dX11_gather_33 : decode cX11_gather 33 = .ok (.ifCond .eq 13, 3) := by decide +kernel
theorem dX11_gather_36 : decode cX11_gather 36 = .ok (.aload_n 0, 1) := by decide +kernel
theorem dX11_gather_37 : decode cX11_gather 37 = .ok (.iconst 1, 1) := by decide +kernel
theorem dX11_gather_38 : decode cX11_gather 38 = .ok (.putfield 277, 3) := by decide +kernel
theorem dX11_gather_41 : decode cX11_gather 41 = .ok (.aload_n 0, 1) := by decide +kernel
theorem dX11_gather_42 : decode cX11_gather 42 = .ok (.iconst 0, 1) := by decide +kernel
theorem dX11_gather_43 : decode cX11_gather 43 = .ok (.invokevirtual 308, 3) := by decide +kernel
theorem dX11_gather_46 : decode cX11_gather 46 = .ok (.aload_n 0, 1) := by decide +kernel
theorem dX11_gather_47 : decode cX11_gather 47 = .ok (.getfield 222, 3) := by decide +kernel
theorem dX11_gather_50 : decode cX11_gather 50 = .ok (.iconst 2, 1) := by decide +kernel
theorem dX11_gather_51 : decode cX11_gather 51 = .ok (.if_icmp .ne 17, 3) := by decide +kernel
theorem dX11_gather_54 : decode cX11_gather 54 = .ok (.aload_n 0, 1) := by decide +kernel
theorem dX11_gather_55 : decode cX11_gather 55 = .ok (.getfield 54, 3) := by decide +kernel
theorem dX11_gather_58 : decode cX11_gather 58 = .ok (.aload_n 0, 1) := by decide +kernel
theorem dX11_gather_59 : decode cX11_gather 59 = .ok (.getfield 66, 3) := by decide +kernel
theorem dX11_gather_62 : decode cX11_gather 62 = .ok (.iconst 1, 1) := by decide +kernel
theorem dX11_gather_63 : decode cX11_gather 63 = .ok (.iaload, 1) := by decide +kernel
theorem dX11_gather_64 : decode cX11_gather 64 = .ok (.iaload, 1) := by decide +kernel
theorem dX11_gather_65 : decode cX11_gather 65 = .ok (.goto 4, 3) := by decide +kernel
theorem dX11_gather_68 : decode cX11_gather 68 = .ok (.iconst 1, 1) := by decide +kernel
theorem dX11_gather_69 : decode cX11_gather 69 = .ok (.istore 4, 2) := by decide +kernel
theorem dX11_gather_71 : decode cX11_gather 71 = .ok (.iconst 0, 1) := by decide +kernel
theorem dX11_gather_72 : decode cX11_gather 72 = .ok (.istore 5, 2) := by decide +kernel
theorem dX11_gather_74 : decode cX11_gather 74 = .ok (.iload 5, 2) := by decide +kernel
theorem dX11_gather_76 : decode cX11_gather 76 = .ok (.aload_n 0, 1) := by decide +kernel
theorem dX11_gather_77 : decode cX11_gather 77 = .ok (.getfield 54, 3) := by decide +kernel
theorem dX11_gather_80 : decode cX11_gather 80 = .ok (.aload_n 0, 1) := by decide +kernel
theorem dX11_gather_81 : decode cX11_gather 81 = .ok (.getfield 66, 3) := by decide +kernel
theorem dX11_gather_84 : decode cX11_gather 84 = .ok (.iconst 0, 1) := by decide +kernel
theorem dX11_gather_85 : decode cX11_gather 85 = .ok (.iaload, 1) := by decide +kernel
theorem dX11_gather_86 : decode cX11_gather 86 = .ok (.iaload, 1) := by decide +kernel
theorem dX11_gather_87 : decode cX11_gather 87 = .ok (.if_icmp .ge 186, 3) := by decide +kernel
theorem dX11_gather_90 : decode cX11_gather 90 = .ok (.iconst 0, 1) := by decide +kernel
theorem dX11_gather_91 : decode cX11_gather 91 = .ok (.istore 6, 2) := by decide +kernel
theorem dX11_gather_93 : decode cX11_gather 93 = .ok (.iload 6, 2) := by decide +kernel
theorem dX11_gather_95 : decode cX11_gather 95 = .ok (.iload 4, 2) := by decide +kernel
theorem dX11_gather_97 : decode cX11_gather 97 = .ok (.if_icmp .ge 170, 3) := by decide +kernel
theorem dX11_gather_100 : decode cX11_gather 100 = .ok (.aload_n 0, 1) := by decide +kernel
theorem dX11_gather_101 : decode cX11_gather 101 = .ok (.getfield 219, 3) := by decide +kernel
theorem dX11_gather_104 : decode cX11_gather 104 = .ok (.ifCond .ne 163, 3) := by decide +kernel
theorem dX11_gather_107 : decode cX11_gather 107 = .ok (.aload_n 0, 1) := by decide +kernel
theorem dX11_gather_108 : decode cX11_gather 108 = .ok (.getfield 69, 3) := by decide +kernel
theorem dX11_gather_111 : decode cX11_gather 111 = .ok (.iconst 0, 1) := by decide +kernel
theorem dX11_gather_112 : decode cX11_gather 112 = .ok (.iload 5, 2) := by decide +kernel
theorem dX11_gather_114 : decode cX11_gather 114 = .ok (.iastore, 1) := by decide +kernel
theorem dX11_gather_115 : decode cX11_gather 115 = .ok (.aload_n 0, 1) := by decide +kernel
theorem dX11_gather_116 : decode cX11_gather 116 = .ok (.getfield 69, 3) := by decide +kernel
theorem dX11_gather_119 : decode cX11_gather 119 = .ok (.iconst 1, 1) := by decide +kernel
theorem dX11_gather_120 : decode cX11_gather 120 = .ok (.iload 6, 2) := by decide +kernel
theorem dX11_gather_122 : decode cX11_gather 122 = .ok (.iastore, 1) := by decide +kernel
theorem dX11_gather_123 : decode cX11_gather 123 = .ok (.aload_n 0, 1) := by decide +kernel
theorem dX11_gather_124 : decode cX11_gather 124 = .ok (.iload_n 1, 1) := by decide +kernel
theorem dX11_gather_125 : decode cX11_gather 125 = .ok (.invokevirtual 268, 3) := by decide +kernel
theorem dX11_gather_128 : decode cX11_gather 128 = .ok (.ifCond .eq 133, 3) := by decide +kernel
theorem dX11_gather_131 : decode cX11_gather 131 = .ok (.aload_n 0, 1) := by decide +kernel
theorem dX11_gather_132 : decode cX11_gather 132 = .ok (.getfield 219, 3) := by decide +kernel
theorem dX11_gather_135 : decode cX11_gather 135 = .ok (.ifCond .ne 126, 3) := by decide +kernel
theorem dX11_gather_138 : decode cX11_gather 138 = .ok (.aload_n 0, 1) := by decide +kernel
theorem dX11_gather_139 : decode cX11_gather 139 = .ok (.getfield 277, 3) := by decide +kernel
theorem dX11_gather_142 : decode cX11_gather 142 = .ok (.istore 7, 2) := by decide +kernel
theorem dX11_gather_144 : decode cX11_gather 144 = .ok (.aload_n 0, 1) := by decide +kernel
theorem dX11_gather_145 : decode cX11_gather 145 = .ok (.iload_n 2, 1) := by decide +kernel
theorem dX11_gather_146 : decode cX11_gather 146 = .ok (.iload_n 3, 1) := by decide +kernel
theorem dX11_gather_147 : decode cX11_gather 147 = .ok (.invokevirtual 311, 3) := by decide +kernel
theorem dX11_gather_150 : decode cX11_gather 150 = .ok (.istore 8, 2) := by decide +kernel
theorem dX11_gather_152 : decode cX11_gather 152 = .ok (.aload_n 0, 1) := by decide +kernel
theorem dX11_gather_153 : decode cX11_gather 153 = .ok (.getfield 277, 3) := by decide +kernel
theorem dX11_gather_156 : decode cX11_gather 156 = .ok (.iload 7, 2) := by decide +kernel
theorem dX11_gather_158 : decode cX11_gather 158 = .ok (.if_icmp .le 9, 3) := by decide +kernel
theorem dX11_gather_161 : decode cX11_gather 161 = .ok (.aload_n 0, 1) := by decide +kernel
theorem dX11_gather_162 : decode cX11_gather 162 = .ok (.iload 8, 2) := by decide +kernel
theorem dX11_gather_164 : decode cX11_gather 164 = .ok (.invokevirtual 308, 3) := by decide +kernel
theorem dX11_gather_167 : decode cX11_gather 167 = .ok (.iconst 0, 1) := by decide +kernel
theorem dX11_gather_168 : decode cX11_gather 168 = .ok (.istore 9, 2) := by decide +kernel
theorem dX11_gather_170 : decode cX11_gather 170 = .ok (.iload 9, 2) := by decide +kernel
theorem dX11_gather_172 : decode cX11_gather 172 = .ok (.aload_n 0, 1) := by decide +kernel
theorem dX11_gather_173 : decode cX11_gather 173 = .ok (.getfield 271, 3) := by decide +kernel
theorem dX11_gather_176 : decode cX11_gather 176 = .ok (.if_icmp .ge 85, 3) := by decide +kernel
theorem dX11_gather_179 : decode cX11_gather 179 = .ok (.aload_n 0, 1) := by decide +kernel
theorem dX11_gather_180 : decode cX11_gather 180 = .ok (.getfield 219, 3) := by decide +kernel
theorem dX11_gather_183 : decode cX11_gather 183 = .ok (.ifCond .ne 78, 3) := by decide +kernel
theorem dX11_gather_186 : decode cX11_gather 186 = .ok (.aload_n 0, 1) := by decide +kernel
theorem dX11_gather_187 : decode cX11_gather 187 = .ok (.getfield 20, 3) := by decide +kernel
theorem dX11_gather_190 : decode cX11_gather 190 = .ok (.aload_n 0, 1) := by decide +kernel
theorem dX11_gather_191 : decode cX11_gather 191 = .ok (.getfield 90, 3) := by decide +kernel
theorem dX11_gather_194 : decode cX11_gather 194 = .ok (.iload 9, 2) := by decide +kernel
theorem dX11_gather_196 : decode cX11_gather 196 = .ok (.iaload, 1) := by decide +kernel
theorem dX11_gather_197 : decode cX11_gather 197 = .ok (.iaload, 1) := by decide +kernel
theorem dX11_gather_198 : decode cX11_gather 198 = .ok (.istore 10, 2) := by decide +kernel
theorem dX11_gather_200 : decode cX11_gather 200 = .ok (.aload_n 0, 1) := by decide +kernel
theorem dX11_gather_201 : decode cX11_gather 201 = .ok (.iload 10, 2) := by decide +kernel
theorem dX11_gather_203 : decode cX11_gather 203 = .ok (.invokestatic 274, 3) := by decide +kernel
theorem dX11_gather_206 : decode cX11_gather 206 = .ok (.ifCond .eq 18, 3) := by decide +kernel
theorem dX11_gather_209 : decode cX11_gather 209 = .ok (.aload_n 0, 1) := by decide +kernel
theorem dX11_gather_210 : decode cX11_gather 210 = .ok (.getfield 23, 3) := by decide +kernel
theorem dX11_gather_213 : decode cX11_gather 213 = .ok (.aload_n 0, 1) := by decide +kernel
theorem dX11_gather_214 : decode cX11_gather 214 = .ok (.getfield 90, 3) := by decide +kernel
theorem dX11_gather_217 : decode cX11_gather 217 = .ok (.iload 9, 2) := by decide +kernel
theorem dX11_gather_219 : decode cX11_gather 219 = .ok (.iaload, 1) := by decide +kernel
theorem dX11_gather_220 : decode cX11_gather 220 = .ok (.iaload, 1) := by decide +kernel
theorem dX11_gather_221 : decode cX11_gather 221 = .ok (.goto 10, 3) := by decide +kernel
theorem dX11_gather_224 : decode cX11_gather 224 = .ok (.aload_n 0, 1) := by decide +kernel
theorem dX11_gather_225 : decode cX11_gather 225 = .ok (.getfield 90, 3) := by decide +kernel
theorem dX11_gather_228 : decode cX11_gather 228 = .ok (.iload 9, 2) := by decide +kernel
theorem dX11_gather_230 : decode cX11_gather 230 = .ok (.iaload, 1) := by decide +kernel
theorem dX11_gather_231 : decode cX11_gather 231 = .ok (.invokevirtual 246, 3) := by decide +kernel
theorem dX11_gather_234 : decode cX11_gather 234 = .ok (.istore 11, 2) := by decide +kernel
theorem dX11_gather_236 : decode cX11_gather 236 = .ok (.aload_n 0, 1) := by decide +kernel
theorem dX11_gather_237 : decode cX11_gather 237 = .ok (.iconst 4, 1) := by decide +kernel
theorem dX11_gather_238 : decode cX11_gather 238 = .ok (.iload 8, 2) := by decide +kernel
theorem dX11_gather_240 : decode cX11_gather 240 = .ok (.imul, 1) := by decide +kernel
theorem dX11_gather_241 : decode cX11_gather 241 = .ok (.iload 9, 2) := by decide +kernel
theorem dX11_gather_243 : decode cX11_gather 243 = .ok (.iadd, 1) := by decide +kernel
theorem dX11_gather_244 : decode cX11_gather 244 = .ok (.iload 10, 2) := by decide +kernel
theorem dX11_gather_246 : decode cX11_gather 246 = .ok (.iload 11, 2) := by decide +kernel
theorem dX11_gather_248 : decode cX11_gather 248 = .ok (.aload_n 0, 1) := by decide +kernel
theorem dX11_gather_249 : decode cX11_gather 249 = .ok (.getfield 242, 3) := by decide +kernel
theorem dX11_gather_252 : decode cX11_gather 252 = .ok (.invokevirtual 315, 3) := by decide +kernel
theorem dX11_gather_255 : decode cX11_gather 255 = .ok (.iinc 9 1, 3) := by decide +kernel
theorem dX11_gather_258 : decode cX11_gather 258 = .ok (.goto (-88), 3) := by decide +kernel
theorem dX11_gather_261 : decode cX11_gather 261 = .ok (.iinc 6 1, 3) := by decide +kernel
theorem dX11_gather_264 : decode cX11_gather 264 = .ok (.goto (-171), 3) := by decide +kernel
theorem dX11_gather_267 : decode cX11_gather 267 = .ok (.iinc 5 1, 3) := by decide +kernel
theorem dX11_gather_270 : decode cX11_gather 270 = .ok (.goto (-196), 3) := by decide +kernel
theorem dX11_gather_273 : decode cX11_gather 273 = .ok (.return_, 1) := by decide +kernel
theorem b_X11_gather_0 {h : Nat} {L : LVs} {st : List AV} {S : ST} {Q : Option AV → ST → Prop} (k : o_il L st S (fun L st S => t_1 L st S (fun x => nI 0 ≤ x) (fun L st S => V MX11_gather h 25 L st S Q) (fun L st S => V MX11_gather h 4 L st S Q)) 2) : V MX11_gather h 0 L st S Q :=
  v_iload_n dX11_gather_0 rfl (fun L st S k => w_if_ge dX11_gather_1 (by decide) rfl k) k
theorem b_X11_gather_4 {h : Nat} {L : LVs} {st : List AV} {S : ST} {Q : Option AV → ST → Prop} (k : o_al L st S (fun L st S => o_get L st S (fun L st S => o_al L st S (fun L st S => o_get L st S (fun L st S => o_c L st S (fun L st S => o_iald L st S (fun L st S => o_iald L st S (fun L st S => V MX11_gather h 15 L st S Q))) (nI 0)) 11 39 (3, 66, 0)) 0) 11 8 (3, 43, 0)) 0) : V MX11_gather h 4 L st S Q :=
  v_aload_n dX11_gather_4 rfl (fun L st S k => v_get dX11_gather_5 rfl iX11 LY_11 rfl (by decide) rfl fl_X11_20 (fun L st S k => v_aload_n dX11_gather_8 rfl (fun L st S k => v_get dX11_gather_9 rfl iX11 LY_11 rfl (by decide) rfl fl_X11_90 (fun L st S k => v_iconst dX11_gather_12 (by decide) (fun L st S k => v_iaload dX11_gather_13 (fun L st S k => v_iaload dX11_gather_14 (fun L st S k => k) k) k) k) k) k) k) k
theorem k_X11_gather_15 {h : Nat} {L : LVs} {st : List AV} {S : ST} {Q Q' : Option AV → ST → Prop} {a0 : AV} (hC : Ct MX11_isAggregate h [a0] S Q') (k : ∀ (r : Option AV) (S' : ST), Q' r S' → V MX11_gather (h + 1) 18 L (r.toList ++ st) S' Q) (hw : wid st ≤ 8) : V MX11_gather (h + 1) 15 L (a0 :: st) S Q :=
  v_callS (M' := MX11_isAggregate) (As := [a0]) dX11_gather_15 ml_X11_274 sm_X11_isAggregate in_X11 cd_X11_isAggregate ⟨rfl, np_X11_isAggregate⟩ (by decide) hw hC k
theorem b_X11_gather_18 {h : Nat} {L : LVs} {st : List AV} {S : ST} {Q : Option AV → ST → Prop} (k : t_1 L st S (fun x => x = nI 0) (fun L st S => V MX11_gather h 25 L st S Q) (fun L st S => V MX11_gather h 21 L st S Q)) : V MX11_gather h 18 L st S Q :=
  w_if_eq dX11_gather_18 (by decide) rfl k
theorem b_X11_gather_21 {h : Nat} {L : LVs} {st : List AV} {S : ST} {Q : Option AV → ST → Prop} (k : o_c L st S (fun L st S => V MX11_gather h 26 L st S Q) (nI 1)) : V MX11_gather h 21 L st S Q :=
  v_iconst dX11_gather_21 (by decide) (fun L st S k => v_goto dX11_gather_22 (by decide) k) k
theorem b_X11_gather_25 {h : Nat} {L : LVs} {st : List AV} {S : ST} {Q : Option AV → ST → Prop} (k : o_c L st S (fun L st S => V MX11_gather h 26 L st S Q) (nI 0)) : V MX11_gather h 25 L st S Q :=
  v_iconst dX11_gather_25 (by decide) (fun L st S k => k) k
theorem b_X11_gather_26 {h : Nat} {L : LVs} {st : List AV} {S : ST} {Q : Option AV → ST → Prop} (k : o_is L st S (fun L st S => o_al L st S (fun L st S => o_c L st S (fun L st S => o_puti L st S (fun L st S => o_il L st S (fun L st S => t_1 L st S (fun x => x = nI 0) (fun L st S => V MX11_gather h 46 L st S Q) (fun L st S => V MX11_gather h 36 L st S Q)) 3) 11 34) (nI 0)) 0) 3) : V MX11_gather h 26 L st S Q :=
  v_istore_n dX11_gather_26 rfl (by decide) (fun L st S k => v_aload_n dX11_gather_27 rfl (fun L st S k => v_iconst dX11_gather_28 (by decide) (fun L st S k => v_puti dX11_gather_29 rfl iX11 tyX11_ok nmX11 LY_11 rfl (by decide) rfl fl_X11_277 rfl rfl (fun L st S k => v_iload_n dX11_gather_32 rfl (fun L st S k => w_if_eq dX11_gather_33 (by decide) rfl k) k) k) k) k) k
theorem b_X11_gather_36 {h : Nat} {L : LVs} {st : List AV} {S : ST} {Q : Option AV → ST → Prop} (k : o_al L st S (fun L st S => o_c L st S (fun L st S => o_puti L st S (fun L st S => o_al L st S (fun L st S => o_c L st S (fun L st S => V MX11_gather h 43 L st S Q) (nI 0)) 0) 11 34) (nI 1)) 0) : V MX11_gather h 36 L st S Q :=
  v_aload_n dX11_gather_36 rfl (fun L st S k => v_iconst dX11_gather_37 (by decide) (fun L st S k => v_puti dX11_gather_38 rfl iX11 tyX11_ok nmX11 LY_11 rfl (by decide) rfl fl_X11_277 rfl rfl (fun L st S k => v_aload_n dX11_gather_41 rfl (fun L st S k => v_iconst dX11_gather_42 (by decide) (fun L st S k => k) k) k) k) k) k
theorem k_X11_gather_43 {h : Nat} {L : LVs} {st : List AV} {S : ST} {Q Q' : Option AV → ST → Prop} {j : Nat} {a0 : AV} (hC : Ct MX11_begin h [vR 11 j, a0] S Q') (k : ∀ (r : Option AV) (S' : ST), Q' r S' → V MX11_gather (h + 1) 46 L (r.toList ++ st) S' Q) (hj : j < NI 11) (hw : wid st ≤ 8) : V MX11_gather (h + 1) 43 L (a0 :: vR 11 j :: st) S Q :=
  v_callV (M' := MX11_begin) (c := 11) (As := [a0]) dX11_gather_43 ml_X11_308 im_X11_begin se_X11_begin in_X11 cd_X11_begin rfl LY_11 np_X11_begin (by decide) hw hj hC k
theorem b_X11_gather_46 {h : Nat} {L : LVs} {st : List AV} {S : ST} {Q : Option AV → ST → Prop} (k : o_al L st S (fun L st S => o_get L st S (fun L st S => o_c L st S (fun L st S => t_2 L st S (fun x y => x = y) (fun L st S => V MX11_gather h 54 L st S Q) (fun L st S => V MX11_gather h 68 L st S Q)) (nI 2)) 11 24 (0, 0, 0)) 0) : V MX11_gather h 46 L st S Q :=
  v_aload_n dX11_gather_46 rfl (fun L st S k => v_get dX11_gather_47 rfl iX11 LY_11 rfl (by decide) rfl fl_X11_222 (fun L st S k => v_iconst dX11_gather_50 (by decide) (fun L st S k => w_icmp_ne dX11_gather_51 (by decide) rfl k) k) k) k
theorem b_X11_gather_54 {h : Nat} {L : LVs} {st : List AV} {S : ST} {Q : Option AV → ST → Prop} (k : o_al L st S (fun L st S => o_get L st S (fun L st S => o_al L st S (fun L st S => o_get L st S (fun L st S => o_c L st S (fun L st S => o_iald L st S (fun L st S => o_iald L st S (fun L st S => V MX11_gather h 69 L st S Q))) (nI 1)) 11 26 (3, 58, 0)) 0) 11 21 (3, 54, 0)) 0) : V MX11_gather h 54 L st S Q :=
  v_aload_n dX11_gather_54 rfl (fun L st S k => v_get dX11_gather_55 rfl iX11 LY_11 rfl (by decide) rfl fl_X11_54 (fun L st S k => v_aload_n dX11_gather_58 rfl (fun L st S k => v_get dX11_gather_59 rfl iX11 LY_11 rfl (by decide) rfl fl_X11_66 (fun L st S k => v_iconst dX11_gather_62 (by decide) (fun L st S k => v_iaload dX11_gather_63 (fun L st S k => v_iaload dX11_gather_64 (fun L st S k => v_goto dX11_gather_65 (by decide) k) k) k) k) k) k) k) k
theorem b_X11_gather_68 {h : Nat} {L : LVs} {st : List AV} {S : ST} {Q : Option AV → ST → Prop} (k : o_c L st S (fun L st S => V MX11_gather h 69 L st S Q) (nI 1)) : V MX11_gather h 68 L st S Q :=
  v_iconst dX11_gather_68 (by decide) (fun L st S k => k) k
theorem b_X11_gather_69 {h : Nat} {L : LVs} {st : List AV} {S : ST} {Q : Option AV → ST → Prop} (k : o_is L st S (fun L st S => o_c L st S (fun L st S => o_is L st S (fun L st S => V MX11_gather h 74 L st S Q) 5) (nI 0)) 4) : V MX11_gather h 69 L st S Q :=
  v_istore dX11_gather_69 (by decide) (fun L st S k => v_iconst dX11_gather_71 (by decide) (fun L st S k => v_istore dX11_gather_72 (by decide) (fun L st S k => k) k) k) k
theorem b_X11_gather_74 {h : Nat} {L : LVs} {st : List AV} {S : ST} {Q : Option AV → ST → Prop} (k : o_il L st S (fun L st S => o_al L st S (fun L st S => o_get L st S (fun L st S => o_al L st S (fun L st S => o_get L st S (fun L st S => o_c L st S (fun L st S => o_iald L st S (fun L st S => o_iald L st S (fun L st S => t_2 L st S (fun x y => y ≤ x) (fun L st S => V MX11_gather h 273 L st S Q) (fun L st S => V MX11_gather h 90 L st S Q)))) (nI 0)) 11 26 (3, 58, 0)) 0) 11 21 (3, 54, 0)) 0) 5) : V MX11_gather h 74 L st S Q :=
  v_iload dX11_gather_74 (fun L st S k => v_aload_n dX11_gather_76 rfl (fun L st S k => v_get dX11_gather_77 rfl iX11 LY_11 rfl (by decide) rfl fl_X11_54 (fun L st S k => v_aload_n dX11_gather_80 rfl (fun L st S k => v_get dX11_gather_81 rfl iX11 LY_11 rfl (by decide) rfl fl_X11_66 (fun L st S k => v_iconst dX11_gather_84 (by decide) (fun L st S k => v_iaload dX11_gather_85 (fun L st S k => v_iaload dX11_gather_86 (fun L st S k => w_icmp_ge dX11_gather_87 (by decide) rfl k) k) k) k) k) k) k) k) k
theorem b_X11_gather_90 {h : Nat} {L : LVs} {st : List AV} {S : ST} {Q : Option AV → ST → Prop} (k : o_c L st S (fun L st S => o_is L st S (fun L st S => V MX11_gather h 93 L st S Q) 6) (nI 0)) : V MX11_gather h 90 L st S Q :=
  v_iconst dX11_gather_90 (by decide) (fun L st S k => v_istore dX11_gather_91 (by decide) (fun L st S k => k) k) k
theorem b_X11_gather_93 {h : Nat} {L : LVs} {st : List AV} {S : ST} {Q : Option AV → ST → Prop} (k : o_il L st S (fun L st S => o_il L st S (fun L st S => t_2 L st S (fun x y => y ≤ x) (fun L st S => V MX11_gather h 267 L st S Q) (fun L st S => V MX11_gather h 100 L st S Q)) 4) 6) : V MX11_gather h 93 L st S Q :=
  v_iload dX11_gather_93 (fun L st S k => v_iload dX11_gather_95 (fun L st S k => w_icmp_ge dX11_gather_97 (by decide) rfl k) k) k
theorem b_X11_gather_100 {h : Nat} {L : LVs} {st : List AV} {S : ST} {Q : Option AV → ST → Prop} (k : o_al L st S (fun L st S => o_get L st S (fun L st S => t_1 L st S (fun x => x = nI 0) (fun L st S => V MX11_gather h 107 L st S Q) (fun L st S => V MX11_gather h 267 L st S Q)) 11 28 (0, 0, 0)) 0) : V MX11_gather h 100 L st S Q :=
  v_aload_n dX11_gather_100 rfl (fun L st S k => v_get dX11_gather_101 rfl iX11 LY_11 rfl (by decide) rfl fl_X11_219 (fun L st S k => w_if_ne dX11_gather_104 (by decide) rfl k) k) k
theorem b_X11_gather_107 {h : Nat} {L : LVs} {st : List AV} {S : ST} {Q : Option AV → ST → Prop} (k : o_al L st S (fun L st S => o_get L st S (fun L st S => o_c L st S (fun L st S => o_il L st S (fun L st S => o_iast L st S (fun L st S => o_al L st S (fun L st S => o_get L st S (fun L st S => o_c L st S (fun L st S => o_il L st S (fun L st S => o_iast L st S (fun L st S => o_al L st S (fun L st S => o_il L st S (fun L st S => V MX11_gather h 125 L st S Q) 1) 0)) 6) (nI 1)) 11 27 (3, 59, 0)) 0)) 5) (nI 0)) 11 27 (3, 59, 0)) 0) : V MX11_gather h 107 L st S Q :=
  v_aload_n dX11_gather_107 rfl (fun L st S k => v_get dX11_gather_108 rfl iX11 LY_11 rfl (by decide) rfl fl_X11_69 (fun L st S k => v_iconst dX11_gather_111 (by decide) (fun L st S k => v_iload dX11_gather_112 (fun L st S k => v_iastore dX11_gather_114 (fun L st S k => v_aload_n dX11_gather_115 rfl (fun L st S k => v_get dX11_gather_116 rfl iX11 LY_11 rfl (by decide) rfl fl_X11_69 (fun L st S k => v_iconst dX11_gather_119 (by decide) (fun L st S k => v_iload dX11_gather_120 (fun L st S k => v_iastore dX11_gather_122 (fun L st S k => v_aload_n dX11_gather_123 rfl (fun L st S k => v_iload_n dX11_gather_124 rfl (fun L st S k => k) k) k) k) k) k) k) k) k) k) k) k) k
theorem k_X11_gather_125 {h : Nat} {L : LVs} {st : List AV} {S : ST} {Q Q' : Option AV → ST → Prop} {j : Nat} {a0 : AV} (hC : Ct MX11_holds h [vR 11 j, a0] S Q') (k : ∀ (r : Option AV) (S' : ST), Q' r S' → V MX11_gather (h + 1) 128 L (r.toList ++ st) S' Q) (hj : j < NI 11) (hw : wid st ≤ 8) : V MX11_gather (h + 1) 125 L (a0 :: vR 11 j :: st) S Q :=
  v_callV (M' := MX11_holds) (c := 11) (As := [a0]) dX11_gather_125 ml_X11_268 im_X11_holds se_X11_holds in_X11 cd_X11_holds rfl LY_11 np_X11_holds (by decide) hw hj hC k
theorem b_X11_gather_128 {h : Nat} {L : LVs} {st : List AV} {S : ST} {Q : Option AV → ST → Prop} (k : t_1 L st S (fun x => x = nI 0) (fun L st S => V MX11_gather h 261 L st S Q) (fun L st S => V MX11_gather h 131 L st S Q)) : V MX11_gather h 128 L st S Q :=
  w_if_eq dX11_gather_128 (by decide) rfl k
theorem b_X11_gather_131 {h : Nat} {L : LVs} {st : List AV} {S : ST} {Q : Option AV → ST → Prop} (k : o_al L st S (fun L st S => o_get L st S (fun L st S => t_1 L st S (fun x => x = nI 0) (fun L st S => V MX11_gather h 138 L st S Q) (fun L st S => V MX11_gather h 261 L st S Q)) 11 28 (0, 0, 0)) 0) : V MX11_gather h 131 L st S Q :=
  v_aload_n dX11_gather_131 rfl (fun L st S k => v_get dX11_gather_132 rfl iX11 LY_11 rfl (by decide) rfl fl_X11_219 (fun L st S k => w_if_ne dX11_gather_135 (by decide) rfl k) k) k
theorem b_X11_gather_138 {h : Nat} {L : LVs} {st : List AV} {S : ST} {Q : Option AV → ST → Prop} (k : o_al L st S (fun L st S => o_get L st S (fun L st S => o_is L st S (fun L st S => o_al L st S (fun L st S => o_il L st S (fun L st S => o_il L st S (fun L st S => V MX11_gather h 147 L st S Q) 3) 2) 0) 7) 11 34 (0, 0, 0)) 0) : V MX11_gather h 138 L st S Q :=
  v_aload_n dX11_gather_138 rfl (fun L st S k => v_get dX11_gather_139 rfl iX11 LY_11 rfl (by decide) rfl fl_X11_277 (fun L st S k => v_istore dX11_gather_142 (by decide) (fun L st S k => v_aload_n dX11_gather_144 rfl (fun L st S k => v_iload_n dX11_gather_145 rfl (fun L st S k => v_iload_n dX11_gather_146 rfl (fun L st S k => k) k) k) k) k) k) k
theorem k_X11_gather_147 {h : Nat} {L : LVs} {st : List AV} {S : ST} {Q Q' : Option AV → ST → Prop} {j : Nat} {a0 a1 : AV} (hC : Ct MX11_rowFor h [vR 11 j, a0, a1] S Q') (k : ∀ (r : Option AV) (S' : ST), Q' r S' → V MX11_gather (h + 1) 150 L (r.toList ++ st) S' Q) (hj : j < NI 11) (hw : wid st ≤ 8) : V MX11_gather (h + 1) 147 L (a1 :: a0 :: vR 11 j :: st) S Q :=
  v_callV (M' := MX11_rowFor) (c := 11) (As := [a0, a1]) dX11_gather_147 ml_X11_311 im_X11_rowFor se_X11_rowFor in_X11 cd_X11_rowFor rfl LY_11 np_X11_rowFor (by decide) hw hj hC k
theorem b_X11_gather_150 {h : Nat} {L : LVs} {st : List AV} {S : ST} {Q : Option AV → ST → Prop} (k : o_is L st S (fun L st S => o_al L st S (fun L st S => o_get L st S (fun L st S => o_il L st S (fun L st S => t_2 L st S (fun x y => x ≤ y) (fun L st S => V MX11_gather h 167 L st S Q) (fun L st S => V MX11_gather h 161 L st S Q)) 7) 11 34 (0, 0, 0)) 0) 8) : V MX11_gather h 150 L st S Q :=
  v_istore dX11_gather_150 (by decide) (fun L st S k => v_aload_n dX11_gather_152 rfl (fun L st S k => v_get dX11_gather_153 rfl iX11 LY_11 rfl (by decide) rfl fl_X11_277 (fun L st S k => v_iload dX11_gather_156 (fun L st S k => w_icmp_le dX11_gather_158 (by decide) rfl k) k) k) k) k
theorem b_X11_gather_161 {h : Nat} {L : LVs} {st : List AV} {S : ST} {Q : Option AV → ST → Prop} (k : o_al L st S (fun L st S => o_il L st S (fun L st S => V MX11_gather h 164 L st S Q) 8) 0) : V MX11_gather h 161 L st S Q :=
  v_aload_n dX11_gather_161 rfl (fun L st S k => v_iload dX11_gather_162 (fun L st S k => k) k) k
theorem k_X11_gather_164 {h : Nat} {L : LVs} {st : List AV} {S : ST} {Q Q' : Option AV → ST → Prop} {j : Nat} {a0 : AV} (hC : Ct MX11_begin h [vR 11 j, a0] S Q') (k : ∀ (r : Option AV) (S' : ST), Q' r S' → V MX11_gather (h + 1) 167 L (r.toList ++ st) S' Q) (hj : j < NI 11) (hw : wid st ≤ 8) : V MX11_gather (h + 1) 164 L (a0 :: vR 11 j :: st) S Q :=
  v_callV (M' := MX11_begin) (c := 11) (As := [a0]) dX11_gather_164 ml_X11_308 im_X11_begin se_X11_begin in_X11 cd_X11_begin rfl LY_11 np_X11_begin (by decide) hw hj hC k
theorem b_X11_gather_167 {h : Nat} {L : LVs} {st : List AV} {S : ST} {Q : Option AV → ST → Prop} (k : o_c L st S (fun L st S => o_is L st S (fun L st S => V MX11_gather h 170 L st S Q) 9) (nI 0)) : V MX11_gather h 167 L st S Q :=
  v_iconst dX11_gather_167 (by decide) (fun L st S k => v_istore dX11_gather_168 (by decide) (fun L st S k => k) k) k
theorem b_X11_gather_170 {h : Nat} {L : LVs} {st : List AV} {S : ST} {Q : Option AV → ST → Prop} (k : o_il L st S (fun L st S => o_al L st S (fun L st S => o_get L st S (fun L st S => t_2 L st S (fun x y => y ≤ x) (fun L st S => V MX11_gather h 261 L st S Q) (fun L st S => V MX11_gather h 179 L st S Q)) 11 40 (0, 0, 0)) 0) 9) : V MX11_gather h 170 L st S Q :=
  v_iload dX11_gather_170 (fun L st S k => v_aload_n dX11_gather_172 rfl (fun L st S k => v_get dX11_gather_173 rfl iX11 LY_11 rfl (by decide) rfl fl_X11_271 (fun L st S k => w_icmp_ge dX11_gather_176 (by decide) rfl k) k) k) k
theorem b_X11_gather_179 {h : Nat} {L : LVs} {st : List AV} {S : ST} {Q : Option AV → ST → Prop} (k : o_al L st S (fun L st S => o_get L st S (fun L st S => t_1 L st S (fun x => x = nI 0) (fun L st S => V MX11_gather h 186 L st S Q) (fun L st S => V MX11_gather h 261 L st S Q)) 11 28 (0, 0, 0)) 0) : V MX11_gather h 179 L st S Q :=
  v_aload_n dX11_gather_179 rfl (fun L st S k => v_get dX11_gather_180 rfl iX11 LY_11 rfl (by decide) rfl fl_X11_219 (fun L st S k => w_if_ne dX11_gather_183 (by decide) rfl k) k) k
theorem b_X11_gather_186 {h : Nat} {L : LVs} {st : List AV} {S : ST} {Q : Option AV → ST → Prop} (k : o_al L st S (fun L st S => o_get L st S (fun L st S => o_al L st S (fun L st S => o_get L st S (fun L st S => o_il L st S (fun L st S => o_iald L st S (fun L st S => o_iald L st S (fun L st S => o_is L st S (fun L st S => o_al L st S (fun L st S => o_il L st S (fun L st S => V MX11_gather h 203 L st S Q) 10) 0) 10))) 9) 11 39 (3, 66, 0)) 0) 11 8 (3, 43, 0)) 0) : V MX11_gather h 186 L st S Q :=
  v_aload_n dX11_gather_186 rfl (fun L st S k => v_get dX11_gather_187 rfl iX11 LY_11 rfl (by decide) rfl fl_X11_20 (fun L st S k => v_aload_n dX11_gather_190 rfl (fun L st S k => v_get dX11_gather_191 rfl iX11 LY_11 rfl (by decide) rfl fl_X11_90 (fun L st S k => v_iload dX11_gather_194 (fun L st S k => v_iaload dX11_gather_196 (fun L st S k => v_iaload dX11_gather_197 (fun L st S k => v_istore dX11_gather_198 (by decide) (fun L st S k => v_aload_n dX11_gather_200 rfl (fun L st S k => v_iload dX11_gather_201 (fun L st S k => k) k) k) k) k) k) k) k) k) k) k
theorem k_X11_gather_203 {h : Nat} {L : LVs} {st : List AV} {S : ST} {Q Q' : Option AV → ST → Prop} {a0 : AV} (hC : Ct MX11_isAggregate h [a0] S Q') (k : ∀ (r : Option AV) (S' : ST), Q' r S' → V MX11_gather (h + 1) 206 L (r.toList ++ st) S' Q) (hw : wid st ≤ 8) : V MX11_gather (h + 1) 203 L (a0 :: st) S Q :=
  v_callS (M' := MX11_isAggregate) (As := [a0]) dX11_gather_203 ml_X11_274 sm_X11_isAggregate in_X11 cd_X11_isAggregate ⟨rfl, np_X11_isAggregate⟩ (by decide) hw hC k
theorem b_X11_gather_206 {h : Nat} {L : LVs} {st : List AV} {S : ST} {Q : Option AV → ST → Prop} (k : t_1 L st S (fun x => x = nI 0) (fun L st S => V MX11_gather h 224 L st S Q) (fun L st S => V MX11_gather h 209 L st S Q)) : V MX11_gather h 206 L st S Q :=
  w_if_eq dX11_gather_206 (by decide) rfl k
theorem b_X11_gather_209 {h : Nat} {L : LVs} {st : List AV} {S : ST} {Q : Option AV → ST → Prop} (k : o_al L st S (fun L st S => o_get L st S (fun L st S => o_al L st S (fun L st S => o_get L st S (fun L st S => o_il L st S (fun L st S => o_iald L st S (fun L st S => o_iald L st S (fun L st S => V MX11_gather h 231 L st S Q))) 9) 11 39 (3, 66, 0)) 0) 11 9 (3, 44, 0)) 0) : V MX11_gather h 209 L st S Q :=
  v_aload_n dX11_gather_209 rfl (fun L st S k => v_get dX11_gather_210 rfl iX11 LY_11 rfl (by decide) rfl fl_X11_23 (fun L st S k => v_aload_n dX11_gather_213 rfl (fun L st S k => v_get dX11_gather_214 rfl iX11 LY_11 rfl (by decide) rfl fl_X11_90 (fun L st S k => v_iload dX11_gather_217 (fun L st S k => v_iaload dX11_gather_219 (fun L st S k => v_iaload dX11_gather_220 (fun L st S k => v_goto dX11_gather_221 (by decide) k) k) k) k) k) k) k) k
theorem b_X11_gather_224 {h : Nat} {L : LVs} {st : List AV} {S : ST} {Q : Option AV → ST → Prop} (k : o_al L st S (fun L st S => o_get L st S (fun L st S => o_il L st S (fun L st S => o_iald L st S (fun L st S => V MX11_gather h 231 L st S Q)) 9) 11 39 (3, 66, 0)) 0) : V MX11_gather h 224 L st S Q :=
  v_aload_n dX11_gather_224 rfl (fun L st S k => v_get dX11_gather_225 rfl iX11 LY_11 rfl (by decide) rfl fl_X11_90 (fun L st S k => v_iload dX11_gather_228 (fun L st S k => v_iaload dX11_gather_230 (fun L st S k => k) k) k) k) k
theorem k_X11_gather_231 {h : Nat} {L : LVs} {st : List AV} {S : ST} {Q Q' : Option AV → ST → Prop} {j : Nat} {a0 : AV} (hC : Ct MX11_work h [vR 11 j, a0] S Q') (k : ∀ (r : Option AV) (S' : ST), Q' r S' → V MX11_gather (h + 1) 234 L (r.toList ++ st) S' Q) (hj : j < NI 11) (hw : wid st ≤ 8) : V MX11_gather (h + 1) 231 L (a0 :: vR 11 j :: st) S Q :=
  v_callV (M' := MX11_work) (c := 11) (As := [a0]) dX11_gather_231 ml_X11_246 im_X11_work se_X11_work in_X11 cd_X11_work rfl LY_11 np_X11_work (by decide) hw hj hC k
theorem b_X11_gather_234 {h : Nat} {L : LVs} {st : List AV} {S : ST} {Q : Option AV → ST → Prop} (k : o_is L st S (fun L st S => o_al L st S (fun L st S => o_c L st S (fun L st S => o_il L st S (fun L st S => o_imul L st S (fun L st S => o_il L st S (fun L st S => o_iadd L st S (fun L st S => o_il L st S (fun L st S => o_il L st S (fun L st S => o_al L st S (fun L st S => o_get L st S (fun L st S => V MX11_gather h 252 L st S Q) 11 29 (2, 0, 0)) 0) 11) 10)) 9)) 8) (nI 4)) 0) 11) : V MX11_gather h 234 L st S Q :=
  v_istore dX11_gather_234 (by decide) (fun L st S k => v_aload_n dX11_gather_236 rfl (fun L st S k => v_iconst dX11_gather_237 (by decide) (fun L st S k => v_iload dX11_gather_238 (fun L st S k => v_imul dX11_gather_240 (fun L st S k => v_iload dX11_gather_241 (fun L st S k => v_iadd dX11_gather_243 (fun L st S k => v_iload dX11_gather_244 (fun L st S k => v_iload dX11_gather_246 (fun L st S k => v_aload_n dX11_gather_248 rfl (fun L st S k => v_get dX11_gather_249 rfl iX11 LY_11 rfl (by decide) rfl fl_X11_242 (fun L st S k => k) k) k) k) k) k) k) k) k) k) k) k
theorem k_X11_gather_252 {h : Nat} {L : LVs} {st : List AV} {S : ST} {Q Q' : Option AV → ST → Prop} {j : Nat} {a0 a1 a2 a3 : AV} (hC : Ct MX11_come h [vR 11 j, a0, a1, a2, a3] S Q') (k : ∀ (r : Option AV) (S' : ST), Q' r S' → V MX11_gather (h + 1) 255 L (r.toList ++ st) S' Q) (hj : j < NI 11) (hw : wid st ≤ 8) : V MX11_gather (h + 1) 252 L (a3 :: a2 :: a1 :: a0 :: vR 11 j :: st) S Q :=
  v_callV (M' := MX11_come) (c := 11) (As := [a0, a1, a2, a3]) dX11_gather_252 ml_X11_315 im_X11_come se_X11_come in_X11 cd_X11_come rfl LY_11 np_X11_come (by decide) hw hj hC k
theorem b_X11_gather_255 {h : Nat} {L : LVs} {st : List AV} {S : ST} {Q : Option AV → ST → Prop} (k : o_inc L st S (fun L st S => V MX11_gather h 170 L st S Q) 9 (nI 1)) : V MX11_gather h 255 L st S Q :=
  v_iinc dX11_gather_255 (by decide) (by decide) (fun L st S k => v_goto dX11_gather_258 (by decide) k) k
theorem b_X11_gather_261 {h : Nat} {L : LVs} {st : List AV} {S : ST} {Q : Option AV → ST → Prop} (k : o_inc L st S (fun L st S => V MX11_gather h 93 L st S Q) 6 (nI 1)) : V MX11_gather h 261 L st S Q :=
  v_iinc dX11_gather_261 (by decide) (by decide) (fun L st S k => v_goto dX11_gather_264 (by decide) k) k
theorem b_X11_gather_267 {h : Nat} {L : LVs} {st : List AV} {S : ST} {Q : Option AV → ST → Prop} (k : o_inc L st S (fun L st S => V MX11_gather h 74 L st S Q) 5 (nI 1)) : V MX11_gather h 267 L st S Q :=
  v_iinc dX11_gather_267 (by decide) (by decide) (fun L st S k => v_goto dX11_gather_270 (by decide) k) k
theorem b_X11_gather_273 {h : Nat} {L : LVs} {st : List AV} {S : ST} {Q : Option AV → ST → Prop} (k : t_vr st S Q) : V MX11_gather h 273 L st S Q :=
  w_vr dX11_gather_273 rfl k
-- QueryForgeModel.act()I
theorem dX11_act_0 : decode cX11_act 0 = .ok (.aload_n 0, 1) := by decide +kernel
theorem dX11_act_1 : decode cX11_act 1 = .ok (.invokevirtual 319, 3) := by decide +kernel
theorem dX11_act_4 : decode cX11_act 4 = .ok (.aload_n 0, 1) := by decide +kernel
theorem dX11_act_5 : decode cX11_act 5 = .ok (.iconst 0, 1) := by decide +kernel
theorem dX11_act_6 : decode cX11_act 6 = .ok (.putfield 172, 3) := by decide +kernel
theorem dX11_act_9 : decode cX11_act 9 = .ok (.aload_n 0, 1) := by decide +kernel
theorem dX11_act_10 : decode cX11_act 10 = .ok (.iconst (-1), 1) := by decide +kernel
theorem dX11_act_11 : decode cX11_act 11 = .ok (.putfield 169, 3) := by decide +kernel
theorem dX11_act_14 : decode cX11_act 14 = .ok (.aload_n 0, 1) := by decide +kernel
theorem dX11_act_15 : decode cX11_act 15 = .ok (.iconst 0, 1) := by decide +kernel
theorem dX11_act_16 : decode cX11_act 16 = .ok (.putfield 178, 3) := by decide +kernel
theorem dX11_act_19 : decode cX11_act 19 = .ok (.aload_n 0, 1) := by decide +kernel
theorem dX11_act_20 : decode cX11_act 20 = .ok (.iconst 0, 1) := by decide +kernel
theorem dX11_act_21 : decode cX11_act 21 = .ok (.putfield 175, 3) := by decide +kernel
theorem dX11_act_24 : decode cX11_act 24 = .ok (.aload_n 0, 1) := by decide +kernel
theorem dX11_act_25 : decode cX11_act 25 = .ok (.iconst 0, 1) := by decide +kernel
theorem dX11_act_26 : decode cX11_act 26 = .ok (.putfield 219, 3) := by decide +kernel
theorem dX11_act_29 : decode cX11_act 29 = .ok (.aload_n 0, 1) := by decide +kernel
theorem dX11_act_30 : decode cX11_act 30 = .ok (.iconst 0, 1) := by decide +kernel
theorem dX11_act_31 : decode cX11_act 31 = .ok (.putfield 222, 3) := by decide +kernel
theorem dX11_act_34 : decode cX11_act 34 = .ok (.aload_n 0, 1) := by decide +kernel
theorem dX11_act_35 : decode cX11_act 35 = .ok (.getfield 66, 3) := by decide +kernel
theorem dX11_act_38 : decode cX11_act 38 = .ok (.iconst 0, 1) := by decide +kernel
theorem dX11_act_39 : decode cX11_act 39 = .ok (.iconst (-1), 1) := by decide +kernel
theorem dX11_act_40 : decode cX11_act 40 = .ok (.iastore, 1) := by decide +kernel
theorem dX11_act_41 : decode cX11_act 41 = .ok (.aload_n 0, 1) := by decide +kernel
theorem dX11_act_42 : decode cX11_act 42 = .ok (.getfield 13, 3) := by decide +kernel
theorem dX11_act_45 : decode cX11_act 45 = .ok (.iconst 0, 1) := by decide +kernel
theorem dX11_act_46 : decode cX11_act 46 = .ok (.iaload, 1) := by decide +kernel
theorem dX11_act_47 : decode cX11_act 47 = .ok (.istore_n 1, 1) := by decide +kernel
theorem dX11_act_48 : decode cX11_act 48 = .ok (.aload_n 0, 1) := by decide +kernel
theorem dX11_act_49 : decode cX11_act 49 = .ok (.iconst 1, 1) := by decide +kernel
theorem dX11_act_50 : decode cX11_act 50 = .ok (.putfield 172, 3) := by decide +kernel
theorem dX11_act_53 : decode cX11_act 53 = .ok (.iconst 0, 1) := by decide +kernel
theorem dX11_act_54 : decode cX11_act 54 = .ok (.istore_n 2, 1) := by decide +kernel
theorem dX11_act_55 : decode cX11_act 55 = .ok (.iload_n 1, 1) := by decide +kernel
theorem dX11_act_56 : decode cX11_act 56 = .ok (.ifCond .ne 11, 3) := by decide +kernel
theorem dX11_act_59 : decode cX11_act 59 = .ok (.aload_n 0, 1) := by decide +kernel
theorem dX11_act_60 : decode cX11_act 60 = .ok (.invokevirtual 322, 3) := by decide +kernel
theorem dX11_act_63 : decode cX11_act 63 = .ok (.istore_n 2, 1) := by decide +kernel
theorem dX11_act_64 : decode cX11_act 64 = .ok (.goto 60, 3) := by decide +kernel
theorem dX11_act_67 : decode cX11_act 67 = .ok (.iload_n 1, 1) := by decide +kernel
theorem dX11_act_68 : decode cX11_act 68 = .ok (.iconst 1, 1) := by decide +kernel
theorem dX11_act_69 : decode cX11_act 69 = .ok (.if_icmp .ne 11, 3) := by decide +kernel
theorem dX11_act_72 : decode cX11_act 72 = .ok (.aload_n 0, 1) := by decide +kernel
theorem dX11_act_73 : decode cX11_act 73 = .ok (.invokevirtual 325, 3) := by decide +kernel
theorem dX11_act_76 : decode cX11_act 76 = .ok (.istore_n 2, 1) := by decide +kernel
theorem dX11_act_77 : decode cX11_act 77 = .ok (.goto 47, 3) := by decide +kernel
theorem dX11_act_80 : decode cX11_act 80 = .ok (.iload_n 1, 1) := by decide +kernel
theorem dX11_act_81 : decode cX11_act 81 = .ok (.iconst 2, 1) := by decide +kernel
theorem dX11_act_82 : decode cX11_act 82 = .ok (.if_icmp .ne 11, 3) := by decide +kernel
theorem dX11_act_85 : decode cX11_act 85 = .ok (.aload_n 0, 1) := by decide +kernel
theorem dX11_act_86 : decode cX11_act 86 = .ok (.invokevirtual 328, 3) := by decide +kernel
theorem dX11_act_89 : decode cX11_act 89 = .ok (.istore_n 2, 1) := by decide +kernel
theorem dX11_act_90 : decode cX11_act 90 = .ok (.goto 34, 3) := by decide +kernel
theorem dX11_act_93 : decode cX11_act 93 = .ok (.iload_n 1, 1) := by decide +kernel
theorem dX11_act_94 : decode cX11_act 94 = .ok (.iconst 3, 1) := by decide +kernel
theorem dX11_act_95 : decode cX11_act 95 = .ok (.if_icmp .ne 11, 3) := by decide +kernel
theorem dX11_act_98 : decode cX11_act 98 = .ok (.aload_n 0, 1) := by decide +kernel
theorem dX11_act_99 : decode cX11_act 99 = .ok (.invokevirtual 331, 3) := by decide +kernel
theorem dX11_act_102 : decode cX11_act 102 = .ok (.istore_n 2, 1) := by decide +kernel
theorem dX11_act_103 : decode cX11_act 103 = .ok (.goto 21, 3) := by decide +kernel
theorem dX11_act_106 : decode cX11_act 106 = .ok (.iload_n 1, 1) := by decide +kernel
theorem dX11_act_107 : decode cX11_act 107 = .ok (.iconst 5, 1) := by decide +kernel
theorem dX11_act_108 : decode cX11_act 108 = .ok (.if_icmp .ne 11, 3) := by decide +kernel
theorem dX11_act_111 : decode cX11_act 111 = .ok (.aload_n 0, 1) := by decide +kernel
theorem dX11_act_112 : decode cX11_act 112 = .ok (.invokevirtual 334, 3) := by decide +kernel
theorem dX11_act_115 : decode cX11_act 115 = .ok (.istore_n 2, 1) := by decide +kernel
theorem dX11_act_116 : decode cX11_act 116 = .ok (.goto 8, 3) := by decide +kernel
theorem dX11_act_119 : decode cX11_act 119 = .ok (.aload_n 0, 1) := by decide +kernel
theorem dX11_act_120 : decode cX11_act 120 = .ok (.iconst 0, 1) := by decide +kernel
theorem dX11_act_121 : decode cX11_act 121 = .ok (.putfield 169, 3) := by decide +kernel
theorem dX11_act_124 : decode cX11_act 124 = .ok (.aload_n 0, 1) := by decide +kernel
theorem dX11_act_125 : decode cX11_act 125 = .ok (.iconst 0, 1) := by decide +kernel
theorem dX11_act_126 : decode cX11_act 126 = .ok (.putfield 102, 3) := by decide +kernel
theorem dX11_act_129 : decode cX11_act 129 = .ok (.aload_n 0, 1) := by decide +kernel
theorem dX11_act_130 : decode cX11_act 130 = .ok (.getfield 169, 3) := by decide +kernel
theorem dX11_act_133 : decode cX11_act 133 = .ok (.ifCond .lt 12, 3) := by decide +kernel
theorem dX11_act_136 : decode cX11_act 136 = .ok (.iconst (-1), 1) := by decide +kernel
theorem dX11_act_137 : decode cX11_act 137 = .ok (.aload_n 0, 1) := by decide +kernel
theorem dX11_act_138 : decode cX11_act 138 = .ok (.getfield 169, 3) := by decide +kernel
theorem dX11_act_141 : decode cX11_act 141 = .ok (.isub, 1) := by decide +kernel
theorem dX11_act_142 : decode cX11_act 142 = .ok (.goto 18, 3) := by decide +kernel
theorem dX11_act_145 : decode cX11_act 145 = .ok (.aload_n 0, 1) := by decide +kernel
theorem dX11_act_146 : decode cX11_act 146 = .ok (.getfield 219, 3) := by decide +kernel
theorem dX11_act_149 : decode cX11_act 149 = .ok (.ifCond .eq 10, 3) := by decide +kernel
theorem dX11_act_152 : decode cX11_act 152 = .ok (.aload_n 0, 1) := by decide +kernel
theorem dX11_act_153 : decode cX11_act 153 = .ok (.getfield 219, 3) := by decide +kernel
theorem dX11_act_156 : decode cX11_act 156 = .ok (.goto 4, 3) := by decide +kernel
theorem dX11_act_159 : decode cX11_act 159 = .ok (.iload_n 2, 1) := by decide +kernel
theorem dX11_act_160 : decode cX11_act 160 = .ok (.ireturn, 1) := by decide +kernel
theorem b_X11_act_0 {h : Nat} {L : LVs} {st : List AV} {S : ST} {Q : Option AV → ST → Prop} (k : o_al L st S (fun L st S => V MX11_act h 1 L st S Q) 0) : V MX11_act h 0 L st S Q :=
  v_aload_n dX11_act_0 rfl (fun L st S k => k) k
theorem k_X11_act_1 {h : Nat} {L : LVs} {st : List AV} {S : ST} {Q Q' : Option AV → ST → Prop} {j : Nat} (hC : Ct MX11_cut h [vR 11 j] S Q') (k : ∀ (r : Option AV) (S' : ST), Q' r S' → V MX11_act (h + 1) 4 L (r.toList ++ st) S' Q) (hj : j < NI 11) (hw : wid st ≤ 8) : V MX11_act (h + 1) 1 L (vR 11 j :: st) S Q :=
  v_callV (M' := MX11_cut) (c := 11) (As := []) dX11_act_1 ml_X11_319 im_X11_cut se_X11_cut in_X11 cd_X11_cut rfl LY_11 np_X11_cut (by decide) hw hj hC k
theorem b_X11_act_4 {h : Nat} {L : LVs} {st : List AV} {S : ST} {Q : Option AV → ST → Prop} (k : o_al L st S (fun L st S => o_c L st S (fun L st S => o_puti L st S (fun L st S => o_al L st S (fun L st S => o_c L st S (fun L st S => o_puti L st S (fun L st S => o_al L st S (fun L st S => o_c L st S (fun L st S => o_puti L st S (fun L st S => o_al L st S (fun L st S => o_c L st S (fun L st S => o_puti L st S (fun L st S => o_al L st S (fun L st S => o_c L st S (fun L st S => o_puti L st S (fun L st S => o_al L st S (fun L st S => o_c L st S (fun L st S => o_puti L st S (fun L st S => o_al L st S (fun L st S => o_get L st S (fun L st S => o_c L st S (fun L st S => o_c L st S (fun L st S => o_iast L st S (fun L st S => o_al L st S (fun L st S => o_get L st S (fun L st S => o_c L st S (fun L st S => o_iald L st S (fun L st S => o_is L st S (fun L st S => o_al L st S (fun L st S => o_c L st S (fun L st S => o_puti L st S (fun L st S => o_c L st S (fun L st S => o_is L st S (fun L st S => o_il L st S (fun L st S => t_1 L st S (fun x => x = nI 0) (fun L st S => V MX11_act h 59 L st S Q) (fun L st S => V MX11_act h 67 L st S Q)) 1) 2) (nI 0)) 11 5) (nI 1)) 0) 1)) (nI 0)) 11 2 (3, 41, 0)) 0)) (-1)) (nI 0)) 11 26 (3, 58, 0)) 0) 11 24) (nI 0)) 0) 11 28) (nI 0)) 0) 11 15) (nI 0)) 0) 11 7) (nI 0)) 0) 11 6) (-1)) 0) 11 5) (nI 0)) 0) : V MX11_act h 4 L st S Q :=
  v_aload_n dX11_act_4 rfl (fun L st S k => v_iconst dX11_act_5 (by decide) (fun L st S k => v_puti dX11_act_6 rfl iX11 tyX11_ok nmX11 LY_11 rfl (by decide) rfl fl_X11_172 rfl rfl (fun L st S k => v_aload_n dX11_act_9 rfl (fun L st S k => v_iconst dX11_act_10 (by decide) (fun L st S k => v_puti dX11_act_11 rfl iX11 tyX11_ok nmX11 LY_11 rfl (by decide) rfl fl_X11_169 rfl rfl (fun L st S k => v_aload_n dX11_act_14 rfl (fun L st S k => v_iconst dX11_act_15 (by decide) (fun L st S k => v_puti dX11_act_16 rfl iX11 tyX11_ok nmX11 LY_11 rfl (by decide) rfl fl_X11_178 rfl rfl (fun L st S k => v_aload_n dX11_act_19 rfl (fun L st S k => v_iconst dX11_act_20 (by decide) (fun L st S k => v_puti dX11_act_21 rfl iX11 tyX11_ok nmX11 LY_11 rfl (by decide) rfl fl_X11_175 rfl rfl (fun L st S k => v_aload_n dX11_act_24 rfl (fun L st S k => v_iconst dX11_act_25 (by decide) (fun L st S k => v_puti dX11_act_26 rfl iX11 tyX11_ok nmX11 LY_11 rfl (by decide) rfl fl_X11_219 rfl rfl (fun L st S k => v_aload_n dX11_act_29 rfl (fun L st S k => v_iconst dX11_act_30 (by decide) (fun L st S k => v_puti dX11_act_31 rfl iX11 tyX11_ok nmX11 LY_11 rfl (by decide) rfl fl_X11_222 rfl rfl (fun L st S k => v_aload_n dX11_act_34 rfl (fun L st S k => v_get dX11_act_35 rfl iX11 LY_11 rfl (by decide) rfl fl_X11_66 (fun L st S k => v_iconst dX11_act_38 (by decide) (fun L st S k => v_iconst dX11_act_39 (by decide) (fun L st S k => v_iastore dX11_act_40 (fun L st S k => v_aload_n dX11_act_41 rfl (fun L st S k => v_get dX11_act_42 rfl iX11 LY_11 rfl (by decide) rfl fl_X11_13 (fun L st S k => v_iconst dX11_act_45 (by decide) (fun L st S k => v_iaload dX11_act_46 (fun L st S k => v_istore_n dX11_act_47 rfl (by decide) (fun L st S k => v_aload_n dX11_act_48 rfl (fun L st S k => v_iconst dX11_act_49 (by decide) (fun L st S k => v_puti dX11_act_50 rfl iX11 tyX11_ok nmX11 LY_11 rfl (by decide) rfl fl_X11_172 rfl rfl (fun L st S k => v_iconst dX11_act_53 (by decide) (fun L st S k => v_istore_n dX11_act_54 rfl (by decide) (fun L st S k => v_iload_n dX11_act_55 rfl (fun L st S k => w_if_ne dX11_act_56 (by decide) rfl k) k) k) k) k) k) k) k) k) k) k) k) k) k) k) k) k) k) k) k) k) k) k) k) k) k) k) k) k) k) k) k) k) k) k
theorem b_X11_act_59 {h : Nat} {L : LVs} {st : List AV} {S : ST} {Q : Option AV → ST → Prop} (k : o_al L st S (fun L st S => V MX11_act h 60 L st S Q) 0) : V MX11_act h 59 L st S Q :=
  v_aload_n dX11_act_59 rfl (fun L st S k => k) k
theorem k_X11_act_60 {h : Nat} {L : LVs} {st : List AV} {S : ST} {Q Q' : Option AV → ST → Prop} {j : Nat} (hC : Ct MX11_create h [vR 11 j] S Q') (k : ∀ (r : Option AV) (S' : ST), Q' r S' → V MX11_act (h + 1) 63 L (r.toList ++ st) S' Q) (hj : j < NI 11) (hw : wid st ≤ 8) : V MX11_act (h + 1) 60 L (vR 11 j :: st) S Q :=
  v_callV (M' := MX11_create) (c := 11) (As := []) dX11_act_60 ml_X11_322 im_X11_create se_X11_create in_X11 cd_X11_create rfl LY_11 np_X11_create (by decide) hw hj hC k
theorem b_X11_act_63 {h : Nat} {L : LVs} {st : List AV} {S : ST} {Q : Option AV → ST → Prop} (k : o_is L st S (fun L st S => V MX11_act h 124 L st S Q) 2) : V MX11_act h 63 L st S Q :=
  v_istore_n dX11_act_63 rfl (by decide) (fun L st S k => v_goto dX11_act_64 (by decide) k) k
theorem b_X11_act_67 {h : Nat} {L : LVs} {st : List AV} {S : ST} {Q : Option AV → ST → Prop} (k : o_il L st S (fun L st S => o_c L st S (fun L st S => t_2 L st S (fun x y => x = y) (fun L st S => V MX11_act h 72 L st S Q) (fun L st S => V MX11_act h 80 L st S Q)) (nI 1)) 1) : V MX11_act h 67 L st S Q :=
  v_iload_n dX11_act_67 rfl (fun L st S k => v_iconst dX11_act_68 (by decide) (fun L st S k => w_icmp_ne dX11_act_69 (by decide) rfl k) k) k
theorem b_X11_act_72 {h : Nat} {L : LVs} {st : List AV} {S : ST} {Q : Option AV → ST → Prop} (k : o_al L st S (fun L st S => V MX11_act h 73 L st S Q) 0) : V MX11_act h 72 L st S Q :=
  v_aload_n dX11_act_72 rfl (fun L st S k => k) k
theorem k_X11_act_73 {h : Nat} {L : LVs} {st : List AV} {S : ST} {Q Q' : Option AV → ST → Prop} {j : Nat} (hC : Ct MX11_insert h [vR 11 j] S Q') (k : ∀ (r : Option AV) (S' : ST), Q' r S' → V MX11_act (h + 1) 76 L (r.toList ++ st) S' Q) (hj : j < NI 11) (hw : wid st ≤ 8) : V MX11_act (h + 1) 73 L (vR 11 j :: st) S Q :=
  v_callV (M' := MX11_insert) (c := 11) (As := []) dX11_act_73 ml_X11_325 im_X11_insert se_X11_insert in_X11 cd_X11_insert rfl LY_11 np_X11_insert (by decide) hw hj hC k
theorem b_X11_act_76 {h : Nat} {L : LVs} {st : List AV} {S : ST} {Q : Option AV → ST → Prop} (k : o_is L st S (fun L st S => V MX11_act h 124 L st S Q) 2) : V MX11_act h 76 L st S Q :=
  v_istore_n dX11_act_76 rfl (by decide) (fun L st S k => v_goto dX11_act_77 (by decide) k) k
theorem b_X11_act_80 {h : Nat} {L : LVs} {st : List AV} {S : ST} {Q : Option AV → ST → Prop} (k : o_il L st S (fun L st S => o_c L st S (fun L st S => t_2 L st S (fun x y => x = y) (fun L st S => V MX11_act h 85 L st S Q) (fun L st S => V MX11_act h 93 L st S Q)) (nI 2)) 1) : V MX11_act h 80 L st S Q :=
  v_iload_n dX11_act_80 rfl (fun L st S k => v_iconst dX11_act_81 (by decide) (fun L st S k => w_icmp_ne dX11_act_82 (by decide) rfl k) k) k
theorem b_X11_act_85 {h : Nat} {L : LVs} {st : List AV} {S : ST} {Q : Option AV → ST → Prop} (k : o_al L st S (fun L st S => V MX11_act h 86 L st S Q) 0) : V MX11_act h 85 L st S Q :=
  v_aload_n dX11_act_85 rfl (fun L st S k => k) k
theorem k_X11_act_86 {h : Nat} {L : LVs} {st : List AV} {S : ST} {Q Q' : Option AV → ST → Prop} {j : Nat} (hC : Ct MX11_delete h [vR 11 j] S Q') (k : ∀ (r : Option AV) (S' : ST), Q' r S' → V MX11_act (h + 1) 89 L (r.toList ++ st) S' Q) (hj : j < NI 11) (hw : wid st ≤ 8) : V MX11_act (h + 1) 86 L (vR 11 j :: st) S Q :=
  v_callV (M' := MX11_delete) (c := 11) (As := []) dX11_act_86 ml_X11_328 im_X11_delete se_X11_delete in_X11 cd_X11_delete rfl LY_11 np_X11_delete (by decide) hw hj hC k
theorem b_X11_act_89 {h : Nat} {L : LVs} {st : List AV} {S : ST} {Q : Option AV → ST → Prop} (k : o_is L st S (fun L st S => V MX11_act h 124 L st S Q) 2) : V MX11_act h 89 L st S Q :=
  v_istore_n dX11_act_89 rfl (by decide) (fun L st S k => v_goto dX11_act_90 (by decide) k) k
theorem b_X11_act_93 {h : Nat} {L : LVs} {st : List AV} {S : ST} {Q : Option AV → ST → Prop} (k : o_il L st S (fun L st S => o_c L st S (fun L st S => t_2 L st S (fun x y => x = y) (fun L st S => V MX11_act h 98 L st S Q) (fun L st S => V MX11_act h 106 L st S Q)) (nI 3)) 1) : V MX11_act h 93 L st S Q :=
  v_iload_n dX11_act_93 rfl (fun L st S k => v_iconst dX11_act_94 (by decide) (fun L st S k => w_icmp_ne dX11_act_95 (by decide) rfl k) k) k
theorem b_X11_act_98 {h : Nat} {L : LVs} {st : List AV} {S : ST} {Q : Option AV → ST → Prop} (k : o_al L st S (fun L st S => V MX11_act h 99 L st S Q) 0) : V MX11_act h 98 L st S Q :=
  v_aload_n dX11_act_98 rfl (fun L st S k => k) k
theorem k_X11_act_99 {h : Nat} {L : LVs} {st : List AV} {S : ST} {Q Q' : Option AV → ST → Prop} {j : Nat} (hC : Ct MX11_update h [vR 11 j] S Q') (k : ∀ (r : Option AV) (S' : ST), Q' r S' → V MX11_act (h + 1) 102 L (r.toList ++ st) S' Q) (hj : j < NI 11) (hw : wid st ≤ 8) : V MX11_act (h + 1) 99 L (vR 11 j :: st) S Q :=
  v_callV (M' := MX11_update) (c := 11) (As := []) dX11_act_99 ml_X11_331 im_X11_update se_X11_update in_X11 cd_X11_update rfl LY_11 np_X11_update (by decide) hw hj hC k
theorem b_X11_act_102 {h : Nat} {L : LVs} {st : List AV} {S : ST} {Q : Option AV → ST → Prop} (k : o_is L st S (fun L st S => V MX11_act h 124 L st S Q) 2) : V MX11_act h 102 L st S Q :=
  v_istore_n dX11_act_102 rfl (by decide) (fun L st S k => v_goto dX11_act_103 (by decide) k) k
theorem b_X11_act_106 {h : Nat} {L : LVs} {st : List AV} {S : ST} {Q : Option AV → ST → Prop} (k : o_il L st S (fun L st S => o_c L st S (fun L st S => t_2 L st S (fun x y => x = y) (fun L st S => V MX11_act h 111 L st S Q) (fun L st S => V MX11_act h 119 L st S Q)) (nI 5)) 1) : V MX11_act h 106 L st S Q :=
  v_iload_n dX11_act_106 rfl (fun L st S k => v_iconst dX11_act_107 (by decide) (fun L st S k => w_icmp_ne dX11_act_108 (by decide) rfl k) k) k
theorem b_X11_act_111 {h : Nat} {L : LVs} {st : List AV} {S : ST} {Q : Option AV → ST → Prop} (k : o_al L st S (fun L st S => V MX11_act h 112 L st S Q) 0) : V MX11_act h 111 L st S Q :=
  v_aload_n dX11_act_111 rfl (fun L st S k => k) k
theorem k_X11_act_112 {h : Nat} {L : LVs} {st : List AV} {S : ST} {Q Q' : Option AV → ST → Prop} {j : Nat} (hC : Ct MX11_select h [vR 11 j] S Q') (k : ∀ (r : Option AV) (S' : ST), Q' r S' → V MX11_act (h + 1) 115 L (r.toList ++ st) S' Q) (hj : j < NI 11) (hw : wid st ≤ 8) : V MX11_act (h + 1) 112 L (vR 11 j :: st) S Q :=
  v_callV (M' := MX11_select) (c := 11) (As := []) dX11_act_112 ml_X11_334 im_X11_select se_X11_select in_X11 cd_X11_select rfl LY_11 np_X11_select (by decide) hw hj hC k
theorem b_X11_act_115 {h : Nat} {L : LVs} {st : List AV} {S : ST} {Q : Option AV → ST → Prop} (k : o_is L st S (fun L st S => V MX11_act h 124 L st S Q) 2) : V MX11_act h 115 L st S Q :=
  v_istore_n dX11_act_115 rfl (by decide) (fun L st S k => v_goto dX11_act_116 (by decide) k) k
theorem b_X11_act_119 {h : Nat} {L : LVs} {st : List AV} {S : ST} {Q : Option AV → ST → Prop} (k : o_al L st S (fun L st S => o_c L st S (fun L st S => o_puti L st S (fun L st S => V MX11_act h 124 L st S Q) 11 6) (nI 0)) 0) : V MX11_act h 119 L st S Q :=
  v_aload_n dX11_act_119 rfl (fun L st S k => v_iconst dX11_act_120 (by decide) (fun L st S k => v_puti dX11_act_121 rfl iX11 tyX11_ok nmX11 LY_11 rfl (by decide) rfl fl_X11_169 rfl rfl (fun L st S k => k) k) k) k
theorem b_X11_act_124 {h : Nat} {L : LVs} {st : List AV} {S : ST} {Q : Option AV → ST → Prop} (k : o_al L st S (fun L st S => o_c L st S (fun L st S => o_puti L st S (fun L st S => o_al L st S (fun L st S => o_get L st S (fun L st S => t_1 L st S (fun x => x < nI 0) (fun L st S => V MX11_act h 145 L st S Q) (fun L st S => V MX11_act h 136 L st S Q)) 11 6 (0, 0, 0)) 0) 11 1) (nI 0)) 0) : V MX11_act h 124 L st S Q :=
  v_aload_n dX11_act_124 rfl (fun L st S k => v_iconst dX11_act_125 (by decide) (fun L st S k => v_puti dX11_act_126 rfl iX11 tyX11_ok nmX11 LY_11 rfl (by decide) rfl fl_X11_102 rfl rfl (fun L st S k => v_aload_n dX11_act_129 rfl (fun L st S k => v_get dX11_act_130 rfl iX11 LY_11 rfl (by decide) rfl fl_X11_169 (fun L st S k => w_if_lt dX11_act_133 (by decide) rfl k) k) k) k) k) k
theorem b_X11_act_136 {h : Nat} {L : LVs} {st : List AV} {S : ST} {Q : Option AV → ST → Prop} (k : o_c L st S (fun L st S => o_al L st S (fun L st S => o_get L st S (fun L st S => o_isub L st S (fun L st S => V MX11_act h 160 L st S Q)) 11 6 (0, 0, 0)) 0) (-1)) : V MX11_act h 136 L st S Q :=
  v_iconst dX11_act_136 (by decide) (fun L st S k => v_aload_n dX11_act_137 rfl (fun L st S k => v_get dX11_act_138 rfl iX11 LY_11 rfl (by decide) rfl fl_X11_169 (fun L st S k => v_isub dX11_act_141 (fun L st S k => v_goto dX11_act_142 (by decide) k) k) k) k) k
theorem b_X11_act_145 {h : Nat} {L : LVs} {st : List AV} {S : ST} {Q : Option AV → ST → Prop} (k : o_al L st S (fun L st S => o_get L st S (fun L st S => t_1 L st S (fun x => x = nI 0) (fun L st S => V MX11_act h 159 L st S Q) (fun L st S => V MX11_act h 152 L st S Q)) 11 28 (0, 0, 0)) 0) : V MX11_act h 145 L st S Q :=
  v_aload_n dX11_act_145 rfl (fun L st S k => v_get dX11_act_146 rfl iX11 LY_11 rfl (by decide) rfl fl_X11_219 (fun L st S k => w_if_eq dX11_act_149 (by decide) rfl k) k) k
theorem b_X11_act_152 {h : Nat} {L : LVs} {st : List AV} {S : ST} {Q : Option AV → ST → Prop} (k : o_al L st S (fun L st S => o_get L st S (fun L st S => V MX11_act h 160 L st S Q) 11 28 (0, 0, 0)) 0) : V MX11_act h 152 L st S Q :=
  v_aload_n dX11_act_152 rfl (fun L st S k => v_get dX11_act_153 rfl iX11 LY_11 rfl (by decide) rfl fl_X11_219 (fun L st S k => v_goto dX11_act_156 (by decide) k) k) k
theorem b_X11_act_159 {h : Nat} {L : LVs} {st : List AV} {S : ST} {Q : Option AV → ST → Prop} (k : o_il L st S (fun L st S => V MX11_act h 160 L st S Q) 2) : V MX11_act h 159 L st S Q :=
  v_iload_n dX11_act_159 rfl (fun L st S k => k) k
theorem b_X11_act_160 {h : Nat} {L : LVs} {st : List AV} {S : ST} {Q : Option AV → ST → Prop} (k : t_ir st S Q) : V MX11_act h 160 L st S Q :=
  w_ir dX11_act_160 rfl k
-- QueryForgeModel.rows()I
theorem dX11_rows_0 : decode cX11_rows 0 = .ok (.aload_n 0, 1) := by decide +kernel
theorem dX11_rows_1 : decode cX11_rows 1 = .ok (.getfield 302, 3) := by decide +kernel
theorem dX11_rows_4 : decode cX11_rows 4 = .ok (.ireturn, 1) := by decide +kernel
theorem b_X11_rows_0 {h : Nat} {L : LVs} {st : List AV} {S : ST} {Q : Option AV → ST → Prop} (k : o_al L st S (fun L st S => o_get L st S (fun L st S => t_ir st S Q) 11 30 (0, 0, 0)) 0) : V MX11_rows h 0 L st S Q :=
  v_aload_n dX11_rows_0 rfl (fun L st S k => v_get dX11_rows_1 rfl iX11 LY_11 rfl (by decide) rfl fl_X11_302 (fun L st S k => w_ir dX11_rows_4 rfl k) k) k
-- QueryForgeModel.items()I
theorem dX11_items_0 : decode cX11_items 0 = .ok (.aload_n 0, 1) := by decide +kernel
theorem dX11_items_1 : decode cX11_items 1 = .ok (.getfield 305, 3) := by decide +kernel
theorem dX11_items_4 : decode cX11_items 4 = .ok (.ireturn, 1) := by decide +kernel
theorem b_X11_items_0 {h : Nat} {L : LVs} {st : List AV} {S : ST} {Q : Option AV → ST → Prop} (k : o_al L st S (fun L st S => o_get L st S (fun L st S => t_ir st S Q) 11 31 (0, 0, 0)) 0) : V MX11_items h 0 L st S Q :=
  v_aload_n dX11_items_0 rfl (fun L st S k => v_get dX11_items_1 rfl iX11 LY_11 rfl (by decide) rfl fl_X11_305 (fun L st S k => w_ir dX11_items_4 rfl k) k) k
-- QueryForgeModel.isThere(II)Z
theorem dX11_isThere_0 : decode cX11_isThere 0 = .ok (.iload_n 1, 1) := by decide +kernel
theorem dX11_isThere_1 : decode cX11_isThere 1 = .ok (.ifCond .lt 27, 3) := by decide +kernel
theorem dX11_isThere_4 : decode cX11_isThere 4 = .ok (.iload_n 1, 1) := by decide +kernel
theorem dX11_isThere_5 : decode cX11_isThere 5 = .ok (.aload_n 0, 1) := by decide +kernel
theorem dX11_isThere_6 : decode cX11_isThere 6 = .ok (.getfield 302, 3) := by decide +kernel
theorem dX11_isThere_9 : decode cX11_isThere 9 = .ok (.if_icmp .ge 19, 3) := by decide +kernel
theorem dX11_isThere_12 : decode cX11_isThere 12 = .ok (.iload_n 2, 1) := by decide +kernel
theorem dX11_isThere_13 : decode cX11_isThere 13 = .ok (.ifCond .lt 15, 3) := by decide +kernel
theorem dX11_isThere_16 : decode cX11_isThere 16 = .ok (.iload_n 2, 1) := by decide +kernel
theorem dX11_isThere_17 : decode cX11_isThere 17 = .ok (.aload_n 0, 1) := by decide +kernel
theorem dX11_isThere_18 : decode cX11_isThere 18 = .ok (.getfield 305, 3) := by decide +kernel
theorem dX11_isThere_21 : decode cX11_isThere 21 = .ok (.if_icmp .ge 7, 3) := by decide +kernel
theorem dX11_isThere_24 : decode cX11_isThere 24 = .ok (.iconst 1, 1) := by decide +kernel
theorem dX11_isThere_25 : decode cX11_isThere 25 = .ok (.goto 4, 3) := by decide +kernel
theorem dX11_isThere_28 : decode cX11_isThere 28 = .ok (.iconst 0, 1) := by decide +kernel
theorem dX11_isThere_29 : decode cX11_isThere 29 = .ok (.ireturn, 1) := by decide +kernel
theorem b_X11_isThere_0 {h : Nat} {L : LVs} {st : List AV} {S : ST} {Q : Option AV → ST → Prop} (k : o_il L st S (fun L st S => t_1 L st S (fun x => x < nI 0) (fun L st S => V MX11_isThere h 28 L st S Q) (fun L st S => V MX11_isThere h 4 L st S Q)) 1) : V MX11_isThere h 0 L st S Q :=
  v_iload_n dX11_isThere_0 rfl (fun L st S k => w_if_lt dX11_isThere_1 (by decide) rfl k) k
theorem b_X11_isThere_4 {h : Nat} {L : LVs} {st : List AV} {S : ST} {Q : Option AV → ST → Prop} (k : o_il L st S (fun L st S => o_al L st S (fun L st S => o_get L st S (fun L st S => t_2 L st S (fun x y => y ≤ x) (fun L st S => V MX11_isThere h 28 L st S Q) (fun L st S => V MX11_isThere h 12 L st S Q)) 11 30 (0, 0, 0)) 0) 1) : V MX11_isThere h 4 L st S Q :=
  v_iload_n dX11_isThere_4 rfl (fun L st S k => v_aload_n dX11_isThere_5 rfl (fun L st S k => v_get dX11_isThere_6 rfl iX11 LY_11 rfl (by decide) rfl fl_X11_302 (fun L st S k => w_icmp_ge dX11_isThere_9 (by decide) rfl k) k) k) k
theorem b_X11_isThere_12 {h : Nat} {L : LVs} {st : List AV} {S : ST} {Q : Option AV → ST → Prop} (k : o_il L st S (fun L st S => t_1 L st S (fun x => x < nI 0) (fun L st S => V MX11_isThere h 28 L st S Q) (fun L st S => V MX11_isThere h 16 L st S Q)) 2) : V MX11_isThere h 12 L st S Q :=
  v_iload_n dX11_isThere_12 rfl (fun L st S k => w_if_lt dX11_isThere_13 (by decide) rfl k) k
theorem b_X11_isThere_16 {h : Nat} {L : LVs} {st : List AV} {S : ST} {Q : Option AV → ST → Prop} (k : o_il L st S (fun L st S => o_al L st S (fun L st S => o_get L st S (fun L st S => t_2 L st S (fun x y => y ≤ x) (fun L st S => V MX11_isThere h 28 L st S Q) (fun L st S => V MX11_isThere h 24 L st S Q)) 11 31 (0, 0, 0)) 0) 2) : V MX11_isThere h 16 L st S Q :=
  v_iload_n dX11_isThere_16 rfl (fun L st S k => v_aload_n dX11_isThere_17 rfl (fun L st S k => v_get dX11_isThere_18 rfl iX11 LY_11 rfl (by decide) rfl fl_X11_305 (fun L st S k => w_icmp_ge dX11_isThere_21 (by decide) rfl k) k) k) k
theorem b_X11_isThere_24 {h : Nat} {L : LVs} {st : List AV} {S : ST} {Q : Option AV → ST → Prop} (k : o_c L st S (fun L st S => V MX11_isThere h 29 L st S Q) (nI 1)) : V MX11_isThere h 24 L st S Q :=
  v_iconst dX11_isThere_24 (by decide) (fun L st S k => v_goto dX11_isThere_25 (by decide) k) k
theorem b_X11_isThere_28 {h : Nat} {L : LVs} {st : List AV} {S : ST} {Q : Option AV → ST → Prop} (k : o_c L st S (fun L st S => V MX11_isThere h 29 L st S Q) (nI 0)) : V MX11_isThere h 28 L st S Q :=
  v_iconst dX11_isThere_28 (by decide) (fun L st S k => k) k
theorem b_X11_isThere_29 {h : Nat} {L : LVs} {st : List AV} {S : ST} {Q : Option AV → ST → Prop} (k : t_zr st S Q) : V MX11_isThere h 29 L st S Q :=
  w_zr dX11_isThere_29 rfl k
-- QueryForgeModel.value(II)I
theorem dX11_value_0 : decode cX11_value 0 = .ok (.aload_n 0, 1) := by decide +kernel
theorem dX11_value_1 : decode cX11_value 1 = .ok (.iload_n 1, 1) := by decide +kernel
theorem dX11_value_2 : decode cX11_value 2 = .ok (.iload_n 2, 1) := by decide +kernel
theorem dX11_value_3 : decode cX11_value 3 = .ok (.invokevirtual 337, 3) := by decide +kernel
theorem dX11_value_6 : decode cX11_value 6 = .ok (.ifCond .eq 16, 3) := by decide +kernel
theorem dX11_value_9 : decode cX11_value 9 = .ok (.aload_n 0, 1) := by decide +kernel
theorem dX11_value_10 : decode cX11_value 10 = .ok (.getfield 72, 3) := by decide +kernel
theorem dX11_value_13 : decode cX11_value 13 = .ok (.iconst 4, 1) := by decide +kernel
theorem dX11_value_14 : decode cX11_value 14 = .ok (.iload_n 1, 1) := by decide +kernel
theorem dX11_value_15 : decode cX11_value 15 = .ok (.imul, 1) := by decide +kernel
theorem dX11_value_16 : decode cX11_value 16 = .ok (.iload_n 2, 1) := by decide +kernel
theorem dX11_value_17 : decode cX11_value 17 = .ok (.iadd, 1) := by decide +kernel
theorem dX11_value_18 : decode cX11_value 18 = .ok (.iaload, 1) := by decide +kernel
theorem dX11_value_19 : decode cX11_value 19 = .ok (.goto 4, 3) := by decide +kernel
theorem dX11_value_22 : decode cX11_value 22 = .ok (.iconst (-1), 1) := by decide +kernel
theorem dX11_value_23 : decode cX11_value 23 = .ok (.ireturn, 1) := by decide +kernel
theorem b_X11_value_0 {h : Nat} {L : LVs} {st : List AV} {S : ST} {Q : Option AV → ST → Prop} (k : o_al L st S (fun L st S => o_il L st S (fun L st S => o_il L st S (fun L st S => V MX11_value h 3 L st S Q) 2) 1) 0) : V MX11_value h 0 L st S Q :=
  v_aload_n dX11_value_0 rfl (fun L st S k => v_iload_n dX11_value_1 rfl (fun L st S k => v_iload_n dX11_value_2 rfl (fun L st S k => k) k) k) k
theorem k_X11_value_3 {h : Nat} {L : LVs} {st : List AV} {S : ST} {Q Q' : Option AV → ST → Prop} {j : Nat} {a0 a1 : AV} (hC : Ct MX11_isThere h [vR 11 j, a0, a1] S Q') (k : ∀ (r : Option AV) (S' : ST), Q' r S' → V MX11_value (h + 1) 6 L (r.toList ++ st) S' Q) (hj : j < NI 11) (hw : wid st ≤ 8) : V MX11_value (h + 1) 3 L (a1 :: a0 :: vR 11 j :: st) S Q :=
  v_callV (M' := MX11_isThere) (c := 11) (As := [a0, a1]) dX11_value_3 ml_X11_337 im_X11_isThere se_X11_isThere in_X11 cd_X11_isThere rfl LY_11 np_X11_isThere (by decide) hw hj hC k
theorem b_X11_value_6 {h : Nat} {L : LVs} {st : List AV} {S : ST} {Q : Option AV → ST → Prop} (k : t_1 L st S (fun x => x = nI 0) (fun L st S => V MX11_value h 22 L st S Q) (fun L st S => V MX11_value h 9 L st S Q)) : V MX11_value h 6 L st S Q :=
  w_if_eq dX11_value_6 (by decide) rfl k
theorem b_X11_value_9 {h : Nat} {L : LVs} {st : List AV} {S : ST} {Q : Option AV → ST → Prop} (k : o_al L st S (fun L st S => o_get L st S (fun L st S => o_c L st S (fun L st S => o_il L st S (fun L st S => o_imul L st S (fun L st S => o_il L st S (fun L st S => o_iadd L st S (fun L st S => o_iald L st S (fun L st S => V MX11_value h 23 L st S Q))) 2)) 1) (nI 4)) 11 32 (3, 60, 0)) 0) : V MX11_value h 9 L st S Q :=
  v_aload_n dX11_value_9 rfl (fun L st S k => v_get dX11_value_10 rfl iX11 LY_11 rfl (by decide) rfl fl_X11_72 (fun L st S k => v_iconst dX11_value_13 (by decide) (fun L st S k => v_iload_n dX11_value_14 rfl (fun L st S k => v_imul dX11_value_15 (fun L st S k => v_iload_n dX11_value_16 rfl (fun L st S k => v_iadd dX11_value_17 (fun L st S k => v_iaload dX11_value_18 (fun L st S k => v_goto dX11_value_19 (by decide) k) k) k) k) k) k) k) k) k
theorem b_X11_value_22 {h : Nat} {L : LVs} {st : List AV} {S : ST} {Q : Option AV → ST → Prop} (k : o_c L st S (fun L st S => V MX11_value h 23 L st S Q) (-1)) : V MX11_value h 22 L st S Q :=
  v_iconst dX11_value_22 (by decide) (fun L st S k => k) k
theorem b_X11_value_23 {h : Nat} {L : LVs} {st : List AV} {S : ST} {Q : Option AV → ST → Prop} (k : t_ir st S Q) : V MX11_value h 23 L st S Q :=
  w_ir dX11_value_23 rfl k
-- QueryForgeModel.isNull(II)Z
theorem dX11_isNull_0 : decode cX11_isNull 0 = .ok (.aload_n 0, 1) := by decide +kernel
theorem dX11_isNull_1 : decode cX11_isNull 1 = .ok (.iload_n 1, 1) := by decide +kernel
theorem dX11_isNull_2 : decode cX11_isNull 2 = .ok (.iload_n 2, 1) := by decide +kernel
theorem dX11_isNull_3 : decode cX11_isNull 3 = .ok (.invokevirtual 337, 3) := by decide +kernel
theorem dX11_isNull_6 : decode cX11_isNull 6 = .ok (.ifCond .eq 20, 3) := by decide +kernel
theorem dX11_isNull_9 : decode cX11_isNull 9 = .ok (.aload_n 0, 1) := by decide +kernel
theorem dX11_isNull_10 : decode cX11_isNull 10 = .ok (.getfield 75, 3) := by decide +kernel
theorem dX11_isNull_13 : decode cX11_isNull 13 = .ok (.iconst 4, 1) := by decide +kernel
theorem dX11_isNull_14 : decode cX11_isNull 14 = .ok (.iload_n 1, 1) := by decide +kernel
theorem dX11_isNull_15 : decode cX11_isNull 15 = .ok (.imul, 1) := by decide +kernel
theorem dX11_isNull_16 : decode cX11_isNull 16 = .ok (.iload_n 2, 1) := by decide +kernel
theorem dX11_isNull_17 : decode cX11_isNull 17 = .ok (.iadd, 1) := by decide +kernel
theorem dX11_isNull_18 : decode cX11_isNull 18 = .ok (.baload, 1) := by decide +kernel
theorem dX11_isNull_19 : decode cX11_isNull 19 = .ok (.ifCond .eq 7, 3) := by decide +kernel
theorem dX11_isNull_22 : decode cX11_isNull 22 = .ok (.iconst 1, 1) := by decide +kernel
theorem dX11_isNull_23 : decode cX11_isNull 23 = .ok (.goto 4, 3) := by decide +kernel
theorem dX11_isNull_26 : decode cX11_isNull 26 = .ok (.iconst 0, 1) := by decide +kernel
theorem dX11_isNull_27 : decode cX11_isNull 27 = .ok (.ireturn, 1) := by decide +kernel
theorem b_X11_isNull_0 {h : Nat} {L : LVs} {st : List AV} {S : ST} {Q : Option AV → ST → Prop} (k : o_al L st S (fun L st S => o_il L st S (fun L st S => o_il L st S (fun L st S => V MX11_isNull h 3 L st S Q) 2) 1) 0) : V MX11_isNull h 0 L st S Q :=
  v_aload_n dX11_isNull_0 rfl (fun L st S k => v_iload_n dX11_isNull_1 rfl (fun L st S k => v_iload_n dX11_isNull_2 rfl (fun L st S k => k) k) k) k
theorem k_X11_isNull_3 {h : Nat} {L : LVs} {st : List AV} {S : ST} {Q Q' : Option AV → ST → Prop} {j : Nat} {a0 a1 : AV} (hC : Ct MX11_isThere h [vR 11 j, a0, a1] S Q') (k : ∀ (r : Option AV) (S' : ST), Q' r S' → V MX11_isNull (h + 1) 6 L (r.toList ++ st) S' Q) (hj : j < NI 11) (hw : wid st ≤ 8) : V MX11_isNull (h + 1) 3 L (a1 :: a0 :: vR 11 j :: st) S Q :=
  v_callV (M' := MX11_isThere) (c := 11) (As := [a0, a1]) dX11_isNull_3 ml_X11_337 im_X11_isThere se_X11_isThere in_X11 cd_X11_isThere rfl LY_11 np_X11_isThere (by decide) hw hj hC k
theorem b_X11_isNull_6 {h : Nat} {L : LVs} {st : List AV} {S : ST} {Q : Option AV → ST → Prop} (k : t_1 L st S (fun x => x = nI 0) (fun L st S => V MX11_isNull h 26 L st S Q) (fun L st S => V MX11_isNull h 9 L st S Q)) : V MX11_isNull h 6 L st S Q :=
  w_if_eq dX11_isNull_6 (by decide) rfl k
theorem b_X11_isNull_9 {h : Nat} {L : LVs} {st : List AV} {S : ST} {Q : Option AV → ST → Prop} (k : o_al L st S (fun L st S => o_get L st S (fun L st S => o_c L st S (fun L st S => o_il L st S (fun L st S => o_imul L st S (fun L st S => o_il L st S (fun L st S => o_iadd L st S (fun L st S => o_zald L st S (fun L st S => t_1 L st S (fun x => x = nI 0) (fun L st S => V MX11_isNull h 26 L st S Q) (fun L st S => V MX11_isNull h 22 L st S Q)))) 2)) 1) (nI 4)) 11 33 (3, 61, 0)) 0) : V MX11_isNull h 9 L st S Q :=
  v_aload_n dX11_isNull_9 rfl (fun L st S k => v_get dX11_isNull_10 rfl iX11 LY_11 rfl (by decide) rfl fl_X11_75 (fun L st S k => v_iconst dX11_isNull_13 (by decide) (fun L st S k => v_iload_n dX11_isNull_14 rfl (fun L st S k => v_imul dX11_isNull_15 (fun L st S k => v_iload_n dX11_isNull_16 rfl (fun L st S k => v_iadd dX11_isNull_17 (fun L st S k => v_zaload dX11_isNull_18 (fun L st S k => w_if_eq dX11_isNull_19 (by decide) rfl k) k) k) k) k) k) k) k) k
theorem b_X11_isNull_22 {h : Nat} {L : LVs} {st : List AV} {S : ST} {Q : Option AV → ST → Prop} (k : o_c L st S (fun L st S => V MX11_isNull h 27 L st S Q) (nI 1)) : V MX11_isNull h 22 L st S Q :=
  v_iconst dX11_isNull_22 (by decide) (fun L st S k => v_goto dX11_isNull_23 (by decide) k) k
theorem b_X11_isNull_26 {h : Nat} {L : LVs} {st : List AV} {S : ST} {Q : Option AV → ST → Prop} (k : o_c L st S (fun L st S => V MX11_isNull h 27 L st S Q) (nI 0)) : V MX11_isNull h 26 L st S Q :=
  v_iconst dX11_isNull_26 (by decide) (fun L st S k => k) k
theorem b_X11_isNull_27 {h : Nat} {L : LVs} {st : List AV} {S : ST} {Q : Option AV → ST → Prop} (k : t_zr st S Q) : V MX11_isNull h 27 L st S Q :=
  w_zr dX11_isNull_27 rfl k
-- QueryForgeModel.size(I)I
theorem dX11_size_0 : decode cX11_size 0 = .ok (.iload_n 1, 1) := by decide +kernel
theorem dX11_size_1 : decode cX11_size 1 = .ok (.ifCond .lt 20, 3) := by decide +kernel
theorem dX11_size_4 : decode cX11_size 4 = .ok (.iload_n 1, 1) := by decide +kernel
theorem dX11_size_5 : decode cX11_size 5 = .ok (.aload_n 0, 1) := by decide +kernel
theorem dX11_size_6 : decode cX11_size 6 = .ok (.getfield 216, 3) := by decide +kernel
theorem dX11_size_9 : decode cX11_size 9 = .ok (.if_icmp .ge 12, 3) := by decide +kernel
theorem dX11_size_12 : decode cX11_size 12 = .ok (.aload_n 0, 1) := by decide +kernel
theorem dX11_size_13 : decode cX11_size 13 = .ok (.getfield 54, 3) := by decide +kernel
theorem dX11_size_16 : decode cX11_size 16 = .ok (.iload_n 1, 1) := by decide +kernel
theorem dX11_size_17 : decode cX11_size 17 = .ok (.iaload, 1) := by decide +kernel
theorem dX11_size_18 : decode cX11_size 18 = .ok (.goto 4, 3) := by decide +kernel
theorem dX11_size_21 : decode cX11_size 21 = .ok (.iconst (-1), 1) := by decide +kernel
theorem dX11_size_22 : decode cX11_size 22 = .ok (.ireturn, 1) := by decide +kernel
theorem b_X11_size_0 {h : Nat} {L : LVs} {st : List AV} {S : ST} {Q : Option AV → ST → Prop} (k : o_il L st S (fun L st S => t_1 L st S (fun x => x < nI 0) (fun L st S => V MX11_size h 21 L st S Q) (fun L st S => V MX11_size h 4 L st S Q)) 1) : V MX11_size h 0 L st S Q :=
  v_iload_n dX11_size_0 rfl (fun L st S k => w_if_lt dX11_size_1 (by decide) rfl k) k
theorem b_X11_size_4 {h : Nat} {L : LVs} {st : List AV} {S : ST} {Q : Option AV → ST → Prop} (k : o_il L st S (fun L st S => o_al L st S (fun L st S => o_get L st S (fun L st S => t_2 L st S (fun x y => y ≤ x) (fun L st S => V MX11_size h 21 L st S Q) (fun L st S => V MX11_size h 12 L st S Q)) 11 16 (0, 0, 0)) 0) 1) : V MX11_size h 4 L st S Q :=
  v_iload_n dX11_size_4 rfl (fun L st S k => v_aload_n dX11_size_5 rfl (fun L st S k => v_get dX11_size_6 rfl iX11 LY_11 rfl (by decide) rfl fl_X11_216 (fun L st S k => w_icmp_ge dX11_size_9 (by decide) rfl k) k) k) k
theorem b_X11_size_12 {h : Nat} {L : LVs} {st : List AV} {S : ST} {Q : Option AV → ST → Prop} (k : o_al L st S (fun L st S => o_get L st S (fun L st S => o_il L st S (fun L st S => o_iald L st S (fun L st S => V MX11_size h 22 L st S Q)) 1) 11 21 (3, 54, 0)) 0) : V MX11_size h 12 L st S Q :=
  v_aload_n dX11_size_12 rfl (fun L st S k => v_get dX11_size_13 rfl iX11 LY_11 rfl (by decide) rfl fl_X11_54 (fun L st S k => v_iload_n dX11_size_16 rfl (fun L st S k => v_iaload dX11_size_17 (fun L st S k => v_goto dX11_size_18 (by decide) k) k) k) k) k
theorem b_X11_size_21 {h : Nat} {L : LVs} {st : List AV} {S : ST} {Q : Option AV → ST → Prop} (k : o_c L st S (fun L st S => V MX11_size h 22 L st S Q) (-1)) : V MX11_size h 21 L st S Q :=
  v_iconst dX11_size_21 (by decide) (fun L st S k => k) k
theorem b_X11_size_22 {h : Nat} {L : LVs} {st : List AV} {S : ST} {Q : Option AV → ST → Prop} (k : t_ir st S Q) : V MX11_size h 22 L st S Q :=
  w_ir dX11_size_22 rfl k
-- QueryForgeModel.cell(III)I
theorem dX11_cell_0 : decode cX11_cell 0 = .ok (.iload_n 1, 1) := by decide +kernel
theorem dX11_cell_1 : decode cX11_cell 1 = .ok (.ifCond .lt 43, 3) := by decide +kernel
theorem dX11_cell_4 : decode cX11_cell 4 = .ok (.iload_n 1, 1) := by decide +kernel
theorem dX11_cell_5 : decode cX11_cell 5 = .ok (.aload_n 0, 1) := by decide +kernel
theorem dX11_cell_6 : decode cX11_cell 6 = .ok (.getfield 216, 3) := by decide +kernel
theorem dX11_cell_9 : decode cX11_cell 9 = .ok (.if_icmp .ge 35, 3) := by decide +kernel
theorem dX11_cell_12 : decode cX11_cell 12 = .ok (.iload_n 2, 1) := by decide +kernel
theorem dX11_cell_13 : decode cX11_cell 13 = .ok (.ifCond .lt 31, 3) := by decide +kernel
theorem dX11_cell_16 : decode cX11_cell 16 = .ok (.iload_n 2, 1) := by decide +kernel
theorem dX11_cell_17 : decode cX11_cell 17 = .ok (.aload_n 0, 1) := by decide +kernel
theorem dX11_cell_18 : decode cX11_cell 18 = .ok (.getfield 54, 3) := by decide +kernel
theorem dX11_cell_21 : decode cX11_cell 21 = .ok (.iload_n 1, 1) := by decide +kernel
theorem dX11_cell_22 : decode cX11_cell 22 = .ok (.iaload, 1) := by decide +kernel
theorem dX11_cell_23 : decode cX11_cell 23 = .ok (.if_icmp .ge 21, 3) := by decide +kernel
theorem dX11_cell_26 : decode cX11_cell 26 = .ok (.iload_n 3, 1) := by decide +kernel
theorem dX11_cell_27 : decode cX11_cell 27 = .ok (.ifCond .lt 17, 3) := by decide +kernel
theorem dX11_cell_30 : decode cX11_cell 30 = .ok (.iload_n 3, 1) := by decide +kernel
theorem dX11_cell_31 : decode cX11_cell 31 = .ok (.aload_n 0, 1) := by decide +kernel
theorem dX11_cell_32 : decode cX11_cell 32 = .ok (.getfield 44, 3) := by decide +kernel
theorem dX11_cell_35 : decode cX11_cell 35 = .ok (.iload_n 1, 1) := by decide +kernel
theorem dX11_cell_36 : decode cX11_cell 36 = .ok (.iaload, 1) := by decide +kernel
theorem dX11_cell_37 : decode cX11_cell 37 = .ok (.if_icmp .ge 7, 3) := by decide +kernel
theorem dX11_cell_40 : decode cX11_cell 40 = .ok (.iconst 1, 1) := by decide +kernel
theorem dX11_cell_41 : decode cX11_cell 41 = .ok (.goto 4, 3) := by decide +kernel
theorem dX11_cell_44 : decode cX11_cell 44 = .ok (.iconst 0, 1) := by decide +kernel
theorem dX11_cell_45 : decode cX11_cell 45 = .ok (.istore 4, 2) := by decide +kernel
theorem dX11_cell_47 : decode cX11_cell 47 = .ok (.iload 4, 2) := by decide +kernel
theorem dX11_cell_49 : decode cX11_cell 49 = .ok (.ifCond .eq 21, 3) := by decide +kernel
theorem dX11_cell_52 : decode cX11_cell 52 = .ok (.aload_n 0, 1) := by decide +kernel
theorem dX11_cell_53 : decode cX11_cell 53 = .ok (.getfield 57, 3) := by decide +kernel
theorem dX11_cell_56 : decode cX11_cell 56 = .ok (.bipush 96, 2) := by decide +kernel
theorem dX11_cell_58 : decode cX11_cell 58 = .ok (.iload_n 1, 1) := by decide +kernel
theorem dX11_cell_59 : decode cX11_cell 59 = .ok (.imul, 1) := by decide +kernel
theorem dX11_cell_60 : decode cX11_cell 60 = .ok (.iconst 4, 1) := by decide +kernel
theorem dX11_cell_61 : decode cX11_cell 61 = .ok (.iload_n 2, 1) := by decide +kernel
theorem dX11_cell_62 : decode cX11_cell 62 = .ok (.imul, 1) := by decide +kernel
theorem dX11_cell_63 : decode cX11_cell 63 = .ok (.iadd, 1) := by decide +kernel
theorem dX11_cell_64 : decode cX11_cell 64 = .ok (.iload_n 3, 1) := by decide +kernel
theorem dX11_cell_65 : decode cX11_cell 65 = .ok (.iadd, 1) := by decide +kernel
theorem dX11_cell_66 : decode cX11_cell 66 = .ok (.iaload, 1) := by decide +kernel
theorem dX11_cell_67 : decode cX11_cell 67 = .ok (.goto 4, 3) := by decide +kernel
theorem dX11_cell_70 : decode cX11_cell 70 = .ok (.iconst (-1), 1) := by decide +kernel
theorem dX11_cell_71 : decode cX11_cell 71 = .ok (.ireturn, 1) := by decide +kernel
theorem b_X11_cell_0 {h : Nat} {L : LVs} {st : List AV} {S : ST} {Q : Option AV → ST → Prop} (k : o_il L st S (fun L st S => t_1 L st S (fun x => x < nI 0) (fun L st S => V MX11_cell h 44 L st S Q) (fun L st S => V MX11_cell h 4 L st S Q)) 1) : V MX11_cell h 0 L st S Q :=
  v_iload_n dX11_cell_0 rfl (fun L st S k => w_if_lt dX11_cell_1 (by decide) rfl k) k
theorem b_X11_cell_4 {h : Nat} {L : LVs} {st : List AV} {S : ST} {Q : Option AV → ST → Prop} (k : o_il L st S (fun L st S => o_al L st S (fun L st S => o_get L st S (fun L st S => t_2 L st S (fun x y => y ≤ x) (fun L st S => V MX11_cell h 44 L st S Q) (fun L st S => V MX11_cell h 12 L st S Q)) 11 16 (0, 0, 0)) 0) 1) : V MX11_cell h 4 L st S Q :=
  v_iload_n dX11_cell_4 rfl (fun L st S k => v_aload_n dX11_cell_5 rfl (fun L st S k => v_get dX11_cell_6 rfl iX11 LY_11 rfl (by decide) rfl fl_X11_216 (fun L st S k => w_icmp_ge dX11_cell_9 (by decide) rfl k) k) k) k
theorem b_X11_cell_12 {h : Nat} {L : LVs} {st : List AV} {S : ST} {Q : Option AV → ST → Prop} (k : o_il L st S (fun L st S => t_1 L st S (fun x => x < nI 0) (fun L st S => V MX11_cell h 44 L st S Q) (fun L st S => V MX11_cell h 16 L st S Q)) 2) : V MX11_cell h 12 L st S Q :=
  v_iload_n dX11_cell_12 rfl (fun L st S k => w_if_lt dX11_cell_13 (by decide) rfl k) k
theorem b_X11_cell_16 {h : Nat} {L : LVs} {st : List AV} {S : ST} {Q : Option AV → ST → Prop} (k : o_il L st S (fun L st S => o_al L st S (fun L st S => o_get L st S (fun L st S => o_il L st S (fun L st S => o_iald L st S (fun L st S => t_2 L st S (fun x y => y ≤ x) (fun L st S => V MX11_cell h 44 L st S Q) (fun L st S => V MX11_cell h 26 L st S Q))) 1) 11 21 (3, 54, 0)) 0) 2) : V MX11_cell h 16 L st S Q :=
  v_iload_n dX11_cell_16 rfl (fun L st S k => v_aload_n dX11_cell_17 rfl (fun L st S k => v_get dX11_cell_18 rfl iX11 LY_11 rfl (by decide) rfl fl_X11_54 (fun L st S k => v_iload_n dX11_cell_21 rfl (fun L st S k => v_iaload dX11_cell_22 (fun L st S k => w_icmp_ge dX11_cell_23 (by decide) rfl k) k) k) k) k) k
theorem b_X11_cell_26 {h : Nat} {L : LVs} {st : List AV} {S : ST} {Q : Option AV → ST → Prop} (k : o_il L st S (fun L st S => t_1 L st S (fun x => x < nI 0) (fun L st S => V MX11_cell h 44 L st S Q) (fun L st S => V MX11_cell h 30 L st S Q)) 3) : V MX11_cell h 26 L st S Q :=
  v_iload_n dX11_cell_26 rfl (fun L st S k => w_if_lt dX11_cell_27 (by decide) rfl k) k
theorem b_X11_cell_30 {h : Nat} {L : LVs} {st : List AV} {S : ST} {Q : Option AV → ST → Prop} (k : o_il L st S (fun L st S => o_al L st S (fun L st S => o_get L st S (fun L st S => o_il L st S (fun L st S => o_iald L st S (fun L st S => t_2 L st S (fun x y => y ≤ x) (fun L st S => V MX11_cell h 44 L st S Q) (fun L st S => V MX11_cell h 40 L st S Q))) 1) 11 18 (3, 51, 0)) 0) 3) : V MX11_cell h 30 L st S Q :=
  v_iload_n dX11_cell_30 rfl (fun L st S k => v_aload_n dX11_cell_31 rfl (fun L st S k => v_get dX11_cell_32 rfl iX11 LY_11 rfl (by decide) rfl fl_X11_44 (fun L st S k => v_iload_n dX11_cell_35 rfl (fun L st S k => v_iaload dX11_cell_36 (fun L st S k => w_icmp_ge dX11_cell_37 (by decide) rfl k) k) k) k) k) k
theorem b_X11_cell_40 {h : Nat} {L : LVs} {st : List AV} {S : ST} {Q : Option AV → ST → Prop} (k : o_c L st S (fun L st S => V MX11_cell h 45 L st S Q) (nI 1)) : V MX11_cell h 40 L st S Q :=
  v_iconst dX11_cell_40 (by decide) (fun L st S k => v_goto dX11_cell_41 (by decide) k) k
theorem b_X11_cell_44 {h : Nat} {L : LVs} {st : List AV} {S : ST} {Q : Option AV → ST → Prop} (k : o_c L st S (fun L st S => V MX11_cell h 45 L st S Q) (nI 0)) : V MX11_cell h 44 L st S Q :=
  v_iconst dX11_cell_44 (by decide) (fun L st S k => k) k
theorem b_X11_cell_45 {h : Nat} {L : LVs} {st : List AV} {S : ST} {Q : Option AV → ST → Prop} (k : o_is L st S (fun L st S => o_il L st S (fun L st S => t_1 L st S (fun x => x = nI 0) (fun L st S => V MX11_cell h 70 L st S Q) (fun L st S => V MX11_cell h 52 L st S Q)) 4) 4) : V MX11_cell h 45 L st S Q :=
  v_istore dX11_cell_45 (by decide) (fun L st S k => v_iload dX11_cell_47 (fun L st S k => w_if_eq dX11_cell_49 (by decide) rfl k) k) k
theorem b_X11_cell_52 {h : Nat} {L : LVs} {st : List AV} {S : ST} {Q : Option AV → ST → Prop} (k : o_al L st S (fun L st S => o_get L st S (fun L st S => o_c L st S (fun L st S => o_il L st S (fun L st S => o_imul L st S (fun L st S => o_c L st S (fun L st S => o_il L st S (fun L st S => o_imul L st S (fun L st S => o_iadd L st S (fun L st S => o_il L st S (fun L st S => o_iadd L st S (fun L st S => o_iald L st S (fun L st S => V MX11_cell h 71 L st S Q))) 3))) 2) (nI 4))) 1) (nI 96)) 11 22 (3, 55, 0)) 0) : V MX11_cell h 52 L st S Q :=
  v_aload_n dX11_cell_52 rfl (fun L st S k => v_get dX11_cell_53 rfl iX11 LY_11 rfl (by decide) rfl fl_X11_57 (fun L st S k => v_bipush dX11_cell_56 (by decide) (fun L st S k => v_iload_n dX11_cell_58 rfl (fun L st S k => v_imul dX11_cell_59 (fun L st S k => v_iconst dX11_cell_60 (by decide) (fun L st S k => v_iload_n dX11_cell_61 rfl (fun L st S k => v_imul dX11_cell_62 (fun L st S k => v_iadd dX11_cell_63 (fun L st S k => v_iload_n dX11_cell_64 rfl (fun L st S k => v_iadd dX11_cell_65 (fun L st S k => v_iaload dX11_cell_66 (fun L st S k => v_goto dX11_cell_67 (by decide) k) k) k) k) k) k) k) k) k) k) k) k) k
theorem b_X11_cell_70 {h : Nat} {L : LVs} {st : List AV} {S : ST} {Q : Option AV → ST → Prop} (k : o_c L st S (fun L st S => V MX11_cell h 71 L st S Q) (-1)) : V MX11_cell h 70 L st S Q :=
  v_iconst dX11_cell_70 (by decide) (fun L st S k => k) k
theorem b_X11_cell_71 {h : Nat} {L : LVs} {st : List AV} {S : ST} {Q : Option AV → ST → Prop} (k : t_ir st S Q) : V MX11_cell h 71 L st S Q :=
  w_ir dX11_cell_71 rfl k
-- QueryForgeModel.bounded()Z
theorem dX11_bounded_0 : decode cX11_bounded 0 = .ok (.iconst 1, 1) := by decide +kernel
theorem dX11_bounded_1 : decode cX11_bounded 1 = .ok (.ireturn, 1) := by decide +kernel
theorem b_X11_bounded_0 {h : Nat} {L : LVs} {st : List AV} {S : ST} {Q : Option AV → ST → Prop} (k : o_c L st S (fun L st S => t_zr st S Q) (nI 1)) : V MX11_bounded h 0 L st S Q :=
  v_iconst dX11_bounded_0 (by decide) (fun L st S k => w_zr dX11_bounded_1 rfl k) k
-- QueryForgeModel.sound()Z
theorem dX11_sound_0 : decode cX11_sound 0 = .ok (.iconst 1, 1) := by decide +kernel
theorem dX11_sound_1 : decode cX11_sound 1 = .ok (.ireturn, 1) := by decide +kernel
theorem b_X11_sound_0 {h : Nat} {L : LVs} {st : List AV} {S : ST} {Q : Option AV → ST → Prop} (k : o_c L st S (fun L st S => t_zr st S Q) (nI 1)) : V MX11_sound h 0 L st S Q :=
  v_iconst dX11_sound_0 (by decide) (fun L st S k => w_zr dX11_sound_1 rfl k) k
