-- QueryForge$Checker.check()I
theorem dX0_check_0 : decode cX0_check 0 = .ok (.aload_n 0, 1) := by decide +kernel
theorem dX0_check_1 : decode cX0_check 1 = .ok (.iconst 0, 1) := by decide +kernel
theorem dX0_check_2 : decode cX0_check 2 = .ok (.putfield 31, 3) := by decide +kernel
theorem dX0_check_5 : decode cX0_check 5 = .ok (.aload_n 0, 1) := by decide +kernel
theorem dX0_check_6 : decode cX0_check 6 = .ok (.getfield 15, 3) := by decide +kernel
theorem dX0_check_9 : decode cX0_check 9 = .ok (.getfield 34, 3) := by decide +kernel
theorem dX0_check_12 : decode cX0_check 12 = .ok (.sipush 200, 3) := by decide +kernel
theorem dX0_check_15 : decode cX0_check 15 = .ok (.if_icmp .ne 8, 3) := by decide +kernel
theorem dX0_check_18 : decode cX0_check 18 = .ok (.aload_n 0, 1) := by decide +kernel
theorem dX0_check_19 : decode cX0_check 19 = .ok (.invokevirtual 41, 3) := by decide +kernel
theorem dX0_check_22 : decode cX0_check 22 = .ok (.ireturn, 1) := by decide +kernel
theorem dX0_check_23 : decode cX0_check 23 = .ok (.iconst 0, 1) := by decide +kernel
theorem dX0_check_24 : decode cX0_check 24 = .ok (.istore_n 1, 1) := by decide +kernel
theorem dX0_check_25 : decode cX0_check 25 = .ok (.iload_n 1, 1) := by decide +kernel
theorem dX0_check_26 : decode cX0_check 26 = .ok (.aload_n 0, 1) := by decide +kernel
theorem dX0_check_27 : decode cX0_check 27 = .ok (.getfield 15, 3) := by decide +kernel
theorem dX0_check_30 : decode cX0_check 30 = .ok (.getfield 45, 3) := by decide +kernel
theorem dX0_check_33 : decode cX0_check 33 = .ok (.if_icmp .ge 45, 3) := by decide +kernel
theorem dX0_check_36 : decode cX0_check 36 = .ok (.aload_n 0, 1) := by decide +kernel
theorem dX0_check_37 : decode cX0_check 37 = .ok (.getfield 19, 3) := by decide +kernel
theorem dX0_check_40 : decode cX0_check 40 = .ok (.aload_n 0, 1) := by decide +kernel
theorem dX0_check_41 : decode cX0_check 41 = .ok (.getfield 15, 3) := by decide +kernel
theorem dX0_check_44 : decode cX0_check 44 = .ok (.getfield 48, 3) := by decide +kernel
theorem dX0_check_47 : decode cX0_check 47 = .ok (.iload_n 1, 1) := by decide +kernel
theorem dX0_check_48 : decode cX0_check 48 = .ok (.iaload, 1) := by decide +kernel
theorem dX0_check_49 : decode cX0_check 49 = .ok (.invokevirtual 51, 3) := by decide +kernel
theorem dX0_check_52 : decode cX0_check 52 = .ok (.istore_n 2, 1) := by decide +kernel
theorem dX0_check_53 : decode cX0_check 53 = .ok (.iload_n 2, 1) := by decide +kernel
theorem dX0_check_54 : decode cX0_check 54 = .ok (.iconst (-1), 1) := by decide +kernel
theorem dX0_check_55 : decode cX0_check 55 = .ok (.if_icmp .ne 7, 3) := by decide +kernel
theorem dX0_check_58 : decode cX0_check 58 = .ok (.sipush (-1001), 3) := by decide +kernel
theorem dX0_check_61 : decode cX0_check 61 = .ok (.ireturn, 1) := by decide +kernel
theorem dX0_check_62 : decode cX0_check 62 = .ok (.aload_n 0, 1) := by decide +kernel
theorem dX0_check_63 : decode cX0_check 63 = .ok (.getfield 15, 3) := by decide +kernel
theorem dX0_check_66 : decode cX0_check 66 = .ok (.getfield 57, 3) := by decide +kernel
theorem dX0_check_69 : decode cX0_check 69 = .ok (.iload_n 1, 1) := by decide +kernel
theorem dX0_check_70 : decode cX0_check 70 = .ok (.iload_n 2, 1) := by decide +kernel
theorem dX0_check_71 : decode cX0_check 71 = .ok (.iastore, 1) := by decide +kernel
theorem dX0_check_72 : decode cX0_check 72 = .ok (.iinc 1 1, 3) := by decide +kernel
theorem dX0_check_75 : decode cX0_check 75 = .ok (.goto (-50), 3) := by decide +kernel
theorem dX0_check_78 : decode cX0_check 78 = .ok (.aload_n 0, 1) := by decide +kernel
theorem dX0_check_79 : decode cX0_check 79 = .ok (.getfield 15, 3) := by decide +kernel
theorem dX0_check_82 : decode cX0_check 82 = .ok (.getfield 34, 3) := by decide +kernel
theorem dX0_check_85 : decode cX0_check 85 = .ok (.sipush 201, 3) := by decide +kernel
theorem dX0_check_88 : decode cX0_check 88 = .ok (.if_icmp .ne 8, 3) := by decide +kernel
theorem dX0_check_91 : decode cX0_check 91 = .ok (.aload_n 0, 1) := by decide +kernel
theorem dX0_check_92 : decode cX0_check 92 = .ok (.invokevirtual 60, 3) := by decide +kernel
theorem dX0_check_95 : decode cX0_check 95 = .ok (.ireturn, 1) := by decide +kernel
theorem dX0_check_96 : decode cX0_check 96 = .ok (.aload_n 0, 1) := by decide +kernel
theorem dX0_check_97 : decode cX0_check 97 = .ok (.getfield 15, 3) := by decide +kernel
theorem dX0_check_100 : decode cX0_check 100 = .ok (.getfield 34, 3) := by decide +kernel
theorem dX0_check_103 : decode cX0_check 103 = .ok (.sipush 205, 3) := by decide +kernel
theorem dX0_check_106 : decode cX0_check 106 = .ok (.if_icmp .ne 10, 3) := by decide +kernel
theorem dX0_check_109 : decode cX0_check 109 = .ok (.aload_n 0, 1) := by decide +kernel
theorem dX0_check_110 : decode cX0_check 110 = .ok (.invokevirtual 63, 3) := by decide +kernel
theorem dX0_check_113 : decode cX0_check 113 = .ok (.goto 24, 3) := by decide +kernel
theorem dX0_check_116 : decode cX0_check 116 = .ok (.aload_n 0, 1) := by decide +kernel
theorem dX0_check_117 : decode cX0_check 117 = .ok (.getfield 15, 3) := by decide +kernel
theorem dX0_check_120 : decode cX0_check 120 = .ok (.getfield 34, 3) := by decide +kernel
theorem dX0_check_123 : decode cX0_check 123 = .ok (.sipush 203, 3) := by decide +kernel
theorem dX0_check_126 : decode cX0_check 126 = .ok (.if_icmp .ne 10, 3) := by decide +kernel
theorem dX0_check_129 : decode cX0_check 129 = .ok (.aload_n 0, 1) := by decide +kernel
theorem dX0_check_130 : decode cX0_check 130 = .ok (.invokevirtual 66, 3) := by decide +kernel
theorem dX0_check_133 : decode cX0_check 133 = .ok (.goto 4, 3) := by decide +kernel
theorem dX0_check_136 : decode cX0_check 136 = .ok (.iconst 0, 1) := by decide +kernel
theorem dX0_check_137 : decode cX0_check 137 = .ok (.istore_n 1, 1) := by decide +kernel
theorem dX0_check_138 : decode cX0_check 138 = .ok (.iload_n 1, 1) := by decide +kernel
theorem dX0_check_139 : decode cX0_check 139 = .ok (.ifCond .ne 36, 3) := by decide +kernel
theorem dX0_check_142 : decode cX0_check 142 = .ok (.aload_n 0, 1) := by decide +kernel
theorem dX0_check_143 : decode cX0_check 143 = .ok (.getfield 15, 3) := by decide +kernel
theorem dX0_check_146 : decode cX0_check 146 = .ok (.getfield 69, 3) := by decide +kernel
theorem dX0_check_149 : decode cX0_check 149 = .ok (.iconst (-1), 1) := by decide +kernel
theorem dX0_check_150 : decode cX0_check 150 = .ok (.if_icmp .eq 25, 3) := by decide +kernel
theorem dX0_check_153 : decode cX0_check 153 = .ok (.aload_n 0, 1) := by decide +kernel
theorem dX0_check_154 : decode cX0_check 154 = .ok (.aload_n 0, 1) := by decide +kernel
theorem dX0_check_155 : decode cX0_check 155 = .ok (.getfield 15, 3) := by decide +kernel
theorem dX0_check_158 : decode cX0_check 158 = .ok (.getfield 69, 3) := by decide +kernel
theorem dX0_check_161 : decode cX0_check 161 = .ok (.aload_n 0, 1) := by decide +kernel
theorem dX0_check_162 : decode cX0_check 162 = .ok (.getfield 15, 3) := by decide +kernel
theorem dX0_check_165 : decode cX0_check 165 = .ok (.getfield 72, 3) := by decide +kernel
theorem dX0_check_168 : decode cX0_check 168 = .ok (.invokevirtual 76, 3) := by decide +kernel
theorem dX0_check_171 : decode cX0_check 171 = .ok (.invokevirtual 81, 3) := by decide +kernel
theorem dX0_check_174 : decode cX0_check 174 = .ok (.istore_n 1, 1) := by decide +kernel
theorem dX0_check_175 : decode cX0_check 175 = .ok (.iload_n 1, 1) := by decide +kernel
theorem dX0_check_176 : decode cX0_check 176 = .ok (.ifCond .ne 21, 3) := by decide +kernel
theorem dX0_check_179 : decode cX0_check 179 = .ok (.aload_n 0, 1) := by decide +kernel
theorem dX0_check_180 : decode cX0_check 180 = .ok (.getfield 15, 3) := by decide +kernel
theorem dX0_check_183 : decode cX0_check 183 = .ok (.getfield 34, 3) := by decide +kernel
theorem dX0_check_186 : decode cX0_check 186 = .ok (.sipush 205, 3) := by decide +kernel
theorem dX0_check_189 : decode cX0_check 189 = .ok (.if_icmp .ne 8, 3) := by decide +kernel
theorem dX0_check_192 : decode cX0_check 192 = .ok (.aload_n 0, 1) := by decide +kernel
theorem dX0_check_193 : decode cX0_check 193 = .ok (.invokevirtual 85, 3) := by decide +kernel
theorem dX0_check_196 : decode cX0_check 196 = .ok (.istore_n 1, 1) := by decide +kernel
theorem dX0_check_197 : decode cX0_check 197 = .ok (.iload_n 1, 1) := by decide +kernel
theorem dX0_check_198 : decode cX0_check 198 = .ok (.ifCond .ne 18, 3) := by decide +kernel
theorem dX0_check_201 : decode cX0_check 201 = .ok (.aload_n 0, 1) := by decide +kernel
theorem dX0_check_202 : decode cX0_check 202 = .ok (.getfield 31, 3) := by decide +kernel
theorem dX0_check_205 : decode cX0_check 205 = .ok (.bipush 10, 2) := by decide +kernel
theorem dX0_check_207 : decode cX0_check 207 = .ok (.if_icmp .le 9, 3) := by decide +kernel
theorem dX0_check_210 : decode cX0_check 210 = .ok (.sipush (-1008), 3) := by decide +kernel
theorem dX0_check_213 : decode cX0_check 213 = .ok (.goto 4, 3) := by decide +kernel
theorem dX0_check_216 : decode cX0_check 216 = .ok (.iload_n 1, 1) := by decide +kernel
theorem dX0_check_217 : decode cX0_check 217 = .ok (.ireturn, 1) := by decide +kernel
theorem b_X0_check_0 {h : Nat} {L : LVs} {st : List AV} {S : ST} {Q : Option AV → ST → Prop} (k : o_al L st S (fun L st S => o_c L st S (fun L st S => o_puti L st S (fun L st S => o_al L st S (fun L st S => o_get L st S (fun L st S => o_get L st S (fun L st S => o_c L st S (fun L st S => t_2 L st S (fun x y => x = y) (fun L st S => V MX0_check h 18 L st S Q) (fun L st S => V MX0_check h 23 L st S Q)) (nI 200)) 6 8 (0, 0, 0)) 0 1 (4, 6, 0)) 0) 0 5) (nI 0)) 0) : V MX0_check h 0 L st S Q :=
  v_aload_n dX0_check_0 rfl (fun L st S k => v_iconst dX0_check_1 (by decide) (fun L st S k => v_puti dX0_check_2 rfl iX0 tyX0_ok nmX0 LY_0 rfl (by decide) rfl fl_X0_31 rfl rfl (fun L st S k => v_aload_n dX0_check_5 rfl (fun L st S k => v_get dX0_check_6 rfl iX0 LY_0 rfl (by decide) rfl fl_X0_15 (fun L st S k => v_get dX0_check_9 rfl iX6 LY_6 rfl (by decide) rfl fl_X0_34 (fun L st S k => v_sipush dX0_check_12 (by decide) (fun L st S k => w_icmp_ne dX0_check_15 (by decide) rfl k) k) k) k) k) k) k) k
theorem b_X0_check_18 {h : Nat} {L : LVs} {st : List AV} {S : ST} {Q : Option AV → ST → Prop} (k : o_al L st S (fun L st S => V MX0_check h 19 L st S Q) 0) : V MX0_check h 18 L st S Q :=
  v_aload_n dX0_check_18 rfl (fun L st S k => k) k
theorem k_X0_check_19 {h : Nat} {L : LVs} {st : List AV} {S : ST} {Q Q' : Option AV → ST → Prop} {j : Nat} (hC : Ct MX0_checkCreate h [vR 0 j] S Q') (k : ∀ (r : Option AV) (S' : ST), Q' r S' → V MX0_check (h + 1) 22 L (r.toList ++ st) S' Q) (hj : j < NI 0) (hw : wid st ≤ 8) : V MX0_check (h + 1) 19 L (vR 0 j :: st) S Q :=
  v_callV (M' := MX0_checkCreate) (c := 0) (As := []) dX0_check_19 ml_X0_41 im_X0_checkCreate se_X0_checkCreate in_X0 cd_X0_checkCreate rfl LY_0 np_X0_checkCreate (by decide) hw hj hC k
theorem b_X0_check_22 {h : Nat} {L : LVs} {st : List AV} {S : ST} {Q : Option AV → ST → Prop} (k : t_ir st S Q) : V MX0_check h 22 L st S Q :=
  w_ir dX0_check_22 rfl k
theorem b_X0_check_23 {h : Nat} {L : LVs} {st : List AV} {S : ST} {Q : Option AV → ST → Prop} (k : o_c L st S (fun L st S => o_is L st S (fun L st S => V MX0_check h 25 L st S Q) 1) (nI 0)) : V MX0_check h 23 L st S Q :=
  v_iconst dX0_check_23 (by decide) (fun L st S k => v_istore_n dX0_check_24 rfl (by decide) (fun L st S k => k) k) k
theorem b_X0_check_25 {h : Nat} {L : LVs} {st : List AV} {S : ST} {Q : Option AV → ST → Prop} (k : o_il L st S (fun L st S => o_al L st S (fun L st S => o_get L st S (fun L st S => o_get L st S (fun L st S => t_2 L st S (fun x y => y ≤ x) (fun L st S => V MX0_check h 78 L st S Q) (fun L st S => V MX0_check h 36 L st S Q)) 6 9 (0, 0, 0)) 0 1 (4, 6, 0)) 0) 1) : V MX0_check h 25 L st S Q :=
  v_iload_n dX0_check_25 rfl (fun L st S k => v_aload_n dX0_check_26 rfl (fun L st S k => v_get dX0_check_27 rfl iX0 LY_0 rfl (by decide) rfl fl_X0_15 (fun L st S k => v_get dX0_check_30 rfl iX6 LY_6 rfl (by decide) rfl fl_X0_45 (fun L st S k => w_icmp_ge dX0_check_33 (by decide) rfl k) k) k) k) k
theorem b_X0_check_36 {h : Nat} {L : LVs} {st : List AV} {S : ST} {Q : Option AV → ST → Prop} (k : o_al L st S (fun L st S => o_get L st S (fun L st S => o_al L st S (fun L st S => o_get L st S (fun L st S => o_get L st S (fun L st S => o_il L st S (fun L st S => o_iald L st S (fun L st S => V MX0_check h 49 L st S Q)) 1) 6 1 (3, 22, 0)) 0 1 (4, 6, 0)) 0) 0 2 (4, 8, 0)) 0) : V MX0_check h 36 L st S Q :=
  v_aload_n dX0_check_36 rfl (fun L st S k => v_get dX0_check_37 rfl iX0 LY_0 rfl (by decide) rfl fl_X0_19 (fun L st S k => v_aload_n dX0_check_40 rfl (fun L st S k => v_get dX0_check_41 rfl iX0 LY_0 rfl (by decide) rfl fl_X0_15 (fun L st S k => v_get dX0_check_44 rfl iX6 LY_6 rfl (by decide) rfl fl_X0_48 (fun L st S k => v_iload_n dX0_check_47 rfl (fun L st S k => v_iaload dX0_check_48 (fun L st S k => k) k) k) k) k) k) k) k
theorem k_X0_check_49 {h : Nat} {L : LVs} {st : List AV} {S : ST} {Q Q' : Option AV → ST → Prop} {j : Nat} {a0 : AV} (hC : Ct MX8_find h [vR 8 j, a0] S Q') (k : ∀ (r : Option AV) (S' : ST), Q' r S' → V MX0_check (h + 1) 52 L (r.toList ++ st) S' Q) (hj : j < NI 8) (hw : wid st ≤ 8) : V MX0_check (h + 1) 49 L (a0 :: vR 8 j :: st) S Q :=
  v_callV (M' := MX8_find) (c := 8) (As := [a0]) dX0_check_49 ml_X0_51 im_X8_find se_X8_find in_X8 cd_X8_find rfl LY_8 np_X8_find (by decide) hw hj hC k
theorem b_X0_check_52 {h : Nat} {L : LVs} {st : List AV} {S : ST} {Q : Option AV → ST → Prop} (k : o_is L st S (fun L st S => o_il L st S (fun L st S => o_c L st S (fun L st S => t_2 L st S (fun x y => x = y) (fun L st S => V MX0_check h 58 L st S Q) (fun L st S => V MX0_check h 62 L st S Q)) (-1)) 2) 2) : V MX0_check h 52 L st S Q :=
  v_istore_n dX0_check_52 rfl (by decide) (fun L st S k => v_iload_n dX0_check_53 rfl (fun L st S k => v_iconst dX0_check_54 (by decide) (fun L st S k => w_icmp_ne dX0_check_55 (by decide) rfl k) k) k) k
theorem b_X0_check_58 {h : Nat} {L : LVs} {st : List AV} {S : ST} {Q : Option AV → ST → Prop} (k : o_c L st S (fun L st S => t_ir st S Q) (-1001)) : V MX0_check h 58 L st S Q :=
  v_sipush dX0_check_58 (by decide) (fun L st S k => w_ir dX0_check_61 rfl k) k
theorem b_X0_check_62 {h : Nat} {L : LVs} {st : List AV} {S : ST} {Q : Option AV → ST → Prop} (k : o_al L st S (fun L st S => o_get L st S (fun L st S => o_get L st S (fun L st S => o_il L st S (fun L st S => o_il L st S (fun L st S => o_iast L st S (fun L st S => o_inc L st S (fun L st S => V MX0_check h 25 L st S Q) 1 (nI 1))) 2) 1) 6 2 (3, 23, 0)) 0 1 (4, 6, 0)) 0) : V MX0_check h 62 L st S Q :=
  v_aload_n dX0_check_62 rfl (fun L st S k => v_get dX0_check_63 rfl iX0 LY_0 rfl (by decide) rfl fl_X0_15 (fun L st S k => v_get dX0_check_66 rfl iX6 LY_6 rfl (by decide) rfl fl_X0_57 (fun L st S k => v_iload_n dX0_check_69 rfl (fun L st S k => v_iload_n dX0_check_70 rfl (fun L st S k => v_iastore dX0_check_71 (fun L st S k => v_iinc dX0_check_72 (by decide) (by decide) (fun L st S k => v_goto dX0_check_75 (by decide) k) k) k) k) k) k) k) k
theorem b_X0_check_78 {h : Nat} {L : LVs} {st : List AV} {S : ST} {Q : Option AV → ST → Prop} (k : o_al L st S (fun L st S => o_get L st S (fun L st S => o_get L st S (fun L st S => o_c L st S (fun L st S => t_2 L st S (fun x y => x = y) (fun L st S => V MX0_check h 91 L st S Q) (fun L st S => V MX0_check h 96 L st S Q)) (nI 201)) 6 8 (0, 0, 0)) 0 1 (4, 6, 0)) 0) : V MX0_check h 78 L st S Q :=
  v_aload_n dX0_check_78 rfl (fun L st S k => v_get dX0_check_79 rfl iX0 LY_0 rfl (by decide) rfl fl_X0_15 (fun L st S k => v_get dX0_check_82 rfl iX6 LY_6 rfl (by decide) rfl fl_X0_34 (fun L st S k => v_sipush dX0_check_85 (by decide) (fun L st S k => w_icmp_ne dX0_check_88 (by decide) rfl k) k) k) k) k
theorem b_X0_check_91 {h : Nat} {L : LVs} {st : List AV} {S : ST} {Q : Option AV → ST → Prop} (k : o_al L st S (fun L st S => V MX0_check h 92 L st S Q) 0) : V MX0_check h 91 L st S Q :=
  v_aload_n dX0_check_91 rfl (fun L st S k => k) k
theorem k_X0_check_92 {h : Nat} {L : LVs} {st : List AV} {S : ST} {Q Q' : Option AV → ST → Prop} {j : Nat} (hC : Ct MX0_checkInsert h [vR 0 j] S Q') (k : ∀ (r : Option AV) (S' : ST), Q' r S' → V MX0_check (h + 1) 95 L (r.toList ++ st) S' Q) (hj : j < NI 0) (hw : wid st ≤ 8) : V MX0_check (h + 1) 92 L (vR 0 j :: st) S Q :=
  v_callV (M' := MX0_checkInsert) (c := 0) (As := []) dX0_check_92 ml_X0_60 im_X0_checkInsert se_X0_checkInsert in_X0 cd_X0_checkInsert rfl LY_0 np_X0_checkInsert (by decide) hw hj hC k
theorem b_X0_check_95 {h : Nat} {L : LVs} {st : List AV} {S : ST} {Q : Option AV → ST → Prop} (k : t_ir st S Q) : V MX0_check h 95 L st S Q :=
  w_ir dX0_check_95 rfl k
theorem b_X0_check_96 {h : Nat} {L : LVs} {st : List AV} {S : ST} {Q : Option AV → ST → Prop} (k : o_al L st S (fun L st S => o_get L st S (fun L st S => o_get L st S (fun L st S => o_c L st S (fun L st S => t_2 L st S (fun x y => x = y) (fun L st S => V MX0_check h 109 L st S Q) (fun L st S => V MX0_check h 116 L st S Q)) (nI 205)) 6 8 (0, 0, 0)) 0 1 (4, 6, 0)) 0) : V MX0_check h 96 L st S Q :=
  v_aload_n dX0_check_96 rfl (fun L st S k => v_get dX0_check_97 rfl iX0 LY_0 rfl (by decide) rfl fl_X0_15 (fun L st S k => v_get dX0_check_100 rfl iX6 LY_6 rfl (by decide) rfl fl_X0_34 (fun L st S k => v_sipush dX0_check_103 (by decide) (fun L st S k => w_icmp_ne dX0_check_106 (by decide) rfl k) k) k) k) k
theorem b_X0_check_109 {h : Nat} {L : LVs} {st : List AV} {S : ST} {Q : Option AV → ST → Prop} (k : o_al L st S (fun L st S => V MX0_check h 110 L st S Q) 0) : V MX0_check h 109 L st S Q :=
  v_aload_n dX0_check_109 rfl (fun L st S k => k) k
theorem k_X0_check_110 {h : Nat} {L : LVs} {st : List AV} {S : ST} {Q Q' : Option AV → ST → Prop} {j : Nat} (hC : Ct MX0_checkItems h [vR 0 j] S Q') (k : ∀ (r : Option AV) (S' : ST), Q' r S' → V MX0_check (h + 1) 113 L (r.toList ++ st) S' Q) (hj : j < NI 0) (hw : wid st ≤ 8) : V MX0_check (h + 1) 110 L (vR 0 j :: st) S Q :=
  v_callV (M' := MX0_checkItems) (c := 0) (As := []) dX0_check_110 ml_X0_63 im_X0_checkItems se_X0_checkItems in_X0 cd_X0_checkItems rfl LY_0 np_X0_checkItems (by decide) hw hj hC k
theorem b_X0_check_113 {h : Nat} {L : LVs} {st : List AV} {S : ST} {Q : Option AV → ST → Prop} (k : V MX0_check h 137 L st S Q) : V MX0_check h 113 L st S Q :=
  v_goto dX0_check_113 (by decide) k
theorem b_X0_check_116 {h : Nat} {L : LVs} {st : List AV} {S : ST} {Q : Option AV → ST → Prop} (k : o_al L st S (fun L st S => o_get L st S (fun L st S => o_get L st S (fun L st S => o_c L st S (fun L st S => t_2 L st S (fun x y => x = y) (fun L st S => V MX0_check h 129 L st S Q) (fun L st S => V MX0_check h 136 L st S Q)) (nI 203)) 6 8 (0, 0, 0)) 0 1 (4, 6, 0)) 0) : V MX0_check h 116 L st S Q :=
  v_aload_n dX0_check_116 rfl (fun L st S k => v_get dX0_check_117 rfl iX0 LY_0 rfl (by decide) rfl fl_X0_15 (fun L st S k => v_get dX0_check_120 rfl iX6 LY_6 rfl (by decide) rfl fl_X0_34 (fun L st S k => v_sipush dX0_check_123 (by decide) (fun L st S k => w_icmp_ne dX0_check_126 (by decide) rfl k) k) k) k) k
theorem b_X0_check_129 {h : Nat} {L : LVs} {st : List AV} {S : ST} {Q : Option AV → ST → Prop} (k : o_al L st S (fun L st S => V MX0_check h 130 L st S Q) 0) : V MX0_check h 129 L st S Q :=
  v_aload_n dX0_check_129 rfl (fun L st S k => k) k
theorem k_X0_check_130 {h : Nat} {L : LVs} {st : List AV} {S : ST} {Q Q' : Option AV → ST → Prop} {j : Nat} (hC : Ct MX0_checkAssignment h [vR 0 j] S Q') (k : ∀ (r : Option AV) (S' : ST), Q' r S' → V MX0_check (h + 1) 133 L (r.toList ++ st) S' Q) (hj : j < NI 0) (hw : wid st ≤ 8) : V MX0_check (h + 1) 130 L (vR 0 j :: st) S Q :=
  v_callV (M' := MX0_checkAssignment) (c := 0) (As := []) dX0_check_130 ml_X0_66 im_X0_checkAssignment se_X0_checkAssignment in_X0 cd_X0_checkAssignment rfl LY_0 np_X0_checkAssignment (by decide) hw hj hC k
theorem b_X0_check_133 {h : Nat} {L : LVs} {st : List AV} {S : ST} {Q : Option AV → ST → Prop} (k : V MX0_check h 137 L st S Q) : V MX0_check h 133 L st S Q :=
  v_goto dX0_check_133 (by decide) k
theorem b_X0_check_136 {h : Nat} {L : LVs} {st : List AV} {S : ST} {Q : Option AV → ST → Prop} (k : o_c L st S (fun L st S => V MX0_check h 137 L st S Q) (nI 0)) : V MX0_check h 136 L st S Q :=
  v_iconst dX0_check_136 (by decide) (fun L st S k => k) k
theorem b_X0_check_137 {h : Nat} {L : LVs} {st : List AV} {S : ST} {Q : Option AV → ST → Prop} (k : o_is L st S (fun L st S => o_il L st S (fun L st S => t_1 L st S (fun x => x = nI 0) (fun L st S => V MX0_check h 142 L st S Q) (fun L st S => V MX0_check h 175 L st S Q)) 1) 1) : V MX0_check h 137 L st S Q :=
  v_istore_n dX0_check_137 rfl (by decide) (fun L st S k => v_iload_n dX0_check_138 rfl (fun L st S k => w_if_ne dX0_check_139 (by decide) rfl k) k) k
theorem b_X0_check_142 {h : Nat} {L : LVs} {st : List AV} {S : ST} {Q : Option AV → ST → Prop} (k : o_al L st S (fun L st S => o_get L st S (fun L st S => o_get L st S (fun L st S => o_c L st S (fun L st S => t_2 L st S (fun x y => x = y) (fun L st S => V MX0_check h 175 L st S Q) (fun L st S => V MX0_check h 153 L st S Q)) (-1)) 6 13 (0, 0, 0)) 0 1 (4, 6, 0)) 0) : V MX0_check h 142 L st S Q :=
  v_aload_n dX0_check_142 rfl (fun L st S k => v_get dX0_check_143 rfl iX0 LY_0 rfl (by decide) rfl fl_X0_15 (fun L st S k => v_get dX0_check_146 rfl iX6 LY_6 rfl (by decide) rfl fl_X0_69 (fun L st S k => v_iconst dX0_check_149 (by decide) (fun L st S k => w_icmp_eq dX0_check_150 (by decide) rfl k) k) k) k) k
theorem b_X0_check_153 {h : Nat} {L : LVs} {st : List AV} {S : ST} {Q : Option AV → ST → Prop} (k : o_al L st S (fun L st S => o_al L st S (fun L st S => o_get L st S (fun L st S => o_get L st S (fun L st S => o_al L st S (fun L st S => o_get L st S (fun L st S => o_get L st S (fun L st S => V MX0_check h 168 L st S Q) 6 0 (4, 1, 0)) 0 1 (4, 6, 0)) 0) 6 13 (0, 0, 0)) 0 1 (4, 6, 0)) 0) 0) : V MX0_check h 153 L st S Q :=
  v_aload_n dX0_check_153 rfl (fun L st S k => v_aload_n dX0_check_154 rfl (fun L st S k => v_get dX0_check_155 rfl iX0 LY_0 rfl (by decide) rfl fl_X0_15 (fun L st S k => v_get dX0_check_158 rfl iX6 LY_6 rfl (by decide) rfl fl_X0_69 (fun L st S k => v_aload_n dX0_check_161 rfl (fun L st S k => v_get dX0_check_162 rfl iX0 LY_0 rfl (by decide) rfl fl_X0_15 (fun L st S k => v_get dX0_check_165 rfl iX6 LY_6 rfl (by decide) rfl fl_X0_72 (fun L st S k => k) k) k) k) k) k) k) k
theorem k_X0_check_168 {h : Nat} {L : LVs} {st : List AV} {S : ST} {Q Q' : Option AV → ST → Prop} {j : Nat} (hC : Ct MX1_end h [vR 1 j] S Q') (k : ∀ (r : Option AV) (S' : ST), Q' r S' → V MX0_check (h + 1) 171 L (r.toList ++ st) S' Q) (hj : j < NI 1) (hw : wid st ≤ 8) : V MX0_check (h + 1) 168 L (vR 1 j :: st) S Q :=
  v_callV (M' := MX1_end) (c := 1) (As := []) dX0_check_168 ml_X0_76 im_X1_end se_X1_end in_X1 cd_X1_end rfl LY_1 np_X1_end (by decide) hw hj hC k
theorem k_X0_check_171 {h : Nat} {L : LVs} {st : List AV} {S : ST} {Q Q' : Option AV → ST → Prop} {j : Nat} {a0 a1 : AV} (hC : Ct MX0_checkWords h [vR 0 j, a0, a1] S Q') (k : ∀ (r : Option AV) (S' : ST), Q' r S' → V MX0_check (h + 1) 174 L (r.toList ++ st) S' Q) (hj : j < NI 0) (hw : wid st ≤ 8) : V MX0_check (h + 1) 171 L (a1 :: a0 :: vR 0 j :: st) S Q :=
  v_callV (M' := MX0_checkWords) (c := 0) (As := [a0, a1]) dX0_check_171 ml_X0_81 im_X0_checkWords se_X0_checkWords in_X0 cd_X0_checkWords rfl LY_0 np_X0_checkWords (by decide) hw hj hC k
theorem b_X0_check_174 {h : Nat} {L : LVs} {st : List AV} {S : ST} {Q : Option AV → ST → Prop} (k : o_is L st S (fun L st S => V MX0_check h 175 L st S Q) 1) : V MX0_check h 174 L st S Q :=
  v_istore_n dX0_check_174 rfl (by decide) (fun L st S k => k) k
theorem b_X0_check_175 {h : Nat} {L : LVs} {st : List AV} {S : ST} {Q : Option AV → ST → Prop} (k : o_il L st S (fun L st S => t_1 L st S (fun x => x = nI 0) (fun L st S => V MX0_check h 179 L st S Q) (fun L st S => V MX0_check h 197 L st S Q)) 1) : V MX0_check h 175 L st S Q :=
  v_iload_n dX0_check_175 rfl (fun L st S k => w_if_ne dX0_check_176 (by decide) rfl k) k
theorem b_X0_check_179 {h : Nat} {L : LVs} {st : List AV} {S : ST} {Q : Option AV → ST → Prop} (k : o_al L st S (fun L st S => o_get L st S (fun L st S => o_get L st S (fun L st S => o_c L st S (fun L st S => t_2 L st S (fun x y => x = y) (fun L st S => V MX0_check h 192 L st S Q) (fun L st S => V MX0_check h 197 L st S Q)) (nI 205)) 6 8 (0, 0, 0)) 0 1 (4, 6, 0)) 0) : V MX0_check h 179 L st S Q :=
  v_aload_n dX0_check_179 rfl (fun L st S k => v_get dX0_check_180 rfl iX0 LY_0 rfl (by decide) rfl fl_X0_15 (fun L st S k => v_get dX0_check_183 rfl iX6 LY_6 rfl (by decide) rfl fl_X0_34 (fun L st S k => v_sipush dX0_check_186 (by decide) (fun L st S k => w_icmp_ne dX0_check_189 (by decide) rfl k) k) k) k) k
theorem b_X0_check_192 {h : Nat} {L : LVs} {st : List AV} {S : ST} {Q : Option AV → ST → Prop} (k : o_al L st S (fun L st S => V MX0_check h 193 L st S Q) 0) : V MX0_check h 192 L st S Q :=
  v_aload_n dX0_check_192 rfl (fun L st S k => k) k
theorem k_X0_check_193 {h : Nat} {L : LVs} {st : List AV} {S : ST} {Q Q' : Option AV → ST → Prop} {j : Nat} (hC : Ct MX0_checkTail h [vR 0 j] S Q') (k : ∀ (r : Option AV) (S' : ST), Q' r S' → V MX0_check (h + 1) 196 L (r.toList ++ st) S' Q) (hj : j < NI 0) (hw : wid st ≤ 8) : V MX0_check (h + 1) 193 L (vR 0 j :: st) S Q :=
  v_callV (M' := MX0_checkTail) (c := 0) (As := []) dX0_check_193 ml_X0_85 im_X0_checkTail se_X0_checkTail in_X0 cd_X0_checkTail rfl LY_0 np_X0_checkTail (by decide) hw hj hC k
theorem b_X0_check_196 {h : Nat} {L : LVs} {st : List AV} {S : ST} {Q : Option AV → ST → Prop} (k : o_is L st S (fun L st S => V MX0_check h 197 L st S Q) 1) : V MX0_check h 196 L st S Q :=
  v_istore_n dX0_check_196 rfl (by decide) (fun L st S k => k) k
theorem b_X0_check_197 {h : Nat} {L : LVs} {st : List AV} {S : ST} {Q : Option AV → ST → Prop} (k : o_il L st S (fun L st S => t_1 L st S (fun x => x = nI 0) (fun L st S => V MX0_check h 201 L st S Q) (fun L st S => V MX0_check h 216 L st S Q)) 1) : V MX0_check h 197 L st S Q :=
  v_iload_n dX0_check_197 rfl (fun L st S k => w_if_ne dX0_check_198 (by decide) rfl k) k
theorem b_X0_check_201 {h : Nat} {L : LVs} {st : List AV} {S : ST} {Q : Option AV → ST → Prop} (k : o_al L st S (fun L st S => o_get L st S (fun L st S => o_c L st S (fun L st S => t_2 L st S (fun x y => x ≤ y) (fun L st S => V MX0_check h 216 L st S Q) (fun L st S => V MX0_check h 210 L st S Q)) (nI 10)) 0 5 (0, 0, 0)) 0) : V MX0_check h 201 L st S Q :=
  v_aload_n dX0_check_201 rfl (fun L st S k => v_get dX0_check_202 rfl iX0 LY_0 rfl (by decide) rfl fl_X0_31 (fun L st S k => v_bipush dX0_check_205 (by decide) (fun L st S k => w_icmp_le dX0_check_207 (by decide) rfl k) k) k) k
theorem b_X0_check_210 {h : Nat} {L : LVs} {st : List AV} {S : ST} {Q : Option AV → ST → Prop} (k : o_c L st S (fun L st S => V MX0_check h 217 L st S Q) (-1008)) : V MX0_check h 210 L st S Q :=
  v_sipush dX0_check_210 (by decide) (fun L st S k => v_goto dX0_check_213 (by decide) k) k
theorem b_X0_check_216 {h : Nat} {L : LVs} {st : List AV} {S : ST} {Q : Option AV → ST → Prop} (k : o_il L st S (fun L st S => V MX0_check h 217 L st S Q) 1) : V MX0_check h 216 L st S Q :=
  v_iload_n dX0_check_216 rfl (fun L st S k => k) k
theorem b_X0_check_217 {h : Nat} {L : LVs} {st : List AV} {S : ST} {Q : Option AV → ST → Prop} (k : t_ir st S Q) : V MX0_check h 217 L st S Q :=
  w_ir dX0_check_217 rfl k
-- QueryForge$Checker.checkCreate()I
theorem dX0_checkCreate_0 : decode cX0_checkCreate 0 = .ok (.aload_n 0, 1) := by decide +kernel
theorem dX0_checkCreate_1 : decode cX0_checkCreate 1 = .ok (.getfield 19, 3) := by decide +kernel
theorem dX0_checkCreate_4 : decode cX0_checkCreate 4 = .ok (.aload_n 0, 1) := by decide +kernel
theorem dX0_checkCreate_5 : decode cX0_checkCreate 5 = .ok (.getfield 15, 3) := by decide +kernel
theorem dX0_checkCreate_8 : decode cX0_checkCreate 8 = .ok (.getfield 48, 3) := by decide +kernel
theorem dX0_checkCreate_11 : decode cX0_checkCreate 11 = .ok (.iconst 0, 1) := by decide +kernel
theorem dX0_checkCreate_12 : decode cX0_checkCreate 12 = .ok (.iaload, 1) := by decide +kernel
theorem dX0_checkCreate_13 : decode cX0_checkCreate 13 = .ok (.invokevirtual 51, 3) := by decide +kernel
theorem dX0_checkCreate_16 : decode cX0_checkCreate 16 = .ok (.iconst (-1), 1) := by decide +kernel
theorem dX0_checkCreate_17 : decode cX0_checkCreate 17 = .ok (.if_icmp .eq 7, 3) := by decide +kernel
theorem dX0_checkCreate_20 : decode cX0_checkCreate 20 = .ok (.sipush (-1003), 3) := by decide +kernel
theorem dX0_checkCreate_23 : decode cX0_checkCreate 23 = .ok (.ireturn, 1) := by decide +kernel
theorem dX0_checkCreate_24 : decode cX0_checkCreate 24 = .ok (.aload_n 0, 1) := by decide +kernel
theorem dX0_checkCreate_25 : decode cX0_checkCreate 25 = .ok (.getfield 19, 3) := by decide +kernel
theorem dX0_checkCreate_28 : decode cX0_checkCreate 28 = .ok (.invokevirtual 88, 3) := by decide +kernel
theorem dX0_checkCreate_31 : decode cX0_checkCreate 31 = .ok (.ifCond .eq 7, 3) := by decide +kernel
theorem dX0_checkCreate_34 : decode cX0_checkCreate 34 = .ok (.sipush (-1006), 3) := by decide +kernel
theorem dX0_checkCreate_37 : decode cX0_checkCreate 37 = .ok (.ireturn, 1) := by decide +kernel
theorem dX0_checkCreate_38 : decode cX0_checkCreate 38 = .ok (.iconst 0, 1) := by decide +kernel
theorem dX0_checkCreate_39 : decode cX0_checkCreate 39 = .ok (.istore_n 1, 1) := by decide +kernel
theorem dX0_checkCreate_40 : decode cX0_checkCreate 40 = .ok (.iload_n 1, 1) := by decide +kernel
theorem dX0_checkCreate_41 : decode cX0_checkCreate 41 = .ok (.aload_n 0, 1) := by decide +kernel
theorem dX0_checkCreate_42 : decode cX0_checkCreate 42 = .ok (.getfield 15, 3) := by decide +kernel
theorem dX0_checkCreate_45 : decode cX0_checkCreate 45 = .ok (.getfield 92, 3) := by decide +kernel
theorem dX0_checkCreate_48 : decode cX0_checkCreate 48 = .ok (.if_icmp .ge 47, 3) := by decide +kernel
theorem dX0_checkCreate_51 : decode cX0_checkCreate 51 = .ok (.iconst 0, 1) := by decide +kernel
theorem dX0_checkCreate_52 : decode cX0_checkCreate 52 = .ok (.istore_n 2, 1) := by decide +kernel
theorem dX0_checkCreate_53 : decode cX0_checkCreate 53 = .ok (.iload_n 2, 1) := by decide +kernel
theorem dX0_checkCreate_54 : decode cX0_checkCreate 54 = .ok (.iload_n 1, 1) := by decide +kernel
theorem dX0_checkCreate_55 : decode cX0_checkCreate 55 = .ok (.if_icmp .ge 34, 3) := by decide +kernel
theorem dX0_checkCreate_58 : decode cX0_checkCreate 58 = .ok (.aload_n 0, 1) := by decide +kernel
theorem dX0_checkCreate_59 : decode cX0_checkCreate 59 = .ok (.getfield 15, 3) := by decide +kernel
theorem dX0_checkCreate_62 : decode cX0_checkCreate 62 = .ok (.getfield 95, 3) := by decide +kernel
theorem dX0_checkCreate_65 : decode cX0_checkCreate 65 = .ok (.iload_n 1, 1) := by decide +kernel
theorem dX0_checkCreate_66 : decode cX0_checkCreate 66 = .ok (.iaload, 1) := by decide +kernel
theorem dX0_checkCreate_67 : decode cX0_checkCreate 67 = .ok (.aload_n 0, 1) := by decide +kernel
theorem dX0_checkCreate_68 : decode cX0_checkCreate 68 = .ok (.getfield 15, 3) := by decide +kernel
theorem dX0_checkCreate_71 : decode cX0_checkCreate 71 = .ok (.getfield 95, 3) := by decide +kernel
theorem dX0_checkCreate_74 : decode cX0_checkCreate 74 = .ok (.iload_n 2, 1) := by decide +kernel
theorem dX0_checkCreate_75 : decode cX0_checkCreate 75 = .ok (.iaload, 1) := by decide +kernel
theorem dX0_checkCreate_76 : decode cX0_checkCreate 76 = .ok (.if_icmp .ne 7, 3) := by decide +kernel
theorem dX0_checkCreate_79 : decode cX0_checkCreate 79 = .ok (.sipush (-1003), 3) := by decide +kernel
theorem dX0_checkCreate_82 : decode cX0_checkCreate 82 = .ok (.ireturn, 1) := by decide +kernel
theorem dX0_checkCreate_83 : decode cX0_checkCreate 83 = .ok (.iinc 2 1, 3) := by decide +kernel
theorem dX0_checkCreate_86 : decode cX0_checkCreate 86 = .ok (.goto (-33), 3) := by decide +kernel
theorem dX0_checkCreate_89 : decode cX0_checkCreate 89 = .ok (.iinc 1 1, 3) := by decide +kernel
theorem dX0_checkCreate_92 : decode cX0_checkCreate 92 = .ok (.goto (-52), 3) := by decide +kernel
theorem dX0_checkCreate_95 : decode cX0_checkCreate 95 = .ok (.iconst 0, 1) := by decide +kernel
theorem dX0_checkCreate_96 : decode cX0_checkCreate 96 = .ok (.ireturn, 1) := by decide +kernel
theorem b_X0_checkCreate_0 {h : Nat} {L : LVs} {st : List AV} {S : ST} {Q : Option AV → ST → Prop} (k : o_al L st S (fun L st S => o_get L st S (fun L st S => o_al L st S (fun L st S => o_get L st S (fun L st S => o_get L st S (fun L st S => o_c L st S (fun L st S => o_iald L st S (fun L st S => V MX0_checkCreate h 13 L st S Q)) (nI 0)) 6 1 (3, 22, 0)) 0 1 (4, 6, 0)) 0) 0 2 (4, 8, 0)) 0) : V MX0_checkCreate h 0 L st S Q :=
  v_aload_n dX0_checkCreate_0 rfl (fun L st S k => v_get dX0_checkCreate_1 rfl iX0 LY_0 rfl (by decide) rfl fl_X0_19 (fun L st S k => v_aload_n dX0_checkCreate_4 rfl (fun L st S k => v_get dX0_checkCreate_5 rfl iX0 LY_0 rfl (by decide) rfl fl_X0_15 (fun L st S k => v_get dX0_checkCreate_8 rfl iX6 LY_6 rfl (by decide) rfl fl_X0_48 (fun L st S k => v_iconst dX0_checkCreate_11 (by decide) (fun L st S k => v_iaload dX0_checkCreate_12 (fun L st S k => k) k) k) k) k) k) k) k
theorem k_X0_checkCreate_13 {h : Nat} {L : LVs} {st : List AV} {S : ST} {Q Q' : Option AV → ST → Prop} {j : Nat} {a0 : AV} (hC : Ct MX8_find h [vR 8 j, a0] S Q') (k : ∀ (r : Option AV) (S' : ST), Q' r S' → V MX0_checkCreate (h + 1) 16 L (r.toList ++ st) S' Q) (hj : j < NI 8) (hw : wid st ≤ 8) : V MX0_checkCreate (h + 1) 13 L (a0 :: vR 8 j :: st) S Q :=
  v_callV (M' := MX8_find) (c := 8) (As := [a0]) dX0_checkCreate_13 ml_X0_51 im_X8_find se_X8_find in_X8 cd_X8_find rfl LY_8 np_X8_find (by decide) hw hj hC k
theorem b_X0_checkCreate_16 {h : Nat} {L : LVs} {st : List AV} {S : ST} {Q : Option AV → ST → Prop} (k : o_c L st S (fun L st S => t_2 L st S (fun x y => x = y) (fun L st S => V MX0_checkCreate h 24 L st S Q) (fun L st S => V MX0_checkCreate h 20 L st S Q)) (-1)) : V MX0_checkCreate h 16 L st S Q :=
  v_iconst dX0_checkCreate_16 (by decide) (fun L st S k => w_icmp_eq dX0_checkCreate_17 (by decide) rfl k) k
theorem b_X0_checkCreate_20 {h : Nat} {L : LVs} {st : List AV} {S : ST} {Q : Option AV → ST → Prop} (k : o_c L st S (fun L st S => t_ir st S Q) (-1003)) : V MX0_checkCreate h 20 L st S Q :=
  v_sipush dX0_checkCreate_20 (by decide) (fun L st S k => w_ir dX0_checkCreate_23 rfl k) k
theorem b_X0_checkCreate_24 {h : Nat} {L : LVs} {st : List AV} {S : ST} {Q : Option AV → ST → Prop} (k : o_al L st S (fun L st S => o_get L st S (fun L st S => V MX0_checkCreate h 28 L st S Q) 0 2 (4, 8, 0)) 0) : V MX0_checkCreate h 24 L st S Q :=
  v_aload_n dX0_checkCreate_24 rfl (fun L st S k => v_get dX0_checkCreate_25 rfl iX0 LY_0 rfl (by decide) rfl fl_X0_19 (fun L st S k => k) k) k
theorem k_X0_checkCreate_28 {h : Nat} {L : LVs} {st : List AV} {S : ST} {Q Q' : Option AV → ST → Prop} {j : Nat} (hC : Ct MX8_isFull h [vR 8 j] S Q') (k : ∀ (r : Option AV) (S' : ST), Q' r S' → V MX0_checkCreate (h + 1) 31 L (r.toList ++ st) S' Q) (hj : j < NI 8) (hw : wid st ≤ 8) : V MX0_checkCreate (h + 1) 28 L (vR 8 j :: st) S Q :=
  v_callV (M' := MX8_isFull) (c := 8) (As := []) dX0_checkCreate_28 ml_X0_88 im_X8_isFull se_X8_isFull in_X8 cd_X8_isFull rfl LY_8 np_X8_isFull (by decide) hw hj hC k
theorem b_X0_checkCreate_31 {h : Nat} {L : LVs} {st : List AV} {S : ST} {Q : Option AV → ST → Prop} (k : t_1 L st S (fun x => x = nI 0) (fun L st S => V MX0_checkCreate h 38 L st S Q) (fun L st S => V MX0_checkCreate h 34 L st S Q)) : V MX0_checkCreate h 31 L st S Q :=
  w_if_eq dX0_checkCreate_31 (by decide) rfl k
theorem b_X0_checkCreate_34 {h : Nat} {L : LVs} {st : List AV} {S : ST} {Q : Option AV → ST → Prop} (k : o_c L st S (fun L st S => t_ir st S Q) (-1006)) : V MX0_checkCreate h 34 L st S Q :=
  v_sipush dX0_checkCreate_34 (by decide) (fun L st S k => w_ir dX0_checkCreate_37 rfl k) k
theorem b_X0_checkCreate_38 {h : Nat} {L : LVs} {st : List AV} {S : ST} {Q : Option AV → ST → Prop} (k : o_c L st S (fun L st S => o_is L st S (fun L st S => V MX0_checkCreate h 40 L st S Q) 1) (nI 0)) : V MX0_checkCreate h 38 L st S Q :=
  v_iconst dX0_checkCreate_38 (by decide) (fun L st S k => v_istore_n dX0_checkCreate_39 rfl (by decide) (fun L st S k => k) k) k
theorem b_X0_checkCreate_40 {h : Nat} {L : LVs} {st : List AV} {S : ST} {Q : Option AV → ST → Prop} (k : o_il L st S (fun L st S => o_al L st S (fun L st S => o_get L st S (fun L st S => o_get L st S (fun L st S => t_2 L st S (fun x y => y ≤ x) (fun L st S => V MX0_checkCreate h 95 L st S Q) (fun L st S => V MX0_checkCreate h 51 L st S Q)) 6 10 (0, 0, 0)) 0 1 (4, 6, 0)) 0) 1) : V MX0_checkCreate h 40 L st S Q :=
  v_iload_n dX0_checkCreate_40 rfl (fun L st S k => v_aload_n dX0_checkCreate_41 rfl (fun L st S k => v_get dX0_checkCreate_42 rfl iX0 LY_0 rfl (by decide) rfl fl_X0_15 (fun L st S k => v_get dX0_checkCreate_45 rfl iX6 LY_6 rfl (by decide) rfl fl_X0_92 (fun L st S k => w_icmp_ge dX0_checkCreate_48 (by decide) rfl k) k) k) k) k
theorem b_X0_checkCreate_51 {h : Nat} {L : LVs} {st : List AV} {S : ST} {Q : Option AV → ST → Prop} (k : o_c L st S (fun L st S => o_is L st S (fun L st S => V MX0_checkCreate h 53 L st S Q) 2) (nI 0)) : V MX0_checkCreate h 51 L st S Q :=
  v_iconst dX0_checkCreate_51 (by decide) (fun L st S k => v_istore_n dX0_checkCreate_52 rfl (by decide) (fun L st S k => k) k) k
theorem b_X0_checkCreate_53 {h : Nat} {L : LVs} {st : List AV} {S : ST} {Q : Option AV → ST → Prop} (k : o_il L st S (fun L st S => o_il L st S (fun L st S => t_2 L st S (fun x y => y ≤ x) (fun L st S => V MX0_checkCreate h 89 L st S Q) (fun L st S => V MX0_checkCreate h 58 L st S Q)) 1) 2) : V MX0_checkCreate h 53 L st S Q :=
  v_iload_n dX0_checkCreate_53 rfl (fun L st S k => v_iload_n dX0_checkCreate_54 rfl (fun L st S k => w_icmp_ge dX0_checkCreate_55 (by decide) rfl k) k) k
theorem b_X0_checkCreate_58 {h : Nat} {L : LVs} {st : List AV} {S : ST} {Q : Option AV → ST → Prop} (k : o_al L st S (fun L st S => o_get L st S (fun L st S => o_get L st S (fun L st S => o_il L st S (fun L st S => o_iald L st S (fun L st S => o_al L st S (fun L st S => o_get L st S (fun L st S => o_get L st S (fun L st S => o_il L st S (fun L st S => o_iald L st S (fun L st S => t_2 L st S (fun x y => x = y) (fun L st S => V MX0_checkCreate h 79 L st S Q) (fun L st S => V MX0_checkCreate h 83 L st S Q))) 2) 6 3 (3, 24, 0)) 0 1 (4, 6, 0)) 0)) 1) 6 3 (3, 24, 0)) 0 1 (4, 6, 0)) 0) : V MX0_checkCreate h 58 L st S Q :=
  v_aload_n dX0_checkCreate_58 rfl (fun L st S k => v_get dX0_checkCreate_59 rfl iX0 LY_0 rfl (by decide) rfl fl_X0_15 (fun L st S k => v_get dX0_checkCreate_62 rfl iX6 LY_6 rfl (by decide) rfl fl_X0_95 (fun L st S k => v_iload_n dX0_checkCreate_65 rfl (fun L st S k => v_iaload dX0_checkCreate_66 (fun L st S k => v_aload_n dX0_checkCreate_67 rfl (fun L st S k => v_get dX0_checkCreate_68 rfl iX0 LY_0 rfl (by decide) rfl fl_X0_15 (fun L st S k => v_get dX0_checkCreate_71 rfl iX6 LY_6 rfl (by decide) rfl fl_X0_95 (fun L st S k => v_iload_n dX0_checkCreate_74 rfl (fun L st S k => v_iaload dX0_checkCreate_75 (fun L st S k => w_icmp_ne dX0_checkCreate_76 (by decide) rfl k) k) k) k) k) k) k) k) k) k) k
theorem b_X0_checkCreate_79 {h : Nat} {L : LVs} {st : List AV} {S : ST} {Q : Option AV → ST → Prop} (k : o_c L st S (fun L st S => t_ir st S Q) (-1003)) : V MX0_checkCreate h 79 L st S Q :=
  v_sipush dX0_checkCreate_79 (by decide) (fun L st S k => w_ir dX0_checkCreate_82 rfl k) k
theorem b_X0_checkCreate_83 {h : Nat} {L : LVs} {st : List AV} {S : ST} {Q : Option AV → ST → Prop} (k : o_inc L st S (fun L st S => V MX0_checkCreate h 53 L st S Q) 2 (nI 1)) : V MX0_checkCreate h 83 L st S Q :=
  v_iinc dX0_checkCreate_83 (by decide) (by decide) (fun L st S k => v_goto dX0_checkCreate_86 (by decide) k) k
theorem b_X0_checkCreate_89 {h : Nat} {L : LVs} {st : List AV} {S : ST} {Q : Option AV → ST → Prop} (k : o_inc L st S (fun L st S => V MX0_checkCreate h 40 L st S Q) 1 (nI 1)) : V MX0_checkCreate h 89 L st S Q :=
  v_iinc dX0_checkCreate_89 (by decide) (by decide) (fun L st S k => v_goto dX0_checkCreate_92 (by decide) k) k
theorem b_X0_checkCreate_95 {h : Nat} {L : LVs} {st : List AV} {S : ST} {Q : Option AV → ST → Prop} (k : o_c L st S (fun L st S => t_ir st S Q) (nI 0)) : V MX0_checkCreate h 95 L st S Q :=
  v_iconst dX0_checkCreate_95 (by decide) (fun L st S k => w_ir dX0_checkCreate_96 rfl k) k
-- QueryForge$Checker.checkInsert()I
theorem dX0_checkInsert_0 : decode cX0_checkInsert 0 = .ok (.aload_n 0, 1) := by decide +kernel
theorem dX0_checkInsert_1 : decode cX0_checkInsert 1 = .ok (.getfield 19, 3) := by decide +kernel
theorem dX0_checkInsert_4 : decode cX0_checkInsert 4 = .ok (.aload_n 0, 1) := by decide +kernel
theorem dX0_checkInsert_5 : decode cX0_checkInsert 5 = .ok (.getfield 15, 3) := by decide +kernel
theorem dX0_checkInsert_8 : decode cX0_checkInsert 8 = .ok (.getfield 57, 3) := by decide +kernel
theorem dX0_checkInsert_11 : decode cX0_checkInsert 11 = .ok (.iconst 0, 1) := by decide +kernel
theorem dX0_checkInsert_12 : decode cX0_checkInsert 12 = .ok (.iaload, 1) := by decide +kernel
theorem dX0_checkInsert_13 : decode cX0_checkInsert 13 = .ok (.invokevirtual 98, 3) := by decide +kernel
theorem dX0_checkInsert_16 : decode cX0_checkInsert 16 = .ok (.astore_n 1, 1) := by decide +kernel
theorem dX0_checkInsert_17 : decode cX0_checkInsert 17 = .ok (.aload_n 0, 1) := by decide +kernel
theorem dX0_checkInsert_18 : decode cX0_checkInsert 18 = .ok (.getfield 15, 3) := by decide +kernel
theorem dX0_checkInsert_21 : decode cX0_checkInsert 21 = .ok (.getfield 92, 3) := by decide +kernel
theorem dX0_checkInsert_24 : decode cX0_checkInsert 24 = .ok (.aload_n 1, 1) := by decide +kernel
theorem dX0_checkInsert_25 : decode cX0_checkInsert 25 = .ok (.invokevirtual 102, 3) := by decide +kernel
theorem dX0_checkInsert_28 : decode cX0_checkInsert 28 = .ok (.if_icmp .eq 7, 3) := by decide +kernel
theorem dX0_checkInsert_31 : decode cX0_checkInsert 31 = .ok (.sipush (-1007), 3) := by decide +kernel
theorem dX0_checkInsert_34 : decode cX0_checkInsert 34 = .ok (.ireturn, 1) := by decide +kernel
theorem dX0_checkInsert_35 : decode cX0_checkInsert 35 = .ok (.iconst 0, 1) := by decide +kernel
theorem dX0_checkInsert_36 : decode cX0_checkInsert 36 = .ok (.istore_n 2, 1) := by decide +kernel
theorem dX0_checkInsert_37 : decode cX0_checkInsert 37 = .ok (.iload_n 2, 1) := by decide +kernel
theorem dX0_checkInsert_38 : decode cX0_checkInsert 38 = .ok (.aload_n 0, 1) := by decide +kernel
theorem dX0_checkInsert_39 : decode cX0_checkInsert 39 = .ok (.getfield 15, 3) := by decide +kernel
theorem dX0_checkInsert_42 : decode cX0_checkInsert 42 = .ok (.getfield 92, 3) := by decide +kernel
theorem dX0_checkInsert_45 : decode cX0_checkInsert 45 = .ok (.if_icmp .ge 33, 3) := by decide +kernel
theorem dX0_checkInsert_48 : decode cX0_checkInsert 48 = .ok (.aload_n 0, 1) := by decide +kernel
theorem dX0_checkInsert_49 : decode cX0_checkInsert 49 = .ok (.getfield 15, 3) := by decide +kernel
theorem dX0_checkInsert_52 : decode cX0_checkInsert 52 = .ok (.getfield 107, 3) := by decide +kernel
theorem dX0_checkInsert_55 : decode cX0_checkInsert 55 = .ok (.iload_n 2, 1) := by decide +kernel
theorem dX0_checkInsert_56 : decode cX0_checkInsert 56 = .ok (.iaload, 1) := by decide +kernel
theorem dX0_checkInsert_57 : decode cX0_checkInsert 57 = .ok (.aload_n 1, 1) := by decide +kernel
theorem dX0_checkInsert_58 : decode cX0_checkInsert 58 = .ok (.iload_n 2, 1) := by decide +kernel
theorem dX0_checkInsert_59 : decode cX0_checkInsert 59 = .ok (.invokevirtual 108, 3) := by decide +kernel
theorem dX0_checkInsert_62 : decode cX0_checkInsert 62 = .ok (.invokestatic 111, 3) := by decide +kernel
theorem dX0_checkInsert_65 : decode cX0_checkInsert 65 = .ok (.ifCond .eq 7, 3) := by decide +kernel
theorem dX0_checkInsert_68 : decode cX0_checkInsert 68 = .ok (.sipush (-1002), 3) := by decide +kernel
theorem dX0_checkInsert_71 : decode cX0_checkInsert 71 = .ok (.ireturn, 1) := by decide +kernel
theorem dX0_checkInsert_72 : decode cX0_checkInsert 72 = .ok (.iinc 2 1, 3) := by decide +kernel
theorem dX0_checkInsert_75 : decode cX0_checkInsert 75 = .ok (.goto (-38), 3) := by decide +kernel
theorem dX0_checkInsert_78 : decode cX0_checkInsert 78 = .ok (.aload_n 1, 1) := by decide +kernel
theorem dX0_checkInsert_79 : decode cX0_checkInsert 79 = .ok (.invokevirtual 115, 3) := by decide +kernel
theorem dX0_checkInsert_82 : decode cX0_checkInsert 82 = .ok (.ifCond .eq 9, 3) := by decide +kernel
theorem dX0_checkInsert_85 : decode cX0_checkInsert 85 = .ok (.sipush (-1006), 3) := by decide +kernel
theorem dX0_checkInsert_88 : decode cX0_checkInsert 88 = .ok (.goto 4, 3) := by decide +kernel
theorem dX0_checkInsert_91 : decode cX0_checkInsert 91 = .ok (.iconst 0, 1) := by decide +kernel
theorem dX0_checkInsert_92 : decode cX0_checkInsert 92 = .ok (.ireturn, 1) := by decide +kernel
theorem b_X0_checkInsert_0 {h : Nat} {L : LVs} {st : List AV} {S : ST} {Q : Option AV → ST → Prop} (k : o_al L st S (fun L st S => o_get L st S (fun L st S => o_al L st S (fun L st S => o_get L st S (fun L st S => o_get L st S (fun L st S => o_c L st S (fun L st S => o_iald L st S (fun L st S => V MX0_checkInsert h 13 L st S Q)) (nI 0)) 6 2 (3, 23, 0)) 0 1 (4, 6, 0)) 0) 0 2 (4, 8, 0)) 0) : V MX0_checkInsert h 0 L st S Q :=
  v_aload_n dX0_checkInsert_0 rfl (fun L st S k => v_get dX0_checkInsert_1 rfl iX0 LY_0 rfl (by decide) rfl fl_X0_19 (fun L st S k => v_aload_n dX0_checkInsert_4 rfl (fun L st S k => v_get dX0_checkInsert_5 rfl iX0 LY_0 rfl (by decide) rfl fl_X0_15 (fun L st S k => v_get dX0_checkInsert_8 rfl iX6 LY_6 rfl (by decide) rfl fl_X0_57 (fun L st S k => v_iconst dX0_checkInsert_11 (by decide) (fun L st S k => v_iaload dX0_checkInsert_12 (fun L st S k => k) k) k) k) k) k) k) k
theorem k_X0_checkInsert_13 {h : Nat} {L : LVs} {st : List AV} {S : ST} {Q Q' : Option AV → ST → Prop} {j : Nat} {a0 : AV} (hC : Ct MX8_tableAt h [vR 8 j, a0] S Q') (k : ∀ (r : Option AV) (S' : ST), Q' r S' → V MX0_checkInsert (h + 1) 16 L (r.toList ++ st) S' Q) (hj : j < NI 8) (hw : wid st ≤ 8) : V MX0_checkInsert (h + 1) 13 L (a0 :: vR 8 j :: st) S Q :=
  v_callV (M' := MX8_tableAt) (c := 8) (As := [a0]) dX0_checkInsert_13 ml_X0_98 im_X8_tableAt se_X8_tableAt in_X8 cd_X8_tableAt rfl LY_8 np_X8_tableAt (by decide) hw hj hC k
theorem b_X0_checkInsert_16 {h : Nat} {L : LVs} {st : List AV} {S : ST} {Q : Option AV → ST → Prop} (k : o_as L st S (fun L st S => o_al L st S (fun L st S => o_get L st S (fun L st S => o_get L st S (fun L st S => o_al L st S (fun L st S => V MX0_checkInsert h 25 L st S Q) 1) 6 10 (0, 0, 0)) 0 1 (4, 6, 0)) 0) 1) : V MX0_checkInsert h 16 L st S Q :=
  v_astore_n dX0_checkInsert_16 rfl (by decide) (fun L st S k => v_aload_n dX0_checkInsert_17 rfl (fun L st S k => v_get dX0_checkInsert_18 rfl iX0 LY_0 rfl (by decide) rfl fl_X0_15 (fun L st S k => v_get dX0_checkInsert_21 rfl iX6 LY_6 rfl (by decide) rfl fl_X0_92 (fun L st S k => v_aload_n dX0_checkInsert_24 rfl (fun L st S k => k) k) k) k) k) k
theorem k_X0_checkInsert_25 {h : Nat} {L : LVs} {st : List AV} {S : ST} {Q Q' : Option AV → ST → Prop} {j : Nat} (hC : Ct MX7_columnCount h [vR 7 j] S Q') (k : ∀ (r : Option AV) (S' : ST), Q' r S' → V MX0_checkInsert (h + 1) 28 L (r.toList ++ st) S' Q) (hj : j < NI 7) (hw : wid st ≤ 8) : V MX0_checkInsert (h + 1) 25 L (vR 7 j :: st) S Q :=
  v_callV (M' := MX7_columnCount) (c := 7) (As := []) dX0_checkInsert_25 ml_X0_102 im_X7_columnCount se_X7_columnCount in_X7 cd_X7_columnCount rfl LY_7 np_X7_columnCount (by decide) hw hj hC k
theorem b_X0_checkInsert_28 {h : Nat} {L : LVs} {st : List AV} {S : ST} {Q : Option AV → ST → Prop} (k : t_2 L st S (fun x y => x = y) (fun L st S => V MX0_checkInsert h 35 L st S Q) (fun L st S => V MX0_checkInsert h 31 L st S Q)) : V MX0_checkInsert h 28 L st S Q :=
  w_icmp_eq dX0_checkInsert_28 (by decide) rfl k
theorem b_X0_checkInsert_31 {h : Nat} {L : LVs} {st : List AV} {S : ST} {Q : Option AV → ST → Prop} (k : o_c L st S (fun L st S => t_ir st S Q) (-1007)) : V MX0_checkInsert h 31 L st S Q :=
  v_sipush dX0_checkInsert_31 (by decide) (fun L st S k => w_ir dX0_checkInsert_34 rfl k) k
theorem b_X0_checkInsert_35 {h : Nat} {L : LVs} {st : List AV} {S : ST} {Q : Option AV → ST → Prop} (k : o_c L st S (fun L st S => o_is L st S (fun L st S => V MX0_checkInsert h 37 L st S Q) 2) (nI 0)) : V MX0_checkInsert h 35 L st S Q :=
  v_iconst dX0_checkInsert_35 (by decide) (fun L st S k => v_istore_n dX0_checkInsert_36 rfl (by decide) (fun L st S k => k) k) k
theorem b_X0_checkInsert_37 {h : Nat} {L : LVs} {st : List AV} {S : ST} {Q : Option AV → ST → Prop} (k : o_il L st S (fun L st S => o_al L st S (fun L st S => o_get L st S (fun L st S => o_get L st S (fun L st S => t_2 L st S (fun x y => y ≤ x) (fun L st S => V MX0_checkInsert h 78 L st S Q) (fun L st S => V MX0_checkInsert h 48 L st S Q)) 6 10 (0, 0, 0)) 0 1 (4, 6, 0)) 0) 2) : V MX0_checkInsert h 37 L st S Q :=
  v_iload_n dX0_checkInsert_37 rfl (fun L st S k => v_aload_n dX0_checkInsert_38 rfl (fun L st S k => v_get dX0_checkInsert_39 rfl iX0 LY_0 rfl (by decide) rfl fl_X0_15 (fun L st S k => v_get dX0_checkInsert_42 rfl iX6 LY_6 rfl (by decide) rfl fl_X0_92 (fun L st S k => w_icmp_ge dX0_checkInsert_45 (by decide) rfl k) k) k) k) k
theorem b_X0_checkInsert_48 {h : Nat} {L : LVs} {st : List AV} {S : ST} {Q : Option AV → ST → Prop} (k : o_al L st S (fun L st S => o_get L st S (fun L st S => o_get L st S (fun L st S => o_il L st S (fun L st S => o_iald L st S (fun L st S => o_al L st S (fun L st S => o_il L st S (fun L st S => V MX0_checkInsert h 59 L st S Q) 2) 1)) 2) 6 4 (3, 25, 0)) 0 1 (4, 6, 0)) 0) : V MX0_checkInsert h 48 L st S Q :=
  v_aload_n dX0_checkInsert_48 rfl (fun L st S k => v_get dX0_checkInsert_49 rfl iX0 LY_0 rfl (by decide) rfl fl_X0_15 (fun L st S k => v_get dX0_checkInsert_52 rfl iX6 LY_6 rfl (by decide) rfl fl_X0_107 (fun L st S k => v_iload_n dX0_checkInsert_55 rfl (fun L st S k => v_iaload dX0_checkInsert_56 (fun L st S k => v_aload_n dX0_checkInsert_57 rfl (fun L st S k => v_iload_n dX0_checkInsert_58 rfl (fun L st S k => k) k) k) k) k) k) k) k
theorem k_X0_checkInsert_59 {h : Nat} {L : LVs} {st : List AV} {S : ST} {Q Q' : Option AV → ST → Prop} {j : Nat} {a0 : AV} (hC : Ct MX7_typeOf h [vR 7 j, a0] S Q') (k : ∀ (r : Option AV) (S' : ST), Q' r S' → V MX0_checkInsert (h + 1) 62 L (r.toList ++ st) S' Q) (hj : j < NI 7) (hw : wid st ≤ 8) : V MX0_checkInsert (h + 1) 59 L (a0 :: vR 7 j :: st) S Q :=
  v_callV (M' := MX7_typeOf) (c := 7) (As := [a0]) dX0_checkInsert_59 ml_X0_108 im_X7_typeOf se_X7_typeOf in_X7 cd_X7_typeOf rfl LY_7 np_X7_typeOf (by decide) hw hj hC k
theorem k_X0_checkInsert_62 {h : Nat} {L : LVs} {st : List AV} {S : ST} {Q Q' : Option AV → ST → Prop} {a0 a1 : AV} (hC : Ct MX0_clash h [a0, a1] S Q') (k : ∀ (r : Option AV) (S' : ST), Q' r S' → V MX0_checkInsert (h + 1) 65 L (r.toList ++ st) S' Q) (hw : wid st ≤ 8) : V MX0_checkInsert (h + 1) 62 L (a1 :: a0 :: st) S Q :=
  v_callS (M' := MX0_clash) (As := [a0, a1]) dX0_checkInsert_62 ml_X0_111 sm_X0_clash in_X0 cd_X0_clash ⟨rfl, np_X0_clash⟩ (by decide) hw hC k
theorem b_X0_checkInsert_65 {h : Nat} {L : LVs} {st : List AV} {S : ST} {Q : Option AV → ST → Prop} (k : t_1 L st S (fun x => x = nI 0) (fun L st S => V MX0_checkInsert h 72 L st S Q) (fun L st S => V MX0_checkInsert h 68 L st S Q)) : V MX0_checkInsert h 65 L st S Q :=
  w_if_eq dX0_checkInsert_65 (by decide) rfl k
theorem b_X0_checkInsert_68 {h : Nat} {L : LVs} {st : List AV} {S : ST} {Q : Option AV → ST → Prop} (k : o_c L st S (fun L st S => t_ir st S Q) (-1002)) : V MX0_checkInsert h 68 L st S Q :=
  v_sipush dX0_checkInsert_68 (by decide) (fun L st S k => w_ir dX0_checkInsert_71 rfl k) k
theorem b_X0_checkInsert_72 {h : Nat} {L : LVs} {st : List AV} {S : ST} {Q : Option AV → ST → Prop} (k : o_inc L st S (fun L st S => V MX0_checkInsert h 37 L st S Q) 2 (nI 1)) : V MX0_checkInsert h 72 L st S Q :=
  v_iinc dX0_checkInsert_72 (by decide) (by decide) (fun L st S k => v_goto dX0_checkInsert_75 (by decide) k) k
theorem b_X0_checkInsert_78 {h : Nat} {L : LVs} {st : List AV} {S : ST} {Q : Option AV → ST → Prop} (k : o_al L st S (fun L st S => V MX0_checkInsert h 79 L st S Q) 1) : V MX0_checkInsert h 78 L st S Q :=
  v_aload_n dX0_checkInsert_78 rfl (fun L st S k => k) k
theorem k_X0_checkInsert_79 {h : Nat} {L : LVs} {st : List AV} {S : ST} {Q Q' : Option AV → ST → Prop} {j : Nat} (hC : Ct MX7_isFull h [vR 7 j] S Q') (k : ∀ (r : Option AV) (S' : ST), Q' r S' → V MX0_checkInsert (h + 1) 82 L (r.toList ++ st) S' Q) (hj : j < NI 7) (hw : wid st ≤ 8) : V MX0_checkInsert (h + 1) 79 L (vR 7 j :: st) S Q :=
  v_callV (M' := MX7_isFull) (c := 7) (As := []) dX0_checkInsert_79 ml_X0_115 im_X7_isFull se_X7_isFull in_X7 cd_X7_isFull rfl LY_7 np_X7_isFull (by decide) hw hj hC k
theorem b_X0_checkInsert_82 {h : Nat} {L : LVs} {st : List AV} {S : ST} {Q : Option AV → ST → Prop} (k : t_1 L st S (fun x => x = nI 0) (fun L st S => V MX0_checkInsert h 91 L st S Q) (fun L st S => V MX0_checkInsert h 85 L st S Q)) : V MX0_checkInsert h 82 L st S Q :=
  w_if_eq dX0_checkInsert_82 (by decide) rfl k
theorem b_X0_checkInsert_85 {h : Nat} {L : LVs} {st : List AV} {S : ST} {Q : Option AV → ST → Prop} (k : o_c L st S (fun L st S => V MX0_checkInsert h 92 L st S Q) (-1006)) : V MX0_checkInsert h 85 L st S Q :=
  v_sipush dX0_checkInsert_85 (by decide) (fun L st S k => v_goto dX0_checkInsert_88 (by decide) k) k
theorem b_X0_checkInsert_91 {h : Nat} {L : LVs} {st : List AV} {S : ST} {Q : Option AV → ST → Prop} (k : o_c L st S (fun L st S => V MX0_checkInsert h 92 L st S Q) (nI 0)) : V MX0_checkInsert h 91 L st S Q :=
  v_iconst dX0_checkInsert_91 (by decide) (fun L st S k => k) k
theorem b_X0_checkInsert_92 {h : Nat} {L : LVs} {st : List AV} {S : ST} {Q : Option AV → ST → Prop} (k : t_ir st S Q) : V MX0_checkInsert h 92 L st S Q :=
  w_ir dX0_checkInsert_92 rfl k
-- QueryForge$Checker.checkAssignment()I
theorem dX0_checkAssignment_0 : decode cX0_checkAssignment 0 = .ok (.aload_n 0, 1) := by decide +kernel
theorem dX0_checkAssignment_1 : decode cX0_checkAssignment 1 = .ok (.getfield 19, 3) := by decide +kernel
theorem dX0_checkAssignment_4 : decode cX0_checkAssignment 4 = .ok (.aload_n 0, 1) := by decide +kernel
theorem dX0_checkAssignment_5 : decode cX0_checkAssignment 5 = .ok (.getfield 15, 3) := by decide +kernel
theorem dX0_checkAssignment_8 : decode cX0_checkAssignment 8 = .ok (.getfield 57, 3) := by decide +kernel
theorem dX0_checkAssignment_11 : decode cX0_checkAssignment 11 = .ok (.iconst 0, 1) := by decide +kernel
theorem dX0_checkAssignment_12 : decode cX0_checkAssignment 12 = .ok (.iaload, 1) := by decide +kernel
theorem dX0_checkAssignment_13 : decode cX0_checkAssignment 13 = .ok (.invokevirtual 98, 3) := by decide +kernel
theorem dX0_checkAssignment_16 : decode cX0_checkAssignment 16 = .ok (.astore_n 1, 1) := by decide +kernel
theorem dX0_checkAssignment_17 : decode cX0_checkAssignment 17 = .ok (.aload_n 0, 1) := by decide +kernel
theorem dX0_checkAssignment_18 : decode cX0_checkAssignment 18 = .ok (.getfield 15, 3) := by decide +kernel
theorem dX0_checkAssignment_21 : decode cX0_checkAssignment 21 = .ok (.aload_n 1, 1) := by decide +kernel
theorem dX0_checkAssignment_22 : decode cX0_checkAssignment 22 = .ok (.aload_n 0, 1) := by decide +kernel
theorem dX0_checkAssignment_23 : decode cX0_checkAssignment 23 = .ok (.getfield 15, 3) := by decide +kernel
theorem dX0_checkAssignment_26 : decode cX0_checkAssignment 26 = .ok (.getfield 116, 3) := by decide +kernel
theorem dX0_checkAssignment_29 : decode cX0_checkAssignment 29 = .ok (.invokevirtual 119, 3) := by decide +kernel
theorem dX0_checkAssignment_32 : decode cX0_checkAssignment 32 = .ok (.putfield 122, 3) := by decide +kernel
theorem dX0_checkAssignment_35 : decode cX0_checkAssignment 35 = .ok (.aload_n 0, 1) := by decide +kernel
theorem dX0_checkAssignment_36 : decode cX0_checkAssignment 36 = .ok (.getfield 15, 3) := by decide +kernel
theorem dX0_checkAssignment_39 : decode cX0_checkAssignment 39 = .ok (.getfield 122, 3) := by decide +kernel
theorem dX0_checkAssignment_42 : decode cX0_checkAssignment 42 = .ok (.iconst (-1), 1) := by decide +kernel
theorem dX0_checkAssignment_43 : decode cX0_checkAssignment 43 = .ok (.if_icmp .ne 7, 3) := by decide +kernel
theorem dX0_checkAssignment_46 : decode cX0_checkAssignment 46 = .ok (.sipush (-1001), 3) := by decide +kernel
theorem dX0_checkAssignment_49 : decode cX0_checkAssignment 49 = .ok (.ireturn, 1) := by decide +kernel
theorem dX0_checkAssignment_50 : decode cX0_checkAssignment 50 = .ok (.aload_n 0, 1) := by decide +kernel
theorem dX0_checkAssignment_51 : decode cX0_checkAssignment 51 = .ok (.iconst 0, 1) := by decide +kernel
theorem dX0_checkAssignment_52 : decode cX0_checkAssignment 52 = .ok (.aload_n 0, 1) := by decide +kernel
theorem dX0_checkAssignment_53 : decode cX0_checkAssignment 53 = .ok (.getfield 15, 3) := by decide +kernel
theorem dX0_checkAssignment_56 : decode cX0_checkAssignment 56 = .ok (.getfield 125, 3) := by decide +kernel
theorem dX0_checkAssignment_59 : decode cX0_checkAssignment 59 = .ok (.iconst 0, 1) := by decide +kernel
theorem dX0_checkAssignment_60 : decode cX0_checkAssignment 60 = .ok (.iaload, 1) := by decide +kernel
theorem dX0_checkAssignment_61 : decode cX0_checkAssignment 61 = .ok (.invokevirtual 81, 3) := by decide +kernel
theorem dX0_checkAssignment_64 : decode cX0_checkAssignment 64 = .ok (.istore_n 2, 1) := by decide +kernel
theorem dX0_checkAssignment_65 : decode cX0_checkAssignment 65 = .ok (.iload_n 2, 1) := by decide +kernel
theorem dX0_checkAssignment_66 : decode cX0_checkAssignment 66 = .ok (.ifCond .eq 5, 3) := by decide +kernel
theorem dX0_checkAssignment_69 : decode cX0_checkAssignment 69 = .ok (.iload_n 2, 1) := by decide +kernel
theorem dX0_checkAssignment_70 : decode cX0_checkAssignment 70 = .ok (.ireturn, 1) := by decide +kernel
theorem dX0_checkAssignment_71 : decode cX0_checkAssignment 71 = .ok (.aload_n 0, 1) := by decide +kernel
theorem dX0_checkAssignment_72 : decode cX0_checkAssignment 72 = .ok (.getfield 23, 3) := by decide +kernel
theorem dX0_checkAssignment_75 : decode cX0_checkAssignment 75 = .ok (.iconst 0, 1) := by decide +kernel
theorem dX0_checkAssignment_76 : decode cX0_checkAssignment 76 = .ok (.iaload, 1) := by decide +kernel
theorem dX0_checkAssignment_77 : decode cX0_checkAssignment 77 = .ok (.aload_n 1, 1) := by decide +kernel
theorem dX0_checkAssignment_78 : decode cX0_checkAssignment 78 = .ok (.aload_n 0, 1) := by decide +kernel
theorem dX0_checkAssignment_79 : decode cX0_checkAssignment 79 = .ok (.getfield 15, 3) := by decide +kernel
theorem dX0_checkAssignment_82 : decode cX0_checkAssignment 82 = .ok (.getfield 122, 3) := by decide +kernel
theorem dX0_checkAssignment_85 : decode cX0_checkAssignment 85 = .ok (.invokevirtual 108, 3) := by decide +kernel
theorem dX0_checkAssignment_88 : decode cX0_checkAssignment 88 = .ok (.invokestatic 111, 3) := by decide +kernel
theorem dX0_checkAssignment_91 : decode cX0_checkAssignment 91 = .ok (.ifCond .eq 9, 3) := by decide +kernel
theorem dX0_checkAssignment_94 : decode cX0_checkAssignment 94 = .ok (.sipush (-1002), 3) := by decide +kernel
theorem dX0_checkAssignment_97 : decode cX0_checkAssignment 97 = .ok (.goto 4, 3) := by decide +kernel
theorem dX0_checkAssignment_100 : decode cX0_checkAssignment 100 = .ok (.iconst 0, 1) := by decide +kernel
theorem dX0_checkAssignment_101 : decode cX0_checkAssignment 101 = .ok (.ireturn, 1) := by decide +kernel
theorem b_X0_checkAssignment_0 {h : Nat} {L : LVs} {st : List AV} {S : ST} {Q : Option AV → ST → Prop} (k : o_al L st S (fun L st S => o_get L st S (fun L st S => o_al L st S (fun L st S => o_get L st S (fun L st S => o_get L st S (fun L st S => o_c L st S (fun L st S => o_iald L st S (fun L st S => V MX0_checkAssignment h 13 L st S Q)) (nI 0)) 6 2 (3, 23, 0)) 0 1 (4, 6, 0)) 0) 0 2 (4, 8, 0)) 0) : V MX0_checkAssignment h 0 L st S Q :=
  v_aload_n dX0_checkAssignment_0 rfl (fun L st S k => v_get dX0_checkAssignment_1 rfl iX0 LY_0 rfl (by decide) rfl fl_X0_19 (fun L st S k => v_aload_n dX0_checkAssignment_4 rfl (fun L st S k => v_get dX0_checkAssignment_5 rfl iX0 LY_0 rfl (by decide) rfl fl_X0_15 (fun L st S k => v_get dX0_checkAssignment_8 rfl iX6 LY_6 rfl (by decide) rfl fl_X0_57 (fun L st S k => v_iconst dX0_checkAssignment_11 (by decide) (fun L st S k => v_iaload dX0_checkAssignment_12 (fun L st S k => k) k) k) k) k) k) k) k
theorem k_X0_checkAssignment_13 {h : Nat} {L : LVs} {st : List AV} {S : ST} {Q Q' : Option AV → ST → Prop} {j : Nat} {a0 : AV} (hC : Ct MX8_tableAt h [vR 8 j, a0] S Q') (k : ∀ (r : Option AV) (S' : ST), Q' r S' → V MX0_checkAssignment (h + 1) 16 L (r.toList ++ st) S' Q) (hj : j < NI 8) (hw : wid st ≤ 8) : V MX0_checkAssignment (h + 1) 13 L (a0 :: vR 8 j :: st) S Q :=
  v_callV (M' := MX8_tableAt) (c := 8) (As := [a0]) dX0_checkAssignment_13 ml_X0_98 im_X8_tableAt se_X8_tableAt in_X8 cd_X8_tableAt rfl LY_8 np_X8_tableAt (by decide) hw hj hC k
theorem b_X0_checkAssignment_16 {h : Nat} {L : LVs} {st : List AV} {S : ST} {Q : Option AV → ST → Prop} (k : o_as L st S (fun L st S => o_al L st S (fun L st S => o_get L st S (fun L st S => o_al L st S (fun L st S => o_al L st S (fun L st S => o_get L st S (fun L st S => o_get L st S (fun L st S => V MX0_checkAssignment h 29 L st S Q) 6 11 (0, 0, 0)) 0 1 (4, 6, 0)) 0) 1) 0 1 (4, 6, 0)) 0) 1) : V MX0_checkAssignment h 16 L st S Q :=
  v_astore_n dX0_checkAssignment_16 rfl (by decide) (fun L st S k => v_aload_n dX0_checkAssignment_17 rfl (fun L st S k => v_get dX0_checkAssignment_18 rfl iX0 LY_0 rfl (by decide) rfl fl_X0_15 (fun L st S k => v_aload_n dX0_checkAssignment_21 rfl (fun L st S k => v_aload_n dX0_checkAssignment_22 rfl (fun L st S k => v_get dX0_checkAssignment_23 rfl iX0 LY_0 rfl (by decide) rfl fl_X0_15 (fun L st S k => v_get dX0_checkAssignment_26 rfl iX6 LY_6 rfl (by decide) rfl fl_X0_116 (fun L st S k => k) k) k) k) k) k) k) k
theorem k_X0_checkAssignment_29 {h : Nat} {L : LVs} {st : List AV} {S : ST} {Q Q' : Option AV → ST → Prop} {j : Nat} {a0 : AV} (hC : Ct MX7_findColumn h [vR 7 j, a0] S Q') (k : ∀ (r : Option AV) (S' : ST), Q' r S' → V MX0_checkAssignment (h + 1) 32 L (r.toList ++ st) S' Q) (hj : j < NI 7) (hw : wid st ≤ 8) : V MX0_checkAssignment (h + 1) 29 L (a0 :: vR 7 j :: st) S Q :=
  v_callV (M' := MX7_findColumn) (c := 7) (As := [a0]) dX0_checkAssignment_29 ml_X0_119 im_X7_findColumn se_X7_findColumn in_X7 cd_X7_findColumn rfl LY_7 np_X7_findColumn (by decide) hw hj hC k
theorem b_X0_checkAssignment_32 {h : Nat} {L : LVs} {st : List AV} {S : ST} {Q : Option AV → ST → Prop} (k : o_puti L st S (fun L st S => o_al L st S (fun L st S => o_get L st S (fun L st S => o_get L st S (fun L st S => o_c L st S (fun L st S => t_2 L st S (fun x y => x = y) (fun L st S => V MX0_checkAssignment h 46 L st S Q) (fun L st S => V MX0_checkAssignment h 50 L st S Q)) (-1)) 6 12 (0, 0, 0)) 0 1 (4, 6, 0)) 0) 6 12) : V MX0_checkAssignment h 32 L st S Q :=
  v_puti dX0_checkAssignment_32 rfl iX6 tyX6_ok nmX6 LY_6 rfl (by decide) rfl fl_X0_122 rfl rfl (fun L st S k => v_aload_n dX0_checkAssignment_35 rfl (fun L st S k => v_get dX0_checkAssignment_36 rfl iX0 LY_0 rfl (by decide) rfl fl_X0_15 (fun L st S k => v_get dX0_checkAssignment_39 rfl iX6 LY_6 rfl (by decide) rfl fl_X0_122 (fun L st S k => v_iconst dX0_checkAssignment_42 (by decide) (fun L st S k => w_icmp_ne dX0_checkAssignment_43 (by decide) rfl k) k) k) k) k) k
theorem b_X0_checkAssignment_46 {h : Nat} {L : LVs} {st : List AV} {S : ST} {Q : Option AV → ST → Prop} (k : o_c L st S (fun L st S => t_ir st S Q) (-1001)) : V MX0_checkAssignment h 46 L st S Q :=
  v_sipush dX0_checkAssignment_46 (by decide) (fun L st S k => w_ir dX0_checkAssignment_49 rfl k) k
theorem b_X0_checkAssignment_50 {h : Nat} {L : LVs} {st : List AV} {S : ST} {Q : Option AV → ST → Prop} (k : o_al L st S (fun L st S => o_c L st S (fun L st S => o_al L st S (fun L st S => o_get L st S (fun L st S => o_get L st S (fun L st S => o_c L st S (fun L st S => o_iald L st S (fun L st S => V MX0_checkAssignment h 61 L st S Q)) (nI 0)) 6 7 (3, 28, 0)) 0 1 (4, 6, 0)) 0) (nI 0)) 0) : V MX0_checkAssignment h 50 L st S Q :=
  v_aload_n dX0_checkAssignment_50 rfl (fun L st S k => v_iconst dX0_checkAssignment_51 (by decide) (fun L st S k => v_aload_n dX0_checkAssignment_52 rfl (fun L st S k => v_get dX0_checkAssignment_53 rfl iX0 LY_0 rfl (by decide) rfl fl_X0_15 (fun L st S k => v_get dX0_checkAssignment_56 rfl iX6 LY_6 rfl (by decide) rfl fl_X0_125 (fun L st S k => v_iconst dX0_checkAssignment_59 (by decide) (fun L st S k => v_iaload dX0_checkAssignment_60 (fun L st S k => k) k) k) k) k) k) k) k
theorem k_X0_checkAssignment_61 {h : Nat} {L : LVs} {st : List AV} {S : ST} {Q Q' : Option AV → ST → Prop} {j : Nat} {a0 a1 : AV} (hC : Ct MX0_checkWords h [vR 0 j, a0, a1] S Q') (k : ∀ (r : Option AV) (S' : ST), Q' r S' → V MX0_checkAssignment (h + 1) 64 L (r.toList ++ st) S' Q) (hj : j < NI 0) (hw : wid st ≤ 8) : V MX0_checkAssignment (h + 1) 61 L (a1 :: a0 :: vR 0 j :: st) S Q :=
  v_callV (M' := MX0_checkWords) (c := 0) (As := [a0, a1]) dX0_checkAssignment_61 ml_X0_81 im_X0_checkWords se_X0_checkWords in_X0 cd_X0_checkWords rfl LY_0 np_X0_checkWords (by decide) hw hj hC k
theorem b_X0_checkAssignment_64 {h : Nat} {L : LVs} {st : List AV} {S : ST} {Q : Option AV → ST → Prop} (k : o_is L st S (fun L st S => o_il L st S (fun L st S => t_1 L st S (fun x => x = nI 0) (fun L st S => V MX0_checkAssignment h 71 L st S Q) (fun L st S => V MX0_checkAssignment h 69 L st S Q)) 2) 2) : V MX0_checkAssignment h 64 L st S Q :=
  v_istore_n dX0_checkAssignment_64 rfl (by decide) (fun L st S k => v_iload_n dX0_checkAssignment_65 rfl (fun L st S k => w_if_eq dX0_checkAssignment_66 (by decide) rfl k) k) k
theorem b_X0_checkAssignment_69 {h : Nat} {L : LVs} {st : List AV} {S : ST} {Q : Option AV → ST → Prop} (k : o_il L st S (fun L st S => t_ir st S Q) 2) : V MX0_checkAssignment h 69 L st S Q :=
  v_iload_n dX0_checkAssignment_69 rfl (fun L st S k => w_ir dX0_checkAssignment_70 rfl k) k
theorem b_X0_checkAssignment_71 {h : Nat} {L : LVs} {st : List AV} {S : ST} {Q : Option AV → ST → Prop} (k : o_al L st S (fun L st S => o_get L st S (fun L st S => o_c L st S (fun L st S => o_iald L st S (fun L st S => o_al L st S (fun L st S => o_al L st S (fun L st S => o_get L st S (fun L st S => o_get L st S (fun L st S => V MX0_checkAssignment h 85 L st S Q) 6 12 (0, 0, 0)) 0 1 (4, 6, 0)) 0) 1)) (nI 0)) 0 3 (3, 12, 0)) 0) : V MX0_checkAssignment h 71 L st S Q :=
  v_aload_n dX0_checkAssignment_71 rfl (fun L st S k => v_get dX0_checkAssignment_72 rfl iX0 LY_0 rfl (by decide) rfl fl_X0_23 (fun L st S k => v_iconst dX0_checkAssignment_75 (by decide) (fun L st S k => v_iaload dX0_checkAssignment_76 (fun L st S k => v_aload_n dX0_checkAssignment_77 rfl (fun L st S k => v_aload_n dX0_checkAssignment_78 rfl (fun L st S k => v_get dX0_checkAssignment_79 rfl iX0 LY_0 rfl (by decide) rfl fl_X0_15 (fun L st S k => v_get dX0_checkAssignment_82 rfl iX6 LY_6 rfl (by decide) rfl fl_X0_122 (fun L st S k => k) k) k) k) k) k) k) k) k
theorem k_X0_checkAssignment_85 {h : Nat} {L : LVs} {st : List AV} {S : ST} {Q Q' : Option AV → ST → Prop} {j : Nat} {a0 : AV} (hC : Ct MX7_typeOf h [vR 7 j, a0] S Q') (k : ∀ (r : Option AV) (S' : ST), Q' r S' → V MX0_checkAssignment (h + 1) 88 L (r.toList ++ st) S' Q) (hj : j < NI 7) (hw : wid st ≤ 8) : V MX0_checkAssignment (h + 1) 85 L (a0 :: vR 7 j :: st) S Q :=
  v_callV (M' := MX7_typeOf) (c := 7) (As := [a0]) dX0_checkAssignment_85 ml_X0_108 im_X7_typeOf se_X7_typeOf in_X7 cd_X7_typeOf rfl LY_7 np_X7_typeOf (by decide) hw hj hC k
theorem k_X0_checkAssignment_88 {h : Nat} {L : LVs} {st : List AV} {S : ST} {Q Q' : Option AV → ST → Prop} {a0 a1 : AV} (hC : Ct MX0_clash h [a0, a1] S Q') (k : ∀ (r : Option AV) (S' : ST), Q' r S' → V MX0_checkAssignment (h + 1) 91 L (r.toList ++ st) S' Q) (hw : wid st ≤ 8) : V MX0_checkAssignment (h + 1) 88 L (a1 :: a0 :: st) S Q :=
  v_callS (M' := MX0_clash) (As := [a0, a1]) dX0_checkAssignment_88 ml_X0_111 sm_X0_clash in_X0 cd_X0_clash ⟨rfl, np_X0_clash⟩ (by decide) hw hC k
theorem b_X0_checkAssignment_91 {h : Nat} {L : LVs} {st : List AV} {S : ST} {Q : Option AV → ST → Prop} (k : t_1 L st S (fun x => x = nI 0) (fun L st S => V MX0_checkAssignment h 100 L st S Q) (fun L st S => V MX0_checkAssignment h 94 L st S Q)) : V MX0_checkAssignment h 91 L st S Q :=
  w_if_eq dX0_checkAssignment_91 (by decide) rfl k
theorem b_X0_checkAssignment_94 {h : Nat} {L : LVs} {st : List AV} {S : ST} {Q : Option AV → ST → Prop} (k : o_c L st S (fun L st S => V MX0_checkAssignment h 101 L st S Q) (-1002)) : V MX0_checkAssignment h 94 L st S Q :=
  v_sipush dX0_checkAssignment_94 (by decide) (fun L st S k => v_goto dX0_checkAssignment_97 (by decide) k) k
theorem b_X0_checkAssignment_100 {h : Nat} {L : LVs} {st : List AV} {S : ST} {Q : Option AV → ST → Prop} (k : o_c L st S (fun L st S => V MX0_checkAssignment h 101 L st S Q) (nI 0)) : V MX0_checkAssignment h 100 L st S Q :=
  v_iconst dX0_checkAssignment_100 (by decide) (fun L st S k => k) k
theorem b_X0_checkAssignment_101 {h : Nat} {L : LVs} {st : List AV} {S : ST} {Q : Option AV → ST → Prop} (k : t_ir st S Q) : V MX0_checkAssignment h 101 L st S Q :=
  w_ir dX0_checkAssignment_101 rfl k
-- QueryForge$Checker.checkItems()I
theorem dX0_checkItems_0 : decode cX0_checkItems 0 = .ok (.iconst 0, 1) := by decide +kernel
theorem dX0_checkItems_1 : decode cX0_checkItems 1 = .ok (.istore_n 1, 1) := by decide +kernel
theorem dX0_checkItems_2 : decode cX0_checkItems 2 = .ok (.iload_n 1, 1) := by decide +kernel
theorem dX0_checkItems_3 : decode cX0_checkItems 3 = .ok (.aload_n 0, 1) := by decide +kernel
theorem dX0_checkItems_4 : decode cX0_checkItems 4 = .ok (.getfield 15, 3) := by decide +kernel
theorem dX0_checkItems_7 : decode cX0_checkItems 7 = .ok (.getfield 92, 3) := by decide +kernel
theorem dX0_checkItems_10 : decode cX0_checkItems 10 = .ok (.if_icmp .ge 66, 3) := by decide +kernel
theorem dX0_checkItems_13 : decode cX0_checkItems 13 = .ok (.aload_n 0, 1) := by decide +kernel
theorem dX0_checkItems_14 : decode cX0_checkItems 14 = .ok (.aload_n 0, 1) := by decide +kernel
theorem dX0_checkItems_15 : decode cX0_checkItems 15 = .ok (.getfield 15, 3) := by decide +kernel
theorem dX0_checkItems_18 : decode cX0_checkItems 18 = .ok (.iload_n 1, 1) := by decide +kernel
theorem dX0_checkItems_19 : decode cX0_checkItems 19 = .ok (.invokevirtual 128, 3) := by decide +kernel
theorem dX0_checkItems_22 : decode cX0_checkItems 22 = .ok (.aload_n 0, 1) := by decide +kernel
theorem dX0_checkItems_23 : decode cX0_checkItems 23 = .ok (.getfield 15, 3) := by decide +kernel
theorem dX0_checkItems_26 : decode cX0_checkItems 26 = .ok (.getfield 125, 3) := by decide +kernel
theorem dX0_checkItems_29 : decode cX0_checkItems 29 = .ok (.iload_n 1, 1) := by decide +kernel
theorem dX0_checkItems_30 : decode cX0_checkItems 30 = .ok (.iaload, 1) := by decide +kernel
theorem dX0_checkItems_31 : decode cX0_checkItems 31 = .ok (.invokevirtual 81, 3) := by decide +kernel
theorem dX0_checkItems_34 : decode cX0_checkItems 34 = .ok (.istore_n 2, 1) := by decide +kernel
theorem dX0_checkItems_35 : decode cX0_checkItems 35 = .ok (.iload_n 2, 1) := by decide +kernel
theorem dX0_checkItems_36 : decode cX0_checkItems 36 = .ok (.ifCond .eq 5, 3) := by decide +kernel
theorem dX0_checkItems_39 : decode cX0_checkItems 39 = .ok (.iload_n 2, 1) := by decide +kernel
theorem dX0_checkItems_40 : decode cX0_checkItems 40 = .ok (.ireturn, 1) := by decide +kernel
theorem dX0_checkItems_41 : decode cX0_checkItems 41 = .ok (.aload_n 0, 1) := by decide +kernel
theorem dX0_checkItems_42 : decode cX0_checkItems 42 = .ok (.getfield 15, 3) := by decide +kernel
theorem dX0_checkItems_45 : decode cX0_checkItems 45 = .ok (.getfield 131, 3) := by decide +kernel
theorem dX0_checkItems_48 : decode cX0_checkItems 48 = .ok (.iload_n 1, 1) := by decide +kernel
theorem dX0_checkItems_49 : decode cX0_checkItems 49 = .ok (.iaload, 1) := by decide +kernel
theorem dX0_checkItems_50 : decode cX0_checkItems 50 = .ok (.sipush 218, 3) := by decide +kernel
theorem dX0_checkItems_53 : decode cX0_checkItems 53 = .ok (.if_icmp .ne 17, 3) := by decide +kernel
theorem dX0_checkItems_56 : decode cX0_checkItems 56 = .ok (.aload_n 0, 1) := by decide +kernel
theorem dX0_checkItems_57 : decode cX0_checkItems 57 = .ok (.getfield 23, 3) := by decide +kernel
theorem dX0_checkItems_60 : decode cX0_checkItems 60 = .ok (.iconst 0, 1) := by decide +kernel
theorem dX0_checkItems_61 : decode cX0_checkItems 61 = .ok (.iaload, 1) := by decide +kernel
theorem dX0_checkItems_62 : decode cX0_checkItems 62 = .ok (.iconst 2, 1) := by decide +kernel
theorem dX0_checkItems_63 : decode cX0_checkItems 63 = .ok (.if_icmp .ne 7, 3) := by decide +kernel
theorem dX0_checkItems_66 : decode cX0_checkItems 66 = .ok (.sipush (-1002), 3) := by decide +kernel
theorem dX0_checkItems_69 : decode cX0_checkItems 69 = .ok (.ireturn, 1) := by decide +kernel
theorem dX0_checkItems_70 : decode cX0_checkItems 70 = .ok (.iinc 1 1, 3) := by decide +kernel
theorem dX0_checkItems_73 : decode cX0_checkItems 73 = .ok (.goto (-71), 3) := by decide +kernel
theorem dX0_checkItems_76 : decode cX0_checkItems 76 = .ok (.iconst 0, 1) := by decide +kernel
theorem dX0_checkItems_77 : decode cX0_checkItems 77 = .ok (.ireturn, 1) := by decide +kernel
theorem b_X0_checkItems_0 {h : Nat} {L : LVs} {st : List AV} {S : ST} {Q : Option AV → ST → Prop} (k : o_c L st S (fun L st S => o_is L st S (fun L st S => V MX0_checkItems h 2 L st S Q) 1) (nI 0)) : V MX0_checkItems h 0 L st S Q :=
  v_iconst dX0_checkItems_0 (by decide) (fun L st S k => v_istore_n dX0_checkItems_1 rfl (by decide) (fun L st S k => k) k) k
theorem b_X0_checkItems_2 {h : Nat} {L : LVs} {st : List AV} {S : ST} {Q : Option AV → ST → Prop} (k : o_il L st S (fun L st S => o_al L st S (fun L st S => o_get L st S (fun L st S => o_get L st S (fun L st S => t_2 L st S (fun x y => y ≤ x) (fun L st S => V MX0_checkItems h 76 L st S Q) (fun L st S => V MX0_checkItems h 13 L st S Q)) 6 10 (0, 0, 0)) 0 1 (4, 6, 0)) 0) 1) : V MX0_checkItems h 2 L st S Q :=
  v_iload_n dX0_checkItems_2 rfl (fun L st S k => v_aload_n dX0_checkItems_3 rfl (fun L st S k => v_get dX0_checkItems_4 rfl iX0 LY_0 rfl (by decide) rfl fl_X0_15 (fun L st S k => v_get dX0_checkItems_7 rfl iX6 LY_6 rfl (by decide) rfl fl_X0_92 (fun L st S k => w_icmp_ge dX0_checkItems_10 (by decide) rfl k) k) k) k) k
theorem b_X0_checkItems_13 {h : Nat} {L : LVs} {st : List AV} {S : ST} {Q : Option AV → ST → Prop} (k : o_al L st S (fun L st S => o_al L st S (fun L st S => o_get L st S (fun L st S => o_il L st S (fun L st S => V MX0_checkItems h 19 L st S Q) 1) 0 1 (4, 6, 0)) 0) 0) : V MX0_checkItems h 13 L st S Q :=
  v_aload_n dX0_checkItems_13 rfl (fun L st S k => v_aload_n dX0_checkItems_14 rfl (fun L st S k => v_get dX0_checkItems_15 rfl iX0 LY_0 rfl (by decide) rfl fl_X0_15 (fun L st S k => v_iload_n dX0_checkItems_18 rfl (fun L st S k => k) k) k) k) k
theorem k_X0_checkItems_19 {h : Nat} {L : LVs} {st : List AV} {S : ST} {Q Q' : Option AV → ST → Prop} {j : Nat} {a0 : AV} (hC : Ct MX6_itemStart h [vR 6 j, a0] S Q') (k : ∀ (r : Option AV) (S' : ST), Q' r S' → V MX0_checkItems (h + 1) 22 L (r.toList ++ st) S' Q) (hj : j < NI 6) (hw : wid st ≤ 8) : V MX0_checkItems (h + 1) 19 L (a0 :: vR 6 j :: st) S Q :=
  v_callV (M' := MX6_itemStart) (c := 6) (As := [a0]) dX0_checkItems_19 ml_X0_128 im_X6_itemStart se_X6_itemStart in_X6 cd_X6_itemStart rfl LY_6 np_X6_itemStart (by decide) hw hj hC k
theorem b_X0_checkItems_22 {h : Nat} {L : LVs} {st : List AV} {S : ST} {Q : Option AV → ST → Prop} (k : o_al L st S (fun L st S => o_get L st S (fun L st S => o_get L st S (fun L st S => o_il L st S (fun L st S => o_iald L st S (fun L st S => V MX0_checkItems h 31 L st S Q)) 1) 6 7 (3, 28, 0)) 0 1 (4, 6, 0)) 0) : V MX0_checkItems h 22 L st S Q :=
  v_aload_n dX0_checkItems_22 rfl (fun L st S k => v_get dX0_checkItems_23 rfl iX0 LY_0 rfl (by decide) rfl fl_X0_15 (fun L st S k => v_get dX0_checkItems_26 rfl iX6 LY_6 rfl (by decide) rfl fl_X0_125 (fun L st S k => v_iload_n dX0_checkItems_29 rfl (fun L st S k => v_iaload dX0_checkItems_30 (fun L st S k => k) k) k) k) k) k
theorem k_X0_checkItems_31 {h : Nat} {L : LVs} {st : List AV} {S : ST} {Q Q' : Option AV → ST → Prop} {j : Nat} {a0 a1 : AV} (hC : Ct MX0_checkWords h [vR 0 j, a0, a1] S Q') (k : ∀ (r : Option AV) (S' : ST), Q' r S' → V MX0_checkItems (h + 1) 34 L (r.toList ++ st) S' Q) (hj : j < NI 0) (hw : wid st ≤ 8) : V MX0_checkItems (h + 1) 31 L (a1 :: a0 :: vR 0 j :: st) S Q :=
  v_callV (M' := MX0_checkWords) (c := 0) (As := [a0, a1]) dX0_checkItems_31 ml_X0_81 im_X0_checkWords se_X0_checkWords in_X0 cd_X0_checkWords rfl LY_0 np_X0_checkWords (by decide) hw hj hC k
theorem b_X0_checkItems_34 {h : Nat} {L : LVs} {st : List AV} {S : ST} {Q : Option AV → ST → Prop} (k : o_is L st S (fun L st S => o_il L st S (fun L st S => t_1 L st S (fun x => x = nI 0) (fun L st S => V MX0_checkItems h 41 L st S Q) (fun L st S => V MX0_checkItems h 39 L st S Q)) 2) 2) : V MX0_checkItems h 34 L st S Q :=
  v_istore_n dX0_checkItems_34 rfl (by decide) (fun L st S k => v_iload_n dX0_checkItems_35 rfl (fun L st S k => w_if_eq dX0_checkItems_36 (by decide) rfl k) k) k
theorem b_X0_checkItems_39 {h : Nat} {L : LVs} {st : List AV} {S : ST} {Q : Option AV → ST → Prop} (k : o_il L st S (fun L st S => t_ir st S Q) 2) : V MX0_checkItems h 39 L st S Q :=
  v_iload_n dX0_checkItems_39 rfl (fun L st S k => w_ir dX0_checkItems_40 rfl k) k
theorem b_X0_checkItems_41 {h : Nat} {L : LVs} {st : List AV} {S : ST} {Q : Option AV → ST → Prop} (k : o_al L st S (fun L st S => o_get L st S (fun L st S => o_get L st S (fun L st S => o_il L st S (fun L st S => o_iald L st S (fun L st S => o_c L st S (fun L st S => t_2 L st S (fun x y => x = y) (fun L st S => V MX0_checkItems h 56 L st S Q) (fun L st S => V MX0_checkItems h 70 L st S Q)) (nI 218))) 1) 6 6 (3, 27, 0)) 0 1 (4, 6, 0)) 0) : V MX0_checkItems h 41 L st S Q :=
  v_aload_n dX0_checkItems_41 rfl (fun L st S k => v_get dX0_checkItems_42 rfl iX0 LY_0 rfl (by decide) rfl fl_X0_15 (fun L st S k => v_get dX0_checkItems_45 rfl iX6 LY_6 rfl (by decide) rfl fl_X0_131 (fun L st S k => v_iload_n dX0_checkItems_48 rfl (fun L st S k => v_iaload dX0_checkItems_49 (fun L st S k => v_sipush dX0_checkItems_50 (by decide) (fun L st S k => w_icmp_ne dX0_checkItems_53 (by decide) rfl k) k) k) k) k) k) k
theorem b_X0_checkItems_56 {h : Nat} {L : LVs} {st : List AV} {S : ST} {Q : Option AV → ST → Prop} (k : o_al L st S (fun L st S => o_get L st S (fun L st S => o_c L st S (fun L st S => o_iald L st S (fun L st S => o_c L st S (fun L st S => t_2 L st S (fun x y => x = y) (fun L st S => V MX0_checkItems h 66 L st S Q) (fun L st S => V MX0_checkItems h 70 L st S Q)) (nI 2))) (nI 0)) 0 3 (3, 12, 0)) 0) : V MX0_checkItems h 56 L st S Q :=
  v_aload_n dX0_checkItems_56 rfl (fun L st S k => v_get dX0_checkItems_57 rfl iX0 LY_0 rfl (by decide) rfl fl_X0_23 (fun L st S k => v_iconst dX0_checkItems_60 (by decide) (fun L st S k => v_iaload dX0_checkItems_61 (fun L st S k => v_iconst dX0_checkItems_62 (by decide) (fun L st S k => w_icmp_ne dX0_checkItems_63 (by decide) rfl k) k) k) k) k) k
theorem b_X0_checkItems_66 {h : Nat} {L : LVs} {st : List AV} {S : ST} {Q : Option AV → ST → Prop} (k : o_c L st S (fun L st S => t_ir st S Q) (-1002)) : V MX0_checkItems h 66 L st S Q :=
  v_sipush dX0_checkItems_66 (by decide) (fun L st S k => w_ir dX0_checkItems_69 rfl k) k
theorem b_X0_checkItems_70 {h : Nat} {L : LVs} {st : List AV} {S : ST} {Q : Option AV → ST → Prop} (k : o_inc L st S (fun L st S => V MX0_checkItems h 2 L st S Q) 1 (nI 1)) : V MX0_checkItems h 70 L st S Q :=
  v_iinc dX0_checkItems_70 (by decide) (by decide) (fun L st S k => v_goto dX0_checkItems_73 (by decide) k) k
theorem b_X0_checkItems_76 {h : Nat} {L : LVs} {st : List AV} {S : ST} {Q : Option AV → ST → Prop} (k : o_c L st S (fun L st S => t_ir st S Q) (nI 0)) : V MX0_checkItems h 76 L st S Q :=
  v_iconst dX0_checkItems_76 (by decide) (fun L st S k => w_ir dX0_checkItems_77 rfl k) k
-- QueryForge$Checker.checkTail()I
theorem dX0_checkTail_0 : decode cX0_checkTail 0 = .ok (.iconst (-1), 1) := by decide +kernel
theorem dX0_checkTail_1 : decode cX0_checkTail 1 = .ok (.istore_n 1, 1) := by decide +kernel
theorem dX0_checkTail_2 : decode cX0_checkTail 2 = .ok (.aload_n 0, 1) := by decide +kernel
theorem dX0_checkTail_3 : decode cX0_checkTail 3 = .ok (.getfield 15, 3) := by decide +kernel
theorem dX0_checkTail_6 : decode cX0_checkTail 6 = .ok (.invokevirtual 134, 3) := by decide +kernel
theorem dX0_checkTail_9 : decode cX0_checkTail 9 = .ok (.ifCond .eq 24, 3) := by decide +kernel
theorem dX0_checkTail_12 : decode cX0_checkTail 12 = .ok (.aload_n 0, 1) := by decide +kernel
theorem dX0_checkTail_13 : decode cX0_checkTail 13 = .ok (.aload_n 0, 1) := by decide +kernel
theorem dX0_checkTail_14 : decode cX0_checkTail 14 = .ok (.getfield 15, 3) := by decide +kernel
theorem dX0_checkTail_17 : decode cX0_checkTail 17 = .ok (.getfield 137, 3) := by decide +kernel
theorem dX0_checkTail_20 : decode cX0_checkTail 20 = .ok (.invokevirtual 140, 3) := by decide +kernel
theorem dX0_checkTail_23 : decode cX0_checkTail 23 = .ok (.istore_n 1, 1) := by decide +kernel
theorem dX0_checkTail_24 : decode cX0_checkTail 24 = .ok (.iload_n 1, 1) := by decide +kernel
theorem dX0_checkTail_25 : decode cX0_checkTail 25 = .ok (.iconst (-1), 1) := by decide +kernel
theorem dX0_checkTail_26 : decode cX0_checkTail 26 = .ok (.if_icmp .ne 7, 3) := by decide +kernel
theorem dX0_checkTail_29 : decode cX0_checkTail 29 = .ok (.sipush (-1001), 3) := by decide +kernel
theorem dX0_checkTail_32 : decode cX0_checkTail 32 = .ok (.ireturn, 1) := by decide +kernel
theorem dX0_checkTail_33 : decode cX0_checkTail 33 = .ok (.aload_n 0, 1) := by decide +kernel
theorem dX0_checkTail_34 : decode cX0_checkTail 34 = .ok (.getfield 15, 3) := by decide +kernel
theorem dX0_checkTail_37 : decode cX0_checkTail 37 = .ok (.getfield 143, 3) := by decide +kernel
theorem dX0_checkTail_40 : decode cX0_checkTail 40 = .ok (.istore_n 2, 1) := by decide +kernel
theorem dX0_checkTail_41 : decode cX0_checkTail 41 = .ok (.iload_n 2, 1) := by decide +kernel
theorem dX0_checkTail_42 : decode cX0_checkTail 42 = .ok (.iconst (-1), 1) := by decide +kernel
theorem dX0_checkTail_43 : decode cX0_checkTail 43 = .ok (.if_icmp .eq 23, 3) := by decide +kernel
theorem dX0_checkTail_46 : decode cX0_checkTail 46 = .ok (.iload_n 2, 1) := by decide +kernel
theorem dX0_checkTail_47 : decode cX0_checkTail 47 = .ok (.iconst 1, 1) := by decide +kernel
theorem dX0_checkTail_48 : decode cX0_checkTail 48 = .ok (.if_icmp .lt 14, 3) := by decide +kernel
theorem dX0_checkTail_51 : decode cX0_checkTail 51 = .ok (.iload_n 2, 1) := by decide +kernel
theorem dX0_checkTail_52 : decode cX0_checkTail 52 = .ok (.aload_n 0, 1) := by decide +kernel
theorem dX0_checkTail_53 : decode cX0_checkTail 53 = .ok (.getfield 15, 3) := by decide +kernel
theorem dX0_checkTail_56 : decode cX0_checkTail 56 = .ok (.getfield 92, 3) := by decide +kernel
theorem dX0_checkTail_59 : decode cX0_checkTail 59 = .ok (.if_icmp .le 7, 3) := by decide +kernel
theorem dX0_checkTail_62 : decode cX0_checkTail 62 = .ok (.sipush (-1002), 3) := by decide +kernel
theorem dX0_checkTail_65 : decode cX0_checkTail 65 = .ok (.ireturn, 1) := by decide +kernel
theorem dX0_checkTail_66 : decode cX0_checkTail 66 = .ok (.aload_n 0, 1) := by decide +kernel
theorem dX0_checkTail_67 : decode cX0_checkTail 67 = .ok (.getfield 15, 3) := by decide +kernel
theorem dX0_checkTail_70 : decode cX0_checkTail 70 = .ok (.invokevirtual 146, 3) := by decide +kernel
theorem dX0_checkTail_73 : decode cX0_checkTail 73 = .ok (.istore_n 3, 1) := by decide +kernel
theorem dX0_checkTail_74 : decode cX0_checkTail 74 = .ok (.aload_n 0, 1) := by decide +kernel
theorem dX0_checkTail_75 : decode cX0_checkTail 75 = .ok (.getfield 15, 3) := by decide +kernel
theorem dX0_checkTail_78 : decode cX0_checkTail 78 = .ok (.invokevirtual 134, 3) := by decide +kernel
theorem dX0_checkTail_81 : decode cX0_checkTail 81 = .ok (.ifCond .eq 32, 3) := by decide +kernel
theorem dX0_checkTail_84 : decode cX0_checkTail 84 = .ok (.aload_n 0, 1) := by decide +kernel
theorem dX0_checkTail_85 : decode cX0_checkTail 85 = .ok (.iload_n 1, 1) := by decide +kernel
theorem dX0_checkTail_86 : decode cX0_checkTail 86 = .ok (.invokevirtual 149, 3) := by decide +kernel
theorem dX0_checkTail_89 : decode cX0_checkTail 89 = .ok (.ifCond .eq 20, 3) := by decide +kernel
theorem dX0_checkTail_92 : decode cX0_checkTail 92 = .ok (.iload_n 3, 1) := by decide +kernel
theorem dX0_checkTail_93 : decode cX0_checkTail 93 = .ok (.aload_n 0, 1) := by decide +kernel
theorem dX0_checkTail_94 : decode cX0_checkTail 94 = .ok (.getfield 15, 3) := by decide +kernel
theorem dX0_checkTail_97 : decode cX0_checkTail 97 = .ok (.getfield 92, 3) := by decide +kernel
theorem dX0_checkTail_100 : decode cX0_checkTail 100 = .ok (.iconst 1, 1) := by decide +kernel
theorem dX0_checkTail_101 : decode cX0_checkTail 101 = .ok (.isub, 1) := by decide +kernel
theorem dX0_checkTail_102 : decode cX0_checkTail 102 = .ok (.if_icmp .ne 7, 3) := by decide +kernel
theorem dX0_checkTail_105 : decode cX0_checkTail 105 = .ok (.iconst 1, 1) := by decide +kernel
theorem dX0_checkTail_106 : decode cX0_checkTail 106 = .ok (.goto 27, 3) := by decide +kernel
theorem dX0_checkTail_109 : decode cX0_checkTail 109 = .ok (.iconst 0, 1) := by decide +kernel
theorem dX0_checkTail_110 : decode cX0_checkTail 110 = .ok (.goto 23, 3) := by decide +kernel
theorem dX0_checkTail_113 : decode cX0_checkTail 113 = .ok (.iload_n 3, 1) := by decide +kernel
theorem dX0_checkTail_114 : decode cX0_checkTail 114 = .ok (.ifCond .eq 14, 3) := by decide +kernel
theorem dX0_checkTail_117 : decode cX0_checkTail 117 = .ok (.iload_n 3, 1) := by decide +kernel
theorem dX0_checkTail_118 : decode cX0_checkTail 118 = .ok (.aload_n 0, 1) := by decide +kernel
theorem dX0_checkTail_119 : decode cX0_checkTail 119 = .ok (.getfield 15, 3) := by decide +kernel
theorem dX0_checkTail_122 : decode cX0_checkTail 122 = .ok (.getfield 92, 3) := by decide +kernel
theorem dX0_checkTail_125 : decode cX0_checkTail 125 = .ok (.if_icmp .ne 7, 3) := by decide +kernel
theorem dX0_checkTail_128 : decode cX0_checkTail 128 = .ok (.iconst 1, 1) := by decide +kernel
theorem dX0_checkTail_129 : decode cX0_checkTail 129 = .ok (.goto 4, 3) := by decide +kernel
theorem dX0_checkTail_132 : decode cX0_checkTail 132 = .ok (.iconst 0, 1) := by decide +kernel
theorem dX0_checkTail_133 : decode cX0_checkTail 133 = .ok (.istore 4, 2) := by decide +kernel
theorem dX0_checkTail_135 : decode cX0_checkTail 135 = .ok (.iload 4, 2) := by decide +kernel
theorem dX0_checkTail_137 : decode cX0_checkTail 137 = .ok (.ifCond .eq 7, 3) := by decide +kernel
theorem dX0_checkTail_140 : decode cX0_checkTail 140 = .ok (.iconst 0, 1) := by decide +kernel
theorem dX0_checkTail_141 : decode cX0_checkTail 141 = .ok (.goto 6, 3) := by decide +kernel
theorem dX0_checkTail_144 : decode cX0_checkTail 144 = .ok (.sipush (-1002), 3) := by decide +kernel
theorem dX0_checkTail_147 : decode cX0_checkTail 147 = .ok (.ireturn, 1) := by decide +kernel
theorem b_X0_checkTail_0 {h : Nat} {L : LVs} {st : List AV} {S : ST} {Q : Option AV → ST → Prop} (k : o_c L st S (fun L st S => o_is L st S (fun L st S => o_al L st S (fun L st S => o_get L st S (fun L st S => V MX0_checkTail h 6 L st S Q) 0 1 (4, 6, 0)) 0) 1) (-1)) : V MX0_checkTail h 0 L st S Q :=
  v_iconst dX0_checkTail_0 (by decide) (fun L st S k => v_istore_n dX0_checkTail_1 rfl (by decide) (fun L st S k => v_aload_n dX0_checkTail_2 rfl (fun L st S k => v_get dX0_checkTail_3 rfl iX0 LY_0 rfl (by decide) rfl fl_X0_15 (fun L st S k => k) k) k) k) k
theorem k_X0_checkTail_6 {h : Nat} {L : LVs} {st : List AV} {S : ST} {Q Q' : Option AV → ST → Prop} {j : Nat} (hC : Ct MX6_isGrouped h [vR 6 j] S Q') (k : ∀ (r : Option AV) (S' : ST), Q' r S' → V MX0_checkTail (h + 1) 9 L (r.toList ++ st) S' Q) (hj : j < NI 6) (hw : wid st ≤ 8) : V MX0_checkTail (h + 1) 6 L (vR 6 j :: st) S Q :=
  v_callV (M' := MX6_isGrouped) (c := 6) (As := []) dX0_checkTail_6 ml_X0_134 im_X6_isGrouped se_X6_isGrouped in_X6 cd_X6_isGrouped rfl LY_6 np_X6_isGrouped (by decide) hw hj hC k
theorem b_X0_checkTail_9 {h : Nat} {L : LVs} {st : List AV} {S : ST} {Q : Option AV → ST → Prop} (k : t_1 L st S (fun x => x = nI 0) (fun L st S => V MX0_checkTail h 33 L st S Q) (fun L st S => V MX0_checkTail h 12 L st S Q)) : V MX0_checkTail h 9 L st S Q :=
  w_if_eq dX0_checkTail_9 (by decide) rfl k
theorem b_X0_checkTail_12 {h : Nat} {L : LVs} {st : List AV} {S : ST} {Q : Option AV → ST → Prop} (k : o_al L st S (fun L st S => o_al L st S (fun L st S => o_get L st S (fun L st S => o_get L st S (fun L st S => V MX0_checkTail h 20 L st S Q) 6 14 (0, 0, 0)) 0 1 (4, 6, 0)) 0) 0) : V MX0_checkTail h 12 L st S Q :=
  v_aload_n dX0_checkTail_12 rfl (fun L st S k => v_aload_n dX0_checkTail_13 rfl (fun L st S k => v_get dX0_checkTail_14 rfl iX0 LY_0 rfl (by decide) rfl fl_X0_15 (fun L st S k => v_get dX0_checkTail_17 rfl iX6 LY_6 rfl (by decide) rfl fl_X0_137 (fun L st S k => k) k) k) k) k
theorem k_X0_checkTail_20 {h : Nat} {L : LVs} {st : List AV} {S : ST} {Q Q' : Option AV → ST → Prop} {j : Nat} {a0 : AV} (hC : Ct MX0_findPlace h [vR 0 j, a0] S Q') (k : ∀ (r : Option AV) (S' : ST), Q' r S' → V MX0_checkTail (h + 1) 23 L (r.toList ++ st) S' Q) (hj : j < NI 0) (hw : wid st ≤ 8) : V MX0_checkTail (h + 1) 20 L (a0 :: vR 0 j :: st) S Q :=
  v_callV (M' := MX0_findPlace) (c := 0) (As := [a0]) dX0_checkTail_20 ml_X0_140 im_X0_findPlace se_X0_findPlace in_X0 cd_X0_findPlace rfl LY_0 np_X0_findPlace (by decide) hw hj hC k
theorem b_X0_checkTail_23 {h : Nat} {L : LVs} {st : List AV} {S : ST} {Q : Option AV → ST → Prop} (k : o_is L st S (fun L st S => o_il L st S (fun L st S => o_c L st S (fun L st S => t_2 L st S (fun x y => x = y) (fun L st S => V MX0_checkTail h 29 L st S Q) (fun L st S => V MX0_checkTail h 33 L st S Q)) (-1)) 1) 1) : V MX0_checkTail h 23 L st S Q :=
  v_istore_n dX0_checkTail_23 rfl (by decide) (fun L st S k => v_iload_n dX0_checkTail_24 rfl (fun L st S k => v_iconst dX0_checkTail_25 (by decide) (fun L st S k => w_icmp_ne dX0_checkTail_26 (by decide) rfl k) k) k) k
theorem b_X0_checkTail_29 {h : Nat} {L : LVs} {st : List AV} {S : ST} {Q : Option AV → ST → Prop} (k : o_c L st S (fun L st S => t_ir st S Q) (-1001)) : V MX0_checkTail h 29 L st S Q :=
  v_sipush dX0_checkTail_29 (by decide) (fun L st S k => w_ir dX0_checkTail_32 rfl k) k
theorem b_X0_checkTail_33 {h : Nat} {L : LVs} {st : List AV} {S : ST} {Q : Option AV → ST → Prop} (k : o_al L st S (fun L st S => o_get L st S (fun L st S => o_get L st S (fun L st S => o_is L st S (fun L st S => o_il L st S (fun L st S => o_c L st S (fun L st S => t_2 L st S (fun x y => x = y) (fun L st S => V MX0_checkTail h 66 L st S Q) (fun L st S => V MX0_checkTail h 46 L st S Q)) (-1)) 2) 2) 6 15 (0, 0, 0)) 0 1 (4, 6, 0)) 0) : V MX0_checkTail h 33 L st S Q :=
  v_aload_n dX0_checkTail_33 rfl (fun L st S k => v_get dX0_checkTail_34 rfl iX0 LY_0 rfl (by decide) rfl fl_X0_15 (fun L st S k => v_get dX0_checkTail_37 rfl iX6 LY_6 rfl (by decide) rfl fl_X0_143 (fun L st S k => v_istore_n dX0_checkTail_40 rfl (by decide) (fun L st S k => v_iload_n dX0_checkTail_41 rfl (fun L st S k => v_iconst dX0_checkTail_42 (by decide) (fun L st S k => w_icmp_eq dX0_checkTail_43 (by decide) rfl k) k) k) k) k) k) k
theorem b_X0_checkTail_46 {h : Nat} {L : LVs} {st : List AV} {S : ST} {Q : Option AV → ST → Prop} (k : o_il L st S (fun L st S => o_c L st S (fun L st S => t_2 L st S (fun x y => x < y) (fun L st S => V MX0_checkTail h 62 L st S Q) (fun L st S => V MX0_checkTail h 51 L st S Q)) (nI 1)) 2) : V MX0_checkTail h 46 L st S Q :=
  v_iload_n dX0_checkTail_46 rfl (fun L st S k => v_iconst dX0_checkTail_47 (by decide) (fun L st S k => w_icmp_lt dX0_checkTail_48 (by decide) rfl k) k) k
theorem b_X0_checkTail_51 {h : Nat} {L : LVs} {st : List AV} {S : ST} {Q : Option AV → ST → Prop} (k : o_il L st S (fun L st S => o_al L st S (fun L st S => o_get L st S (fun L st S => o_get L st S (fun L st S => t_2 L st S (fun x y => x ≤ y) (fun L st S => V MX0_checkTail h 66 L st S Q) (fun L st S => V MX0_checkTail h 62 L st S Q)) 6 10 (0, 0, 0)) 0 1 (4, 6, 0)) 0) 2) : V MX0_checkTail h 51 L st S Q :=
  v_iload_n dX0_checkTail_51 rfl (fun L st S k => v_aload_n dX0_checkTail_52 rfl (fun L st S k => v_get dX0_checkTail_53 rfl iX0 LY_0 rfl (by decide) rfl fl_X0_15 (fun L st S k => v_get dX0_checkTail_56 rfl iX6 LY_6 rfl (by decide) rfl fl_X0_92 (fun L st S k => w_icmp_le dX0_checkTail_59 (by decide) rfl k) k) k) k) k
theorem b_X0_checkTail_62 {h : Nat} {L : LVs} {st : List AV} {S : ST} {Q : Option AV → ST → Prop} (k : o_c L st S (fun L st S => t_ir st S Q) (-1002)) : V MX0_checkTail h 62 L st S Q :=
  v_sipush dX0_checkTail_62 (by decide) (fun L st S k => w_ir dX0_checkTail_65 rfl k) k
theorem b_X0_checkTail_66 {h : Nat} {L : LVs} {st : List AV} {S : ST} {Q : Option AV → ST → Prop} (k : o_al L st S (fun L st S => o_get L st S (fun L st S => V MX0_checkTail h 70 L st S Q) 0 1 (4, 6, 0)) 0) : V MX0_checkTail h 66 L st S Q :=
  v_aload_n dX0_checkTail_66 rfl (fun L st S k => v_get dX0_checkTail_67 rfl iX0 LY_0 rfl (by decide) rfl fl_X0_15 (fun L st S k => k) k) k
theorem k_X0_checkTail_70 {h : Nat} {L : LVs} {st : List AV} {S : ST} {Q Q' : Option AV → ST → Prop} {j : Nat} (hC : Ct MX6_aggregateCount h [vR 6 j] S Q') (k : ∀ (r : Option AV) (S' : ST), Q' r S' → V MX0_checkTail (h + 1) 73 L (r.toList ++ st) S' Q) (hj : j < NI 6) (hw : wid st ≤ 8) : V MX0_checkTail (h + 1) 70 L (vR 6 j :: st) S Q :=
  v_callV (M' := MX6_aggregateCount) (c := 6) (As := []) dX0_checkTail_70 ml_X0_146 im_X6_aggregateCount se_X6_aggregateCount in_X6 cd_X6_aggregateCount rfl LY_6 np_X6_aggregateCount (by decide) hw hj hC k
theorem b_X0_checkTail_73 {h : Nat} {L : LVs} {st : List AV} {S : ST} {Q : Option AV → ST → Prop} (k : o_is L st S (fun L st S => o_al L st S (fun L st S => o_get L st S (fun L st S => V MX0_checkTail h 78 L st S Q) 0 1 (4, 6, 0)) 0) 3) : V MX0_checkTail h 73 L st S Q :=
  v_istore_n dX0_checkTail_73 rfl (by decide) (fun L st S k => v_aload_n dX0_checkTail_74 rfl (fun L st S k => v_get dX0_checkTail_75 rfl iX0 LY_0 rfl (by decide) rfl fl_X0_15 (fun L st S k => k) k) k) k
theorem k_X0_checkTail_78 {h : Nat} {L : LVs} {st : List AV} {S : ST} {Q Q' : Option AV → ST → Prop} {j : Nat} (hC : Ct MX6_isGrouped h [vR 6 j] S Q') (k : ∀ (r : Option AV) (S' : ST), Q' r S' → V MX0_checkTail (h + 1) 81 L (r.toList ++ st) S' Q) (hj : j < NI 6) (hw : wid st ≤ 8) : V MX0_checkTail (h + 1) 78 L (vR 6 j :: st) S Q :=
  v_callV (M' := MX6_isGrouped) (c := 6) (As := []) dX0_checkTail_78 ml_X0_134 im_X6_isGrouped se_X6_isGrouped in_X6 cd_X6_isGrouped rfl LY_6 np_X6_isGrouped (by decide) hw hj hC k
theorem b_X0_checkTail_81 {h : Nat} {L : LVs} {st : List AV} {S : ST} {Q : Option AV → ST → Prop} (k : t_1 L st S (fun x => x = nI 0) (fun L st S => V MX0_checkTail h 113 L st S Q) (fun L st S => V MX0_checkTail h 84 L st S Q)) : V MX0_checkTail h 81 L st S Q :=
  w_if_eq dX0_checkTail_81 (by decide) rfl k
theorem b_X0_checkTail_84 {h : Nat} {L : LVs} {st : List AV} {S : ST} {Q : Option AV → ST → Prop} (k : o_al L st S (fun L st S => o_il L st S (fun L st S => V MX0_checkTail h 86 L st S Q) 1) 0) : V MX0_checkTail h 84 L st S Q :=
  v_aload_n dX0_checkTail_84 rfl (fun L st S k => v_iload_n dX0_checkTail_85 rfl (fun L st S k => k) k) k
theorem k_X0_checkTail_86 {h : Nat} {L : LVs} {st : List AV} {S : ST} {Q Q' : Option AV → ST → Prop} {j : Nat} {a0 : AV} (hC : Ct MX0_isFirstItem h [vR 0 j, a0] S Q') (k : ∀ (r : Option AV) (S' : ST), Q' r S' → V MX0_checkTail (h + 1) 89 L (r.toList ++ st) S' Q) (hj : j < NI 0) (hw : wid st ≤ 8) : V MX0_checkTail (h + 1) 86 L (a0 :: vR 0 j :: st) S Q :=
  v_callV (M' := MX0_isFirstItem) (c := 0) (As := [a0]) dX0_checkTail_86 ml_X0_149 im_X0_isFirstItem se_X0_isFirstItem in_X0 cd_X0_isFirstItem rfl LY_0 np_X0_isFirstItem (by decide) hw hj hC k
theorem b_X0_checkTail_89 {h : Nat} {L : LVs} {st : List AV} {S : ST} {Q : Option AV → ST → Prop} (k : t_1 L st S (fun x => x = nI 0) (fun L st S => V MX0_checkTail h 109 L st S Q) (fun L st S => V MX0_checkTail h 92 L st S Q)) : V MX0_checkTail h 89 L st S Q :=
  w_if_eq dX0_checkTail_89 (by decide) rfl k
theorem b_X0_checkTail_92 {h : Nat} {L : LVs} {st : List AV} {S : ST} {Q : Option AV → ST → Prop} (k : o_il L st S (fun L st S => o_al L st S (fun L st S => o_get L st S (fun L st S => o_get L st S (fun L st S => o_c L st S (fun L st S => o_isub L st S (fun L st S => t_2 L st S (fun x y => x = y) (fun L st S => V MX0_checkTail h 105 L st S Q) (fun L st S => V MX0_checkTail h 109 L st S Q))) (nI 1)) 6 10 (0, 0, 0)) 0 1 (4, 6, 0)) 0) 3) : V MX0_checkTail h 92 L st S Q :=
  v_iload_n dX0_checkTail_92 rfl (fun L st S k => v_aload_n dX0_checkTail_93 rfl (fun L st S k => v_get dX0_checkTail_94 rfl iX0 LY_0 rfl (by decide) rfl fl_X0_15 (fun L st S k => v_get dX0_checkTail_97 rfl iX6 LY_6 rfl (by decide) rfl fl_X0_92 (fun L st S k => v_iconst dX0_checkTail_100 (by decide) (fun L st S k => v_isub dX0_checkTail_101 (fun L st S k => w_icmp_ne dX0_checkTail_102 (by decide) rfl k) k) k) k) k) k) k
theorem b_X0_checkTail_105 {h : Nat} {L : LVs} {st : List AV} {S : ST} {Q : Option AV → ST → Prop} (k : o_c L st S (fun L st S => V MX0_checkTail h 133 L st S Q) (nI 1)) : V MX0_checkTail h 105 L st S Q :=
  v_iconst dX0_checkTail_105 (by decide) (fun L st S k => v_goto dX0_checkTail_106 (by decide) k) k
theorem b_X0_checkTail_109 {h : Nat} {L : LVs} {st : List AV} {S : ST} {Q : Option AV → ST → Prop} (k : o_c L st S (fun L st S => V MX0_checkTail h 133 L st S Q) (nI 0)) : V MX0_checkTail h 109 L st S Q :=
  v_iconst dX0_checkTail_109 (by decide) (fun L st S k => v_goto dX0_checkTail_110 (by decide) k) k
theorem b_X0_checkTail_113 {h : Nat} {L : LVs} {st : List AV} {S : ST} {Q : Option AV → ST → Prop} (k : o_il L st S (fun L st S => t_1 L st S (fun x => x = nI 0) (fun L st S => V MX0_checkTail h 128 L st S Q) (fun L st S => V MX0_checkTail h 117 L st S Q)) 3) : V MX0_checkTail h 113 L st S Q :=
  v_iload_n dX0_checkTail_113 rfl (fun L st S k => w_if_eq dX0_checkTail_114 (by decide) rfl k) k
theorem b_X0_checkTail_117 {h : Nat} {L : LVs} {st : List AV} {S : ST} {Q : Option AV → ST → Prop} (k : o_il L st S (fun L st S => o_al L st S (fun L st S => o_get L st S (fun L st S => o_get L st S (fun L st S => t_2 L st S (fun x y => x = y) (fun L st S => V MX0_checkTail h 128 L st S Q) (fun L st S => V MX0_checkTail h 132 L st S Q)) 6 10 (0, 0, 0)) 0 1 (4, 6, 0)) 0) 3) : V MX0_checkTail h 117 L st S Q :=
  v_iload_n dX0_checkTail_117 rfl (fun L st S k => v_aload_n dX0_checkTail_118 rfl (fun L st S k => v_get dX0_checkTail_119 rfl iX0 LY_0 rfl (by decide) rfl fl_X0_15 (fun L st S k => v_get dX0_checkTail_122 rfl iX6 LY_6 rfl (by decide) rfl fl_X0_92 (fun L st S k => w_icmp_ne dX0_checkTail_125 (by decide) rfl k) k) k) k) k
theorem b_X0_checkTail_128 {h : Nat} {L : LVs} {st : List AV} {S : ST} {Q : Option AV → ST → Prop} (k : o_c L st S (fun L st S => V MX0_checkTail h 133 L st S Q) (nI 1)) : V MX0_checkTail h 128 L st S Q :=
  v_iconst dX0_checkTail_128 (by decide) (fun L st S k => v_goto dX0_checkTail_129 (by decide) k) k
theorem b_X0_checkTail_132 {h : Nat} {L : LVs} {st : List AV} {S : ST} {Q : Option AV → ST → Prop} (k : o_c L st S (fun L st S => V MX0_checkTail h 133 L st S Q) (nI 0)) : V MX0_checkTail h 132 L st S Q :=
  v_iconst dX0_checkTail_132 (by decide) (fun L st S k => k) k
theorem b_X0_checkTail_133 {h : Nat} {L : LVs} {st : List AV} {S : ST} {Q : Option AV → ST → Prop} (k : o_is L st S (fun L st S => o_il L st S (fun L st S => t_1 L st S (fun x => x = nI 0) (fun L st S => V MX0_checkTail h 144 L st S Q) (fun L st S => V MX0_checkTail h 140 L st S Q)) 4) 4) : V MX0_checkTail h 133 L st S Q :=
  v_istore dX0_checkTail_133 (by decide) (fun L st S k => v_iload dX0_checkTail_135 (fun L st S k => w_if_eq dX0_checkTail_137 (by decide) rfl k) k) k
theorem b_X0_checkTail_140 {h : Nat} {L : LVs} {st : List AV} {S : ST} {Q : Option AV → ST → Prop} (k : o_c L st S (fun L st S => V MX0_checkTail h 147 L st S Q) (nI 0)) : V MX0_checkTail h 140 L st S Q :=
  v_iconst dX0_checkTail_140 (by decide) (fun L st S k => v_goto dX0_checkTail_141 (by decide) k) k
theorem b_X0_checkTail_144 {h : Nat} {L : LVs} {st : List AV} {S : ST} {Q : Option AV → ST → Prop} (k : o_c L st S (fun L st S => V MX0_checkTail h 147 L st S Q) (-1002)) : V MX0_checkTail h 144 L st S Q :=
  v_sipush dX0_checkTail_144 (by decide) (fun L st S k => k) k
theorem b_X0_checkTail_147 {h : Nat} {L : LVs} {st : List AV} {S : ST} {Q : Option AV → ST → Prop} (k : t_ir st S Q) : V MX0_checkTail h 147 L st S Q :=
  w_ir dX0_checkTail_147 rfl k
-- QueryForge$Checker.isFirstItem(I)Z
theorem dX0_isFirstItem_0 : decode cX0_isFirstItem 0 = .ok (.aload_n 0, 1) := by decide +kernel
theorem dX0_isFirstItem_1 : decode cX0_isFirstItem 1 = .ok (.getfield 15, 3) := by decide +kernel
theorem dX0_isFirstItem_4 : decode cX0_isFirstItem 4 = .ok (.getfield 131, 3) := by decide +kernel
theorem dX0_isFirstItem_7 : decode cX0_isFirstItem 7 = .ok (.iconst 0, 1) := by decide +kernel
theorem dX0_isFirstItem_8 : decode cX0_isFirstItem 8 = .ok (.iaload, 1) := by decide +kernel
theorem dX0_isFirstItem_9 : decode cX0_isFirstItem 9 = .ok (.iconst (-1), 1) := by decide +kernel
theorem dX0_isFirstItem_10 : decode cX0_isFirstItem 10 = .ok (.if_icmp .ne 55, 3) := by decide +kernel
theorem dX0_isFirstItem_13 : decode cX0_isFirstItem 13 = .ok (.aload_n 0, 1) := by decide +kernel
theorem dX0_isFirstItem_14 : decode cX0_isFirstItem 14 = .ok (.getfield 15, 3) := by decide +kernel
theorem dX0_isFirstItem_17 : decode cX0_isFirstItem 17 = .ok (.getfield 125, 3) := by decide +kernel
theorem dX0_isFirstItem_20 : decode cX0_isFirstItem 20 = .ok (.iconst 0, 1) := by decide +kernel
theorem dX0_isFirstItem_21 : decode cX0_isFirstItem 21 = .ok (.iaload, 1) := by decide +kernel
theorem dX0_isFirstItem_22 : decode cX0_isFirstItem 22 = .ok (.iconst 1, 1) := by decide +kernel
theorem dX0_isFirstItem_23 : decode cX0_isFirstItem 23 = .ok (.if_icmp .ne 42, 3) := by decide +kernel
theorem dX0_isFirstItem_26 : decode cX0_isFirstItem 26 = .ok (.aload_n 0, 1) := by decide +kernel
theorem dX0_isFirstItem_27 : decode cX0_isFirstItem 27 = .ok (.getfield 15, 3) := by decide +kernel
theorem dX0_isFirstItem_30 : decode cX0_isFirstItem 30 = .ok (.getfield 72, 3) := by decide +kernel
theorem dX0_isFirstItem_33 : decode cX0_isFirstItem 33 = .ok (.iconst 0, 1) := by decide +kernel
theorem dX0_isFirstItem_34 : decode cX0_isFirstItem 34 = .ok (.invokevirtual 153, 3) := by decide +kernel
theorem dX0_isFirstItem_37 : decode cX0_isFirstItem 37 = .ok (.iload_n 1, 1) := by decide +kernel
theorem dX0_isFirstItem_38 : decode cX0_isFirstItem 38 = .ok (.invokestatic 156, 3) := by decide +kernel
theorem dX0_isFirstItem_41 : decode cX0_isFirstItem 41 = .ok (.if_icmp .ne 24, 3) := by decide +kernel
theorem dX0_isFirstItem_44 : decode cX0_isFirstItem 44 = .ok (.aload_n 0, 1) := by decide +kernel
theorem dX0_isFirstItem_45 : decode cX0_isFirstItem 45 = .ok (.getfield 15, 3) := by decide +kernel
theorem dX0_isFirstItem_48 : decode cX0_isFirstItem 48 = .ok (.getfield 72, 3) := by decide +kernel
theorem dX0_isFirstItem_51 : decode cX0_isFirstItem 51 = .ok (.iconst 0, 1) := by decide +kernel
theorem dX0_isFirstItem_52 : decode cX0_isFirstItem 52 = .ok (.invokevirtual 159, 3) := by decide +kernel
theorem dX0_isFirstItem_55 : decode cX0_isFirstItem 55 = .ok (.iload_n 1, 1) := by decide +kernel
theorem dX0_isFirstItem_56 : decode cX0_isFirstItem 56 = .ok (.iconst 4, 1) := by decide +kernel
theorem dX0_isFirstItem_57 : decode cX0_isFirstItem 57 = .ok (.irem, 1) := by decide +kernel
theorem dX0_isFirstItem_58 : decode cX0_isFirstItem 58 = .ok (.if_icmp .ne 7, 3) := by decide +kernel
theorem dX0_isFirstItem_61 : decode cX0_isFirstItem 61 = .ok (.iconst 1, 1) := by decide +kernel
theorem dX0_isFirstItem_62 : decode cX0_isFirstItem 62 = .ok (.goto 4, 3) := by decide +kernel
theorem dX0_isFirstItem_65 : decode cX0_isFirstItem 65 = .ok (.iconst 0, 1) := by decide +kernel
theorem dX0_isFirstItem_66 : decode cX0_isFirstItem 66 = .ok (.ireturn, 1) := by decide +kernel
theorem b_X0_isFirstItem_0 {h : Nat} {L : LVs} {st : List AV} {S : ST} {Q : Option AV → ST → Prop} (k : o_al L st S (fun L st S => o_get L st S (fun L st S => o_get L st S (fun L st S => o_c L st S (fun L st S => o_iald L st S (fun L st S => o_c L st S (fun L st S => t_2 L st S (fun x y => x = y) (fun L st S => V MX0_isFirstItem h 13 L st S Q) (fun L st S => V MX0_isFirstItem h 65 L st S Q)) (-1))) (nI 0)) 6 6 (3, 27, 0)) 0 1 (4, 6, 0)) 0) : V MX0_isFirstItem h 0 L st S Q :=
  v_aload_n dX0_isFirstItem_0 rfl (fun L st S k => v_get dX0_isFirstItem_1 rfl iX0 LY_0 rfl (by decide) rfl fl_X0_15 (fun L st S k => v_get dX0_isFirstItem_4 rfl iX6 LY_6 rfl (by decide) rfl fl_X0_131 (fun L st S k => v_iconst dX0_isFirstItem_7 (by decide) (fun L st S k => v_iaload dX0_isFirstItem_8 (fun L st S k => v_iconst dX0_isFirstItem_9 (by decide) (fun L st S k => w_icmp_ne dX0_isFirstItem_10 (by decide) rfl k) k) k) k) k) k) k
theorem b_X0_isFirstItem_13 {h : Nat} {L : LVs} {st : List AV} {S : ST} {Q : Option AV → ST → Prop} (k : o_al L st S (fun L st S => o_get L st S (fun L st S => o_get L st S (fun L st S => o_c L st S (fun L st S => o_iald L st S (fun L st S => o_c L st S (fun L st S => t_2 L st S (fun x y => x = y) (fun L st S => V MX0_isFirstItem h 26 L st S Q) (fun L st S => V MX0_isFirstItem h 65 L st S Q)) (nI 1))) (nI 0)) 6 7 (3, 28, 0)) 0 1 (4, 6, 0)) 0) : V MX0_isFirstItem h 13 L st S Q :=
  v_aload_n dX0_isFirstItem_13 rfl (fun L st S k => v_get dX0_isFirstItem_14 rfl iX0 LY_0 rfl (by decide) rfl fl_X0_15 (fun L st S k => v_get dX0_isFirstItem_17 rfl iX6 LY_6 rfl (by decide) rfl fl_X0_125 (fun L st S k => v_iconst dX0_isFirstItem_20 (by decide) (fun L st S k => v_iaload dX0_isFirstItem_21 (fun L st S k => v_iconst dX0_isFirstItem_22 (by decide) (fun L st S k => w_icmp_ne dX0_isFirstItem_23 (by decide) rfl k) k) k) k) k) k) k
theorem b_X0_isFirstItem_26 {h : Nat} {L : LVs} {st : List AV} {S : ST} {Q : Option AV → ST → Prop} (k : o_al L st S (fun L st S => o_get L st S (fun L st S => o_get L st S (fun L st S => o_c L st S (fun L st S => V MX0_isFirstItem h 34 L st S Q) (nI 0)) 6 0 (4, 1, 0)) 0 1 (4, 6, 0)) 0) : V MX0_isFirstItem h 26 L st S Q :=
  v_aload_n dX0_isFirstItem_26 rfl (fun L st S k => v_get dX0_isFirstItem_27 rfl iX0 LY_0 rfl (by decide) rfl fl_X0_15 (fun L st S k => v_get dX0_isFirstItem_30 rfl iX6 LY_6 rfl (by decide) rfl fl_X0_72 (fun L st S k => v_iconst dX0_isFirstItem_33 (by decide) (fun L st S k => k) k) k) k) k
theorem k_X0_isFirstItem_34 {h : Nat} {L : LVs} {st : List AV} {S : ST} {Q Q' : Option AV → ST → Prop} {j : Nat} {a0 : AV} (hC : Ct MX1_operationAt h [vR 1 j, a0] S Q') (k : ∀ (r : Option AV) (S' : ST), Q' r S' → V MX0_isFirstItem (h + 1) 37 L (r.toList ++ st) S' Q) (hj : j < NI 1) (hw : wid st ≤ 8) : V MX0_isFirstItem (h + 1) 34 L (a0 :: vR 1 j :: st) S Q :=
  v_callV (M' := MX1_operationAt) (c := 1) (As := [a0]) dX0_isFirstItem_34 ml_X0_153 im_X1_operationAt se_X1_operationAt in_X1 cd_X1_operationAt rfl LY_1 np_X1_operationAt (by decide) hw hj hC k
theorem b_X0_isFirstItem_37 {h : Nat} {L : LVs} {st : List AV} {S : ST} {Q : Option AV → ST → Prop} (k : o_il L st S (fun L st S => V MX0_isFirstItem h 38 L st S Q) 1) : V MX0_isFirstItem h 37 L st S Q :=
  v_iload_n dX0_isFirstItem_37 rfl (fun L st S k => k) k
theorem k_X0_isFirstItem_38 {h : Nat} {L : LVs} {st : List AV} {S : ST} {Q Q' : Option AV → ST → Prop} {a0 : AV} (hC : Ct MX0_loadOf h [a0] S Q') (k : ∀ (r : Option AV) (S' : ST), Q' r S' → V MX0_isFirstItem (h + 1) 41 L (r.toList ++ st) S' Q) (hw : wid st ≤ 8) : V MX0_isFirstItem (h + 1) 38 L (a0 :: st) S Q :=
  v_callS (M' := MX0_loadOf) (As := [a0]) dX0_isFirstItem_38 ml_X0_156 sm_X0_loadOf in_X0 cd_X0_loadOf ⟨rfl, np_X0_loadOf⟩ (by decide) hw hC k
theorem b_X0_isFirstItem_41 {h : Nat} {L : LVs} {st : List AV} {S : ST} {Q : Option AV → ST → Prop} (k : t_2 L st S (fun x y => x = y) (fun L st S => V MX0_isFirstItem h 44 L st S Q) (fun L st S => V MX0_isFirstItem h 65 L st S Q)) : V MX0_isFirstItem h 41 L st S Q :=
  w_icmp_ne dX0_isFirstItem_41 (by decide) rfl k
theorem b_X0_isFirstItem_44 {h : Nat} {L : LVs} {st : List AV} {S : ST} {Q : Option AV → ST → Prop} (k : o_al L st S (fun L st S => o_get L st S (fun L st S => o_get L st S (fun L st S => o_c L st S (fun L st S => V MX0_isFirstItem h 52 L st S Q) (nI 0)) 6 0 (4, 1, 0)) 0 1 (4, 6, 0)) 0) : V MX0_isFirstItem h 44 L st S Q :=
  v_aload_n dX0_isFirstItem_44 rfl (fun L st S k => v_get dX0_isFirstItem_45 rfl iX0 LY_0 rfl (by decide) rfl fl_X0_15 (fun L st S k => v_get dX0_isFirstItem_48 rfl iX6 LY_6 rfl (by decide) rfl fl_X0_72 (fun L st S k => v_iconst dX0_isFirstItem_51 (by decide) (fun L st S k => k) k) k) k) k
theorem k_X0_isFirstItem_52 {h : Nat} {L : LVs} {st : List AV} {S : ST} {Q Q' : Option AV → ST → Prop} {j : Nat} {a0 : AV} (hC : Ct MX1_argumentAt h [vR 1 j, a0] S Q') (k : ∀ (r : Option AV) (S' : ST), Q' r S' → V MX0_isFirstItem (h + 1) 55 L (r.toList ++ st) S' Q) (hj : j < NI 1) (hw : wid st ≤ 8) : V MX0_isFirstItem (h + 1) 52 L (a0 :: vR 1 j :: st) S Q :=
  v_callV (M' := MX1_argumentAt) (c := 1) (As := [a0]) dX0_isFirstItem_52 ml_X0_159 im_X1_argumentAt se_X1_argumentAt in_X1 cd_X1_argumentAt rfl LY_1 np_X1_argumentAt (by decide) hw hj hC k
theorem b_X0_isFirstItem_55 {h : Nat} {L : LVs} {st : List AV} {S : ST} {Q : Option AV → ST → Prop} (k : o_il L st S (fun L st S => o_c L st S (fun L st S => o_irem L st S (fun L st S => t_2 L st S (fun x y => x = y) (fun L st S => V MX0_isFirstItem h 61 L st S Q) (fun L st S => V MX0_isFirstItem h 65 L st S Q))) (nI 4)) 1) : V MX0_isFirstItem h 55 L st S Q :=
  v_iload_n dX0_isFirstItem_55 rfl (fun L st S k => v_iconst dX0_isFirstItem_56 (by decide) (fun L st S k => v_irem dX0_isFirstItem_57 (fun L st S k => w_icmp_ne dX0_isFirstItem_58 (by decide) rfl k) k) k) k
theorem b_X0_isFirstItem_61 {h : Nat} {L : LVs} {st : List AV} {S : ST} {Q : Option AV → ST → Prop} (k : o_c L st S (fun L st S => V MX0_isFirstItem h 66 L st S Q) (nI 1)) : V MX0_isFirstItem h 61 L st S Q :=
  v_iconst dX0_isFirstItem_61 (by decide) (fun L st S k => v_goto dX0_isFirstItem_62 (by decide) k) k
theorem b_X0_isFirstItem_65 {h : Nat} {L : LVs} {st : List AV} {S : ST} {Q : Option AV → ST → Prop} (k : o_c L st S (fun L st S => V MX0_isFirstItem h 66 L st S Q) (nI 0)) : V MX0_isFirstItem h 65 L st S Q :=
  v_iconst dX0_isFirstItem_65 (by decide) (fun L st S k => k) k
theorem b_X0_isFirstItem_66 {h : Nat} {L : LVs} {st : List AV} {S : ST} {Q : Option AV → ST → Prop} (k : t_zr st S Q) : V MX0_isFirstItem h 66 L st S Q :=
  w_zr dX0_isFirstItem_66 rfl k
-- QueryForge$Checker.checkWords(II)I
theorem dX0_checkWords_0 : decode cX0_checkWords 0 = .ok (.aload_n 0, 1) := by decide +kernel
theorem dX0_checkWords_1 : decode cX0_checkWords 1 = .ok (.iconst 0, 1) := by decide +kernel
theorem dX0_checkWords_2 : decode cX0_checkWords 2 = .ok (.putfield 27, 3) := by decide +kernel
theorem dX0_checkWords_5 : decode cX0_checkWords 5 = .ok (.iload_n 1, 1) := by decide +kernel
theorem dX0_checkWords_6 : decode cX0_checkWords 6 = .ok (.istore_n 3, 1) := by decide +kernel
theorem dX0_checkWords_7 : decode cX0_checkWords 7 = .ok (.iload_n 3, 1) := by decide +kernel
theorem dX0_checkWords_8 : decode cX0_checkWords 8 = .ok (.iload_n 2, 1) := by decide +kernel
theorem dX0_checkWords_9 : decode cX0_checkWords 9 = .ok (.if_icmp .ge 39, 3) := by decide +kernel
theorem dX0_checkWords_12 : decode cX0_checkWords 12 = .ok (.aload_n 0, 1) := by decide +kernel
theorem dX0_checkWords_13 : decode cX0_checkWords 13 = .ok (.iload_n 3, 1) := by decide +kernel
theorem dX0_checkWords_14 : decode cX0_checkWords 14 = .ok (.invokevirtual 162, 3) := by decide +kernel
theorem dX0_checkWords_17 : decode cX0_checkWords 17 = .ok (.istore 4, 2) := by decide +kernel
theorem dX0_checkWords_19 : decode cX0_checkWords 19 = .ok (.iload 4, 2) := by decide +kernel
theorem dX0_checkWords_21 : decode cX0_checkWords 21 = .ok (.ifCond .eq 6, 3) := by decide +kernel
theorem dX0_checkWords_24 : decode cX0_checkWords 24 = .ok (.iload 4, 2) := by decide +kernel
theorem dX0_checkWords_26 : decode cX0_checkWords 26 = .ok (.ireturn, 1) := by decide +kernel
theorem dX0_checkWords_27 : decode cX0_checkWords 27 = .ok (.aload_n 0, 1) := by decide +kernel
theorem dX0_checkWords_28 : decode cX0_checkWords 28 = .ok (.aload_n 0, 1) := by decide +kernel
theorem dX0_checkWords_29 : decode cX0_checkWords 29 = .ok (.getfield 31, 3) := by decide +kernel
theorem dX0_checkWords_32 : decode cX0_checkWords 32 = .ok (.aload_n 0, 1) := by decide +kernel
theorem dX0_checkWords_33 : decode cX0_checkWords 33 = .ok (.getfield 27, 3) := by decide +kernel
theorem dX0_checkWords_36 : decode cX0_checkWords 36 = .ok (.invokestatic 165, 3) := by decide +kernel
theorem dX0_checkWords_39 : decode cX0_checkWords 39 = .ok (.putfield 31, 3) := by decide +kernel
theorem dX0_checkWords_42 : decode cX0_checkWords 42 = .ok (.iinc 3 1, 3) := by decide +kernel
theorem dX0_checkWords_45 : decode cX0_checkWords 45 = .ok (.goto (-38), 3) := by decide +kernel
theorem dX0_checkWords_48 : decode cX0_checkWords 48 = .ok (.iconst 0, 1) := by decide +kernel
theorem dX0_checkWords_49 : decode cX0_checkWords 49 = .ok (.ireturn, 1) := by decide +kernel
theorem b_X0_checkWords_0 {h : Nat} {L : LVs} {st : List AV} {S : ST} {Q : Option AV → ST → Prop} (k : o_al L st S (fun L st S => o_c L st S (fun L st S => o_puti L st S (fun L st S => o_il L st S (fun L st S => o_is L st S (fun L st S => V MX0_checkWords h 7 L st S Q) 3) 1) 0 4) (nI 0)) 0) : V MX0_checkWords h 0 L st S Q :=
  v_aload_n dX0_checkWords_0 rfl (fun L st S k => v_iconst dX0_checkWords_1 (by decide) (fun L st S k => v_puti dX0_checkWords_2 rfl iX0 tyX0_ok nmX0 LY_0 rfl (by decide) rfl fl_X0_27 rfl rfl (fun L st S k => v_iload_n dX0_checkWords_5 rfl (fun L st S k => v_istore_n dX0_checkWords_6 rfl (by decide) (fun L st S k => k) k) k) k) k) k
theorem b_X0_checkWords_7 {h : Nat} {L : LVs} {st : List AV} {S : ST} {Q : Option AV → ST → Prop} (k : o_il L st S (fun L st S => o_il L st S (fun L st S => t_2 L st S (fun x y => y ≤ x) (fun L st S => V MX0_checkWords h 48 L st S Q) (fun L st S => V MX0_checkWords h 12 L st S Q)) 2) 3) : V MX0_checkWords h 7 L st S Q :=
  v_iload_n dX0_checkWords_7 rfl (fun L st S k => v_iload_n dX0_checkWords_8 rfl (fun L st S k => w_icmp_ge dX0_checkWords_9 (by decide) rfl k) k) k
theorem b_X0_checkWords_12 {h : Nat} {L : LVs} {st : List AV} {S : ST} {Q : Option AV → ST → Prop} (k : o_al L st S (fun L st S => o_il L st S (fun L st S => V MX0_checkWords h 14 L st S Q) 3) 0) : V MX0_checkWords h 12 L st S Q :=
  v_aload_n dX0_checkWords_12 rfl (fun L st S k => v_iload_n dX0_checkWords_13 rfl (fun L st S k => k) k) k
theorem k_X0_checkWords_14 {h : Nat} {L : LVs} {st : List AV} {S : ST} {Q Q' : Option AV → ST → Prop} {j : Nat} {a0 : AV} (hC : Ct MX0_checkWord h [vR 0 j, a0] S Q') (k : ∀ (r : Option AV) (S' : ST), Q' r S' → V MX0_checkWords (h + 1) 17 L (r.toList ++ st) S' Q) (hj : j < NI 0) (hw : wid st ≤ 8) : V MX0_checkWords (h + 1) 14 L (a0 :: vR 0 j :: st) S Q :=
  v_callV (M' := MX0_checkWord) (c := 0) (As := [a0]) dX0_checkWords_14 ml_X0_162 im_X0_checkWord se_X0_checkWord in_X0 cd_X0_checkWord rfl LY_0 np_X0_checkWord (by decide) hw hj hC k
theorem b_X0_checkWords_17 {h : Nat} {L : LVs} {st : List AV} {S : ST} {Q : Option AV → ST → Prop} (k : o_is L st S (fun L st S => o_il L st S (fun L st S => t_1 L st S (fun x => x = nI 0) (fun L st S => V MX0_checkWords h 27 L st S Q) (fun L st S => V MX0_checkWords h 24 L st S Q)) 4) 4) : V MX0_checkWords h 17 L st S Q :=
  v_istore dX0_checkWords_17 (by decide) (fun L st S k => v_iload dX0_checkWords_19 (fun L st S k => w_if_eq dX0_checkWords_21 (by decide) rfl k) k) k
theorem b_X0_checkWords_24 {h : Nat} {L : LVs} {st : List AV} {S : ST} {Q : Option AV → ST → Prop} (k : o_il L st S (fun L st S => t_ir st S Q) 4) : V MX0_checkWords h 24 L st S Q :=
  v_iload dX0_checkWords_24 (fun L st S k => w_ir dX0_checkWords_26 rfl k) k
theorem b_X0_checkWords_27 {h : Nat} {L : LVs} {st : List AV} {S : ST} {Q : Option AV → ST → Prop} (k : o_al L st S (fun L st S => o_al L st S (fun L st S => o_get L st S (fun L st S => o_al L st S (fun L st S => o_get L st S (fun L st S => o_max L st S (fun L st S => o_puti L st S (fun L st S => o_inc L st S (fun L st S => V MX0_checkWords (h + 1) 7 L st S Q) 3 (nI 1)) 0 5)) 0 4 (0, 0, 0)) 0) 0 5 (0, 0, 0)) 0) 0) : V MX0_checkWords (h + 1) 27 L st S Q :=
  v_aload_n dX0_checkWords_27 rfl (fun L st S k => v_aload_n dX0_checkWords_28 rfl (fun L st S k => v_get dX0_checkWords_29 rfl iX0 LY_0 rfl (by decide) rfl fl_X0_31 (fun L st S k => v_aload_n dX0_checkWords_32 rfl (fun L st S k => v_get dX0_checkWords_33 rfl iX0 LY_0 rfl (by decide) rfl fl_X0_27 (fun L st S k => v_max dX0_checkWords_36 mm_X0_165 (fun L st S k => v_puti dX0_checkWords_39 rfl iX0 tyX0_ok nmX0 LY_0 rfl (by decide) rfl fl_X0_31 rfl rfl (fun L st S k => v_iinc dX0_checkWords_42 (by decide) (by decide) (fun L st S k => v_goto dX0_checkWords_45 (by decide) k) k) k) k) k) k) k) k) k
theorem b_X0_checkWords_48 {h : Nat} {L : LVs} {st : List AV} {S : ST} {Q : Option AV → ST → Prop} (k : o_c L st S (fun L st S => t_ir st S Q) (nI 0)) : V MX0_checkWords h 48 L st S Q :=
  v_iconst dX0_checkWords_48 (by decide) (fun L st S k => w_ir dX0_checkWords_49 rfl k) k
-- QueryForge$Checker.checkWord(I)I
theorem dX0_checkWord_0 : decode cX0_checkWord 0 = .ok (.aload_n 0, 1) := by decide +kernel
theorem dX0_checkWord_1 : decode cX0_checkWord 1 = .ok (.getfield 15, 3) := by decide +kernel
theorem dX0_checkWord_4 : decode cX0_checkWord 4 = .ok (.getfield 72, 3) := by decide +kernel
theorem dX0_checkWord_7 : decode cX0_checkWord 7 = .ok (.iload_n 1, 1) := by decide +kernel
theorem dX0_checkWord_8 : decode cX0_checkWord 8 = .ok (.invokevirtual 153, 3) := by decide +kernel
theorem dX0_checkWord_11 : decode cX0_checkWord 11 = .ok (.istore_n 2, 1) := by decide +kernel
theorem dX0_checkWord_12 : decode cX0_checkWord 12 = .ok (.iload_n 2, 1) := by decide +kernel
theorem dX0_checkWord_13 : decode cX0_checkWord 13 = .ok (.bipush 50, 2) := by decide +kernel
theorem dX0_checkWord_15 : decode cX0_checkWord 15 = .ok (.if_icmp .ne 9, 3) := by decide +kernel
theorem dX0_checkWord_18 : decode cX0_checkWord 18 = .ok (.aload_n 0, 1) := by decide +kernel
theorem dX0_checkWord_19 : decode cX0_checkWord 19 = .ok (.iload_n 1, 1) := by decide +kernel
theorem dX0_checkWord_20 : decode cX0_checkWord 20 = .ok (.invokevirtual 172, 3) := by decide +kernel
theorem dX0_checkWord_23 : decode cX0_checkWord 23 = .ok (.ireturn, 1) := by decide +kernel
theorem dX0_checkWord_24 : decode cX0_checkWord 24 = .ok (.iload_n 2, 1) := by decide +kernel
theorem dX0_checkWord_25 : decode cX0_checkWord 25 = .ok (.iconst 3, 1) := by decide +kernel
theorem dX0_checkWord_26 : decode cX0_checkWord 26 = .ok (.if_icmp .gt 28, 3) := by decide +kernel
theorem dX0_checkWord_29 : decode cX0_checkWord 29 = .ok (.aload_n 0, 1) := by decide +kernel
theorem dX0_checkWord_30 : decode cX0_checkWord 30 = .ok (.iload_n 2, 1) := by decide +kernel
theorem dX0_checkWord_31 : decode cX0_checkWord 31 = .ok (.iconst 1, 1) := by decide +kernel
theorem dX0_checkWord_32 : decode cX0_checkWord 32 = .ok (.if_icmp .ne 7, 3) := by decide +kernel
theorem dX0_checkWord_35 : decode cX0_checkWord 35 = .ok (.iconst 1, 1) := by decide +kernel
theorem dX0_checkWord_36 : decode cX0_checkWord 36 = .ok (.goto 13, 3) := by decide +kernel
theorem dX0_checkWord_39 : decode cX0_checkWord 39 = .ok (.iload_n 2, 1) := by decide +kernel
theorem dX0_checkWord_40 : decode cX0_checkWord 40 = .ok (.iconst 2, 1) := by decide +kernel
theorem dX0_checkWord_41 : decode cX0_checkWord 41 = .ok (.if_icmp .ne 7, 3) := by decide +kernel
theorem dX0_checkWord_44 : decode cX0_checkWord 44 = .ok (.iconst 2, 1) := by decide +kernel
theorem dX0_checkWord_45 : decode cX0_checkWord 45 = .ok (.goto 4, 3) := by decide +kernel
theorem dX0_checkWord_48 : decode cX0_checkWord 48 = .ok (.iconst 0, 1) := by decide +kernel
theorem dX0_checkWord_49 : decode cX0_checkWord 49 = .ok (.invokevirtual 175, 3) := by decide +kernel
theorem dX0_checkWord_52 : decode cX0_checkWord 52 = .ok (.iconst 0, 1) := by decide +kernel
theorem dX0_checkWord_53 : decode cX0_checkWord 53 = .ok (.ireturn, 1) := by decide +kernel
theorem dX0_checkWord_54 : decode cX0_checkWord 54 = .ok (.iload_n 2, 1) := by decide +kernel
theorem dX0_checkWord_55 : decode cX0_checkWord 55 = .ok (.bipush 6, 2) := by decide +kernel
theorem dX0_checkWord_57 : decode cX0_checkWord 57 = .ok (.if_icmp .ne 26, 3) := by decide +kernel
theorem dX0_checkWord_60 : decode cX0_checkWord 60 = .ok (.aload_n 0, 1) := by decide +kernel
theorem dX0_checkWord_61 : decode cX0_checkWord 61 = .ok (.invokevirtual 179, 3) := by decide +kernel
theorem dX0_checkWord_64 : decode cX0_checkWord 64 = .ok (.istore_n 3, 1) := by decide +kernel
theorem dX0_checkWord_65 : decode cX0_checkWord 65 = .ok (.aload_n 0, 1) := by decide +kernel
theorem dX0_checkWord_66 : decode cX0_checkWord 66 = .ok (.iconst 1, 1) := by decide +kernel
theorem dX0_checkWord_67 : decode cX0_checkWord 67 = .ok (.invokevirtual 175, 3) := by decide +kernel
theorem dX0_checkWord_70 : decode cX0_checkWord 70 = .ok (.iload_n 3, 1) := by decide +kernel
theorem dX0_checkWord_71 : decode cX0_checkWord 71 = .ok (.iconst 2, 1) := by decide +kernel
theorem dX0_checkWord_72 : decode cX0_checkWord 72 = .ok (.if_icmp .ne 9, 3) := by decide +kernel
theorem dX0_checkWord_75 : decode cX0_checkWord 75 = .ok (.sipush (-1002), 3) := by decide +kernel
theorem dX0_checkWord_78 : decode cX0_checkWord 78 = .ok (.goto 4, 3) := by decide +kernel
theorem dX0_checkWord_81 : decode cX0_checkWord 81 = .ok (.iconst 0, 1) := by decide +kernel
theorem dX0_checkWord_82 : decode cX0_checkWord 82 = .ok (.ireturn, 1) := by decide +kernel
theorem dX0_checkWord_83 : decode cX0_checkWord 83 = .ok (.iload_n 2, 1) := by decide +kernel
theorem dX0_checkWord_84 : decode cX0_checkWord 84 = .ok (.bipush 17, 2) := by decide +kernel
theorem dX0_checkWord_86 : decode cX0_checkWord 86 = .ok (.if_icmp .eq 9, 3) := by decide +kernel
theorem dX0_checkWord_89 : decode cX0_checkWord 89 = .ok (.iload_n 2, 1) := by decide +kernel
theorem dX0_checkWord_90 : decode cX0_checkWord 90 = .ok (.bipush 18, 2) := by decide +kernel
theorem dX0_checkWord_92 : decode cX0_checkWord 92 = .ok (.if_icmp .ne 15, 3) := by decide +kernel
theorem dX0_checkWord_95 : decode cX0_checkWord 95 = .ok (.aload_n 0, 1) := by decide +kernel
theorem dX0_checkWord_96 : decode cX0_checkWord 96 = .ok (.invokevirtual 179, 3) := by decide +kernel
theorem dX0_checkWord_99 : decode cX0_checkWord 99 = .ok (.pop, 1) := by decide +kernel
theorem dX0_checkWord_100 : decode cX0_checkWord 100 = .ok (.aload_n 0, 1) := by decide +kernel
theorem dX0_checkWord_101 : decode cX0_checkWord 101 = .ok (.iconst 0, 1) := by decide +kernel
theorem dX0_checkWord_102 : decode cX0_checkWord 102 = .ok (.invokevirtual 175, 3) := by decide +kernel
theorem dX0_checkWord_105 : decode cX0_checkWord 105 = .ok (.iconst 0, 1) := by decide +kernel
theorem dX0_checkWord_106 : decode cX0_checkWord 106 = .ok (.ireturn, 1) := by decide +kernel
theorem dX0_checkWord_107 : decode cX0_checkWord 107 = .ok (.aload_n 0, 1) := by decide +kernel
theorem dX0_checkWord_108 : decode cX0_checkWord 108 = .ok (.invokevirtual 179, 3) := by decide +kernel
theorem dX0_checkWord_111 : decode cX0_checkWord 111 = .ok (.istore_n 3, 1) := by decide +kernel
theorem dX0_checkWord_112 : decode cX0_checkWord 112 = .ok (.aload_n 0, 1) := by decide +kernel
theorem dX0_checkWord_113 : decode cX0_checkWord 113 = .ok (.invokevirtual 179, 3) := by decide +kernel
theorem dX0_checkWord_116 : decode cX0_checkWord 116 = .ok (.istore 4, 2) := by decide +kernel
theorem dX0_checkWord_118 : decode cX0_checkWord 118 = .ok (.iload_n 2, 1) := by decide +kernel
theorem dX0_checkWord_119 : decode cX0_checkWord 119 = .ok (.bipush 10, 2) := by decide +kernel
theorem dX0_checkWord_121 : decode cX0_checkWord 121 = .ok (.if_icmp .gt 27, 3) := by decide +kernel
theorem dX0_checkWord_124 : decode cX0_checkWord 124 = .ok (.aload_n 0, 1) := by decide +kernel
theorem dX0_checkWord_125 : decode cX0_checkWord 125 = .ok (.iconst 1, 1) := by decide +kernel
theorem dX0_checkWord_126 : decode cX0_checkWord 126 = .ok (.invokevirtual 175, 3) := by decide +kernel
theorem dX0_checkWord_129 : decode cX0_checkWord 129 = .ok (.iload 4, 2) := by decide +kernel
theorem dX0_checkWord_131 : decode cX0_checkWord 131 = .ok (.iconst 2, 1) := by decide +kernel
theorem dX0_checkWord_132 : decode cX0_checkWord 132 = .ok (.if_icmp .eq 8, 3) := by decide +kernel
theorem dX0_checkWord_135 : decode cX0_checkWord 135 = .ok (.iload_n 3, 1) := by decide +kernel
theorem dX0_checkWord_136 : decode cX0_checkWord 136 = .ok (.iconst 2, 1) := by decide +kernel
theorem dX0_checkWord_137 : decode cX0_checkWord 137 = .ok (.if_icmp .ne 9, 3) := by decide +kernel
theorem dX0_checkWord_140 : decode cX0_checkWord 140 = .ok (.sipush (-1002), 3) := by decide +kernel
theorem dX0_checkWord_143 : decode cX0_checkWord 143 = .ok (.goto 4, 3) := by decide +kernel
theorem dX0_checkWord_146 : decode cX0_checkWord 146 = .ok (.iconst 0, 1) := by decide +kernel
theorem dX0_checkWord_147 : decode cX0_checkWord 147 = .ok (.ireturn, 1) := by decide +kernel
theorem dX0_checkWord_148 : decode cX0_checkWord 148 = .ok (.aload_n 0, 1) := by decide +kernel
theorem dX0_checkWord_149 : decode cX0_checkWord 149 = .ok (.iconst 0, 1) := by decide +kernel
theorem dX0_checkWord_150 : decode cX0_checkWord 150 = .ok (.invokevirtual 175, 3) := by decide +kernel
theorem dX0_checkWord_153 : decode cX0_checkWord 153 = .ok (.iload 4, 2) := by decide +kernel
theorem dX0_checkWord_155 : decode cX0_checkWord 155 = .ok (.iload_n 3, 1) := by decide +kernel
theorem dX0_checkWord_156 : decode cX0_checkWord 156 = .ok (.invokestatic 111, 3) := by decide +kernel
theorem dX0_checkWord_159 : decode cX0_checkWord 159 = .ok (.ifCond .eq 9, 3) := by decide +kernel
theorem dX0_checkWord_162 : decode cX0_checkWord 162 = .ok (.sipush (-1002), 3) := by decide +kernel
theorem dX0_checkWord_165 : decode cX0_checkWord 165 = .ok (.goto 4, 3) := by decide +kernel
theorem dX0_checkWord_168 : decode cX0_checkWord 168 = .ok (.iconst 0, 1) := by decide +kernel
theorem dX0_checkWord_169 : decode cX0_checkWord 169 = .ok (.ireturn, 1) := by decide +kernel
theorem b_X0_checkWord_0 {h : Nat} {L : LVs} {st : List AV} {S : ST} {Q : Option AV → ST → Prop} (k : o_al L st S (fun L st S => o_get L st S (fun L st S => o_get L st S (fun L st S => o_il L st S (fun L st S => V MX0_checkWord h 8 L st S Q) 1) 6 0 (4, 1, 0)) 0 1 (4, 6, 0)) 0) : V MX0_checkWord h 0 L st S Q :=
  v_aload_n dX0_checkWord_0 rfl (fun L st S k => v_get dX0_checkWord_1 rfl iX0 LY_0 rfl (by decide) rfl fl_X0_15 (fun L st S k => v_get dX0_checkWord_4 rfl iX6 LY_6 rfl (by decide) rfl fl_X0_72 (fun L st S k => v_iload_n dX0_checkWord_7 rfl (fun L st S k => k) k) k) k) k
theorem k_X0_checkWord_8 {h : Nat} {L : LVs} {st : List AV} {S : ST} {Q Q' : Option AV → ST → Prop} {j : Nat} {a0 : AV} (hC : Ct MX1_operationAt h [vR 1 j, a0] S Q') (k : ∀ (r : Option AV) (S' : ST), Q' r S' → V MX0_checkWord (h + 1) 11 L (r.toList ++ st) S' Q) (hj : j < NI 1) (hw : wid st ≤ 8) : V MX0_checkWord (h + 1) 8 L (a0 :: vR 1 j :: st) S Q :=
  v_callV (M' := MX1_operationAt) (c := 1) (As := [a0]) dX0_checkWord_8 ml_X0_153 im_X1_operationAt se_X1_operationAt in_X1 cd_X1_operationAt rfl LY_1 np_X1_operationAt (by decide) hw hj hC k
theorem b_X0_checkWord_11 {h : Nat} {L : LVs} {st : List AV} {S : ST} {Q : Option AV → ST → Prop} (k : o_is L st S (fun L st S => o_il L st S (fun L st S => o_c L st S (fun L st S => t_2 L st S (fun x y => x = y) (fun L st S => V MX0_checkWord h 18 L st S Q) (fun L st S => V MX0_checkWord h 24 L st S Q)) (nI 50)) 2) 2) : V MX0_checkWord h 11 L st S Q :=
  v_istore_n dX0_checkWord_11 rfl (by decide) (fun L st S k => v_iload_n dX0_checkWord_12 rfl (fun L st S k => v_bipush dX0_checkWord_13 (by decide) (fun L st S k => w_icmp_ne dX0_checkWord_15 (by decide) rfl k) k) k) k
theorem b_X0_checkWord_18 {h : Nat} {L : LVs} {st : List AV} {S : ST} {Q : Option AV → ST → Prop} (k : o_al L st S (fun L st S => o_il L st S (fun L st S => V MX0_checkWord h 20 L st S Q) 1) 0) : V MX0_checkWord h 18 L st S Q :=
  v_aload_n dX0_checkWord_18 rfl (fun L st S k => v_iload_n dX0_checkWord_19 rfl (fun L st S k => k) k) k
theorem k_X0_checkWord_20 {h : Nat} {L : LVs} {st : List AV} {S : ST} {Q Q' : Option AV → ST → Prop} {j : Nat} {a0 : AV} (hC : Ct MX0_checkPlace h [vR 0 j, a0] S Q') (k : ∀ (r : Option AV) (S' : ST), Q' r S' → V MX0_checkWord (h + 1) 23 L (r.toList ++ st) S' Q) (hj : j < NI 0) (hw : wid st ≤ 8) : V MX0_checkWord (h + 1) 20 L (a0 :: vR 0 j :: st) S Q :=
  v_callV (M' := MX0_checkPlace) (c := 0) (As := [a0]) dX0_checkWord_20 ml_X0_172 im_X0_checkPlace se_X0_checkPlace in_X0 cd_X0_checkPlace rfl LY_0 np_X0_checkPlace (by decide) hw hj hC k
theorem b_X0_checkWord_23 {h : Nat} {L : LVs} {st : List AV} {S : ST} {Q : Option AV → ST → Prop} (k : t_ir st S Q) : V MX0_checkWord h 23 L st S Q :=
  w_ir dX0_checkWord_23 rfl k
theorem b_X0_checkWord_24 {h : Nat} {L : LVs} {st : List AV} {S : ST} {Q : Option AV → ST → Prop} (k : o_il L st S (fun L st S => o_c L st S (fun L st S => t_2 L st S (fun x y => y < x) (fun L st S => V MX0_checkWord h 54 L st S Q) (fun L st S => V MX0_checkWord h 29 L st S Q)) (nI 3)) 2) : V MX0_checkWord h 24 L st S Q :=
  v_iload_n dX0_checkWord_24 rfl (fun L st S k => v_iconst dX0_checkWord_25 (by decide) (fun L st S k => w_icmp_gt dX0_checkWord_26 (by decide) rfl k) k) k
theorem b_X0_checkWord_29 {h : Nat} {L : LVs} {st : List AV} {S : ST} {Q : Option AV → ST → Prop} (k : o_al L st S (fun L st S => o_il L st S (fun L st S => o_c L st S (fun L st S => t_2 L st S (fun x y => x = y) (fun L st S => V MX0_checkWord h 35 L st S Q) (fun L st S => V MX0_checkWord h 39 L st S Q)) (nI 1)) 2) 0) : V MX0_checkWord h 29 L st S Q :=
  v_aload_n dX0_checkWord_29 rfl (fun L st S k => v_iload_n dX0_checkWord_30 rfl (fun L st S k => v_iconst dX0_checkWord_31 (by decide) (fun L st S k => w_icmp_ne dX0_checkWord_32 (by decide) rfl k) k) k) k
theorem b_X0_checkWord_35 {h : Nat} {L : LVs} {st : List AV} {S : ST} {Q : Option AV → ST → Prop} (k : o_c L st S (fun L st S => V MX0_checkWord h 49 L st S Q) (nI 1)) : V MX0_checkWord h 35 L st S Q :=
  v_iconst dX0_checkWord_35 (by decide) (fun L st S k => v_goto dX0_checkWord_36 (by decide) k) k
theorem b_X0_checkWord_39 {h : Nat} {L : LVs} {st : List AV} {S : ST} {Q : Option AV → ST → Prop} (k : o_il L st S (fun L st S => o_c L st S (fun L st S => t_2 L st S (fun x y => x = y) (fun L st S => V MX0_checkWord h 44 L st S Q) (fun L st S => V MX0_checkWord h 48 L st S Q)) (nI 2)) 2) : V MX0_checkWord h 39 L st S Q :=
  v_iload_n dX0_checkWord_39 rfl (fun L st S k => v_iconst dX0_checkWord_40 (by decide) (fun L st S k => w_icmp_ne dX0_checkWord_41 (by decide) rfl k) k) k
theorem b_X0_checkWord_44 {h : Nat} {L : LVs} {st : List AV} {S : ST} {Q : Option AV → ST → Prop} (k : o_c L st S (fun L st S => V MX0_checkWord h 49 L st S Q) (nI 2)) : V MX0_checkWord h 44 L st S Q :=
  v_iconst dX0_checkWord_44 (by decide) (fun L st S k => v_goto dX0_checkWord_45 (by decide) k) k
theorem b_X0_checkWord_48 {h : Nat} {L : LVs} {st : List AV} {S : ST} {Q : Option AV → ST → Prop} (k : o_c L st S (fun L st S => V MX0_checkWord h 49 L st S Q) (nI 0)) : V MX0_checkWord h 48 L st S Q :=
  v_iconst dX0_checkWord_48 (by decide) (fun L st S k => k) k
theorem k_X0_checkWord_49 {h : Nat} {L : LVs} {st : List AV} {S : ST} {Q Q' : Option AV → ST → Prop} {j : Nat} {a0 : AV} (hC : Ct MX0_push h [vR 0 j, a0] S Q') (k : ∀ (r : Option AV) (S' : ST), Q' r S' → V MX0_checkWord (h + 1) 52 L (r.toList ++ st) S' Q) (hj : j < NI 0) (hw : wid st ≤ 8) : V MX0_checkWord (h + 1) 49 L (a0 :: vR 0 j :: st) S Q :=
  v_callV (M' := MX0_push) (c := 0) (As := [a0]) dX0_checkWord_49 ml_X0_175 im_X0_push se_X0_push in_X0 cd_X0_push rfl LY_0 np_X0_push (by decide) hw hj hC k
theorem b_X0_checkWord_52 {h : Nat} {L : LVs} {st : List AV} {S : ST} {Q : Option AV → ST → Prop} (k : o_c L st S (fun L st S => t_ir st S Q) (nI 0)) : V MX0_checkWord h 52 L st S Q :=
  v_iconst dX0_checkWord_52 (by decide) (fun L st S k => w_ir dX0_checkWord_53 rfl k) k
theorem b_X0_checkWord_54 {h : Nat} {L : LVs} {st : List AV} {S : ST} {Q : Option AV → ST → Prop} (k : o_il L st S (fun L st S => o_c L st S (fun L st S => t_2 L st S (fun x y => x = y) (fun L st S => V MX0_checkWord h 60 L st S Q) (fun L st S => V MX0_checkWord h 83 L st S Q)) (nI 6)) 2) : V MX0_checkWord h 54 L st S Q :=
  v_iload_n dX0_checkWord_54 rfl (fun L st S k => v_bipush dX0_checkWord_55 (by decide) (fun L st S k => w_icmp_ne dX0_checkWord_57 (by decide) rfl k) k) k
theorem b_X0_checkWord_60 {h : Nat} {L : LVs} {st : List AV} {S : ST} {Q : Option AV → ST → Prop} (k : o_al L st S (fun L st S => V MX0_checkWord h 61 L st S Q) 0) : V MX0_checkWord h 60 L st S Q :=
  v_aload_n dX0_checkWord_60 rfl (fun L st S k => k) k
theorem k_X0_checkWord_61 {h : Nat} {L : LVs} {st : List AV} {S : ST} {Q Q' : Option AV → ST → Prop} {j : Nat} (hC : Ct MX0_pop h [vR 0 j] S Q') (k : ∀ (r : Option AV) (S' : ST), Q' r S' → V MX0_checkWord (h + 1) 64 L (r.toList ++ st) S' Q) (hj : j < NI 0) (hw : wid st ≤ 8) : V MX0_checkWord (h + 1) 61 L (vR 0 j :: st) S Q :=
  v_callV (M' := MX0_pop) (c := 0) (As := []) dX0_checkWord_61 ml_X0_179 im_X0_pop se_X0_pop in_X0 cd_X0_pop rfl LY_0 np_X0_pop (by decide) hw hj hC k
theorem b_X0_checkWord_64 {h : Nat} {L : LVs} {st : List AV} {S : ST} {Q : Option AV → ST → Prop} (k : o_is L st S (fun L st S => o_al L st S (fun L st S => o_c L st S (fun L st S => V MX0_checkWord h 67 L st S Q) (nI 1)) 0) 3) : V MX0_checkWord h 64 L st S Q :=
  v_istore_n dX0_checkWord_64 rfl (by decide) (fun L st S k => v_aload_n dX0_checkWord_65 rfl (fun L st S k => v_iconst dX0_checkWord_66 (by decide) (fun L st S k => k) k) k) k
theorem k_X0_checkWord_67 {h : Nat} {L : LVs} {st : List AV} {S : ST} {Q Q' : Option AV → ST → Prop} {j : Nat} {a0 : AV} (hC : Ct MX0_push h [vR 0 j, a0] S Q') (k : ∀ (r : Option AV) (S' : ST), Q' r S' → V MX0_checkWord (h + 1) 70 L (r.toList ++ st) S' Q) (hj : j < NI 0) (hw : wid st ≤ 8) : V MX0_checkWord (h + 1) 67 L (a0 :: vR 0 j :: st) S Q :=
  v_callV (M' := MX0_push) (c := 0) (As := [a0]) dX0_checkWord_67 ml_X0_175 im_X0_push se_X0_push in_X0 cd_X0_push rfl LY_0 np_X0_push (by decide) hw hj hC k
theorem b_X0_checkWord_70 {h : Nat} {L : LVs} {st : List AV} {S : ST} {Q : Option AV → ST → Prop} (k : o_il L st S (fun L st S => o_c L st S (fun L st S => t_2 L st S (fun x y => x = y) (fun L st S => V MX0_checkWord h 75 L st S Q) (fun L st S => V MX0_checkWord h 81 L st S Q)) (nI 2)) 3) : V MX0_checkWord h 70 L st S Q :=
  v_iload_n dX0_checkWord_70 rfl (fun L st S k => v_iconst dX0_checkWord_71 (by decide) (fun L st S k => w_icmp_ne dX0_checkWord_72 (by decide) rfl k) k) k
theorem b_X0_checkWord_75 {h : Nat} {L : LVs} {st : List AV} {S : ST} {Q : Option AV → ST → Prop} (k : o_c L st S (fun L st S => V MX0_checkWord h 82 L st S Q) (-1002)) : V MX0_checkWord h 75 L st S Q :=
  v_sipush dX0_checkWord_75 (by decide) (fun L st S k => v_goto dX0_checkWord_78 (by decide) k) k
theorem b_X0_checkWord_81 {h : Nat} {L : LVs} {st : List AV} {S : ST} {Q : Option AV → ST → Prop} (k : o_c L st S (fun L st S => V MX0_checkWord h 82 L st S Q) (nI 0)) : V MX0_checkWord h 81 L st S Q :=
  v_iconst dX0_checkWord_81 (by decide) (fun L st S k => k) k
theorem b_X0_checkWord_82 {h : Nat} {L : LVs} {st : List AV} {S : ST} {Q : Option AV → ST → Prop} (k : t_ir st S Q) : V MX0_checkWord h 82 L st S Q :=
  w_ir dX0_checkWord_82 rfl k
theorem b_X0_checkWord_83 {h : Nat} {L : LVs} {st : List AV} {S : ST} {Q : Option AV → ST → Prop} (k : o_il L st S (fun L st S => o_c L st S (fun L st S => t_2 L st S (fun x y => x = y) (fun L st S => V MX0_checkWord h 95 L st S Q) (fun L st S => V MX0_checkWord h 89 L st S Q)) (nI 17)) 2) : V MX0_checkWord h 83 L st S Q :=
  v_iload_n dX0_checkWord_83 rfl (fun L st S k => v_bipush dX0_checkWord_84 (by decide) (fun L st S k => w_icmp_eq dX0_checkWord_86 (by decide) rfl k) k) k
theorem b_X0_checkWord_89 {h : Nat} {L : LVs} {st : List AV} {S : ST} {Q : Option AV → ST → Prop} (k : o_il L st S (fun L st S => o_c L st S (fun L st S => t_2 L st S (fun x y => x = y) (fun L st S => V MX0_checkWord h 95 L st S Q) (fun L st S => V MX0_checkWord h 107 L st S Q)) (nI 18)) 2) : V MX0_checkWord h 89 L st S Q :=
  v_iload_n dX0_checkWord_89 rfl (fun L st S k => v_bipush dX0_checkWord_90 (by decide) (fun L st S k => w_icmp_ne dX0_checkWord_92 (by decide) rfl k) k) k
theorem b_X0_checkWord_95 {h : Nat} {L : LVs} {st : List AV} {S : ST} {Q : Option AV → ST → Prop} (k : o_al L st S (fun L st S => V MX0_checkWord h 96 L st S Q) 0) : V MX0_checkWord h 95 L st S Q :=
  v_aload_n dX0_checkWord_95 rfl (fun L st S k => k) k
theorem k_X0_checkWord_96 {h : Nat} {L : LVs} {st : List AV} {S : ST} {Q Q' : Option AV → ST → Prop} {j : Nat} (hC : Ct MX0_pop h [vR 0 j] S Q') (k : ∀ (r : Option AV) (S' : ST), Q' r S' → V MX0_checkWord (h + 1) 99 L (r.toList ++ st) S' Q) (hj : j < NI 0) (hw : wid st ≤ 8) : V MX0_checkWord (h + 1) 96 L (vR 0 j :: st) S Q :=
  v_callV (M' := MX0_pop) (c := 0) (As := []) dX0_checkWord_96 ml_X0_179 im_X0_pop se_X0_pop in_X0 cd_X0_pop rfl LY_0 np_X0_pop (by decide) hw hj hC k
theorem b_X0_checkWord_99 {h : Nat} {L : LVs} {st : List AV} {S : ST} {Q : Option AV → ST → Prop} (k : o_pop L st S (fun L st S => o_al L st S (fun L st S => o_c L st S (fun L st S => V MX0_checkWord h 102 L st S Q) (nI 0)) 0)) : V MX0_checkWord h 99 L st S Q :=
  v_pop dX0_checkWord_99 (fun L st S k => v_aload_n dX0_checkWord_100 rfl (fun L st S k => v_iconst dX0_checkWord_101 (by decide) (fun L st S k => k) k) k) k
theorem k_X0_checkWord_102 {h : Nat} {L : LVs} {st : List AV} {S : ST} {Q Q' : Option AV → ST → Prop} {j : Nat} {a0 : AV} (hC : Ct MX0_push h [vR 0 j, a0] S Q') (k : ∀ (r : Option AV) (S' : ST), Q' r S' → V MX0_checkWord (h + 1) 105 L (r.toList ++ st) S' Q) (hj : j < NI 0) (hw : wid st ≤ 8) : V MX0_checkWord (h + 1) 102 L (a0 :: vR 0 j :: st) S Q :=
  v_callV (M' := MX0_push) (c := 0) (As := [a0]) dX0_checkWord_102 ml_X0_175 im_X0_push se_X0_push in_X0 cd_X0_push rfl LY_0 np_X0_push (by decide) hw hj hC k
theorem b_X0_checkWord_105 {h : Nat} {L : LVs} {st : List AV} {S : ST} {Q : Option AV → ST → Prop} (k : o_c L st S (fun L st S => t_ir st S Q) (nI 0)) : V MX0_checkWord h 105 L st S Q :=
  v_iconst dX0_checkWord_105 (by decide) (fun L st S k => w_ir dX0_checkWord_106 rfl k) k
theorem b_X0_checkWord_107 {h : Nat} {L : LVs} {st : List AV} {S : ST} {Q : Option AV → ST → Prop} (k : o_al L st S (fun L st S => V MX0_checkWord h 108 L st S Q) 0) : V MX0_checkWord h 107 L st S Q :=
  v_aload_n dX0_checkWord_107 rfl (fun L st S k => k) k
theorem k_X0_checkWord_108 {h : Nat} {L : LVs} {st : List AV} {S : ST} {Q Q' : Option AV → ST → Prop} {j : Nat} (hC : Ct MX0_pop h [vR 0 j] S Q') (k : ∀ (r : Option AV) (S' : ST), Q' r S' → V MX0_checkWord (h + 1) 111 L (r.toList ++ st) S' Q) (hj : j < NI 0) (hw : wid st ≤ 8) : V MX0_checkWord (h + 1) 108 L (vR 0 j :: st) S Q :=
  v_callV (M' := MX0_pop) (c := 0) (As := []) dX0_checkWord_108 ml_X0_179 im_X0_pop se_X0_pop in_X0 cd_X0_pop rfl LY_0 np_X0_pop (by decide) hw hj hC k
theorem b_X0_checkWord_111 {h : Nat} {L : LVs} {st : List AV} {S : ST} {Q : Option AV → ST → Prop} (k : o_is L st S (fun L st S => o_al L st S (fun L st S => V MX0_checkWord h 113 L st S Q) 0) 3) : V MX0_checkWord h 111 L st S Q :=
  v_istore_n dX0_checkWord_111 rfl (by decide) (fun L st S k => v_aload_n dX0_checkWord_112 rfl (fun L st S k => k) k) k
theorem k_X0_checkWord_113 {h : Nat} {L : LVs} {st : List AV} {S : ST} {Q Q' : Option AV → ST → Prop} {j : Nat} (hC : Ct MX0_pop h [vR 0 j] S Q') (k : ∀ (r : Option AV) (S' : ST), Q' r S' → V MX0_checkWord (h + 1) 116 L (r.toList ++ st) S' Q) (hj : j < NI 0) (hw : wid st ≤ 8) : V MX0_checkWord (h + 1) 113 L (vR 0 j :: st) S Q :=
  v_callV (M' := MX0_pop) (c := 0) (As := []) dX0_checkWord_113 ml_X0_179 im_X0_pop se_X0_pop in_X0 cd_X0_pop rfl LY_0 np_X0_pop (by decide) hw hj hC k
theorem b_X0_checkWord_116 {h : Nat} {L : LVs} {st : List AV} {S : ST} {Q : Option AV → ST → Prop} (k : o_is L st S (fun L st S => o_il L st S (fun L st S => o_c L st S (fun L st S => t_2 L st S (fun x y => y < x) (fun L st S => V MX0_checkWord h 148 L st S Q) (fun L st S => V MX0_checkWord h 124 L st S Q)) (nI 10)) 2) 4) : V MX0_checkWord h 116 L st S Q :=
  v_istore dX0_checkWord_116 (by decide) (fun L st S k => v_iload_n dX0_checkWord_118 rfl (fun L st S k => v_bipush dX0_checkWord_119 (by decide) (fun L st S k => w_icmp_gt dX0_checkWord_121 (by decide) rfl k) k) k) k
theorem b_X0_checkWord_124 {h : Nat} {L : LVs} {st : List AV} {S : ST} {Q : Option AV → ST → Prop} (k : o_al L st S (fun L st S => o_c L st S (fun L st S => V MX0_checkWord h 126 L st S Q) (nI 1)) 0) : V MX0_checkWord h 124 L st S Q :=
  v_aload_n dX0_checkWord_124 rfl (fun L st S k => v_iconst dX0_checkWord_125 (by decide) (fun L st S k => k) k) k
theorem k_X0_checkWord_126 {h : Nat} {L : LVs} {st : List AV} {S : ST} {Q Q' : Option AV → ST → Prop} {j : Nat} {a0 : AV} (hC : Ct MX0_push h [vR 0 j, a0] S Q') (k : ∀ (r : Option AV) (S' : ST), Q' r S' → V MX0_checkWord (h + 1) 129 L (r.toList ++ st) S' Q) (hj : j < NI 0) (hw : wid st ≤ 8) : V MX0_checkWord (h + 1) 126 L (a0 :: vR 0 j :: st) S Q :=
  v_callV (M' := MX0_push) (c := 0) (As := [a0]) dX0_checkWord_126 ml_X0_175 im_X0_push se_X0_push in_X0 cd_X0_push rfl LY_0 np_X0_push (by decide) hw hj hC k
theorem b_X0_checkWord_129 {h : Nat} {L : LVs} {st : List AV} {S : ST} {Q : Option AV → ST → Prop} (k : o_il L st S (fun L st S => o_c L st S (fun L st S => t_2 L st S (fun x y => x = y) (fun L st S => V MX0_checkWord h 140 L st S Q) (fun L st S => V MX0_checkWord h 135 L st S Q)) (nI 2)) 4) : V MX0_checkWord h 129 L st S Q :=
  v_iload dX0_checkWord_129 (fun L st S k => v_iconst dX0_checkWord_131 (by decide) (fun L st S k => w_icmp_eq dX0_checkWord_132 (by decide) rfl k) k) k
theorem b_X0_checkWord_135 {h : Nat} {L : LVs} {st : List AV} {S : ST} {Q : Option AV → ST → Prop} (k : o_il L st S (fun L st S => o_c L st S (fun L st S => t_2 L st S (fun x y => x = y) (fun L st S => V MX0_checkWord h 140 L st S Q) (fun L st S => V MX0_checkWord h 146 L st S Q)) (nI 2)) 3) : V MX0_checkWord h 135 L st S Q :=
  v_iload_n dX0_checkWord_135 rfl (fun L st S k => v_iconst dX0_checkWord_136 (by decide) (fun L st S k => w_icmp_ne dX0_checkWord_137 (by decide) rfl k) k) k
theorem b_X0_checkWord_140 {h : Nat} {L : LVs} {st : List AV} {S : ST} {Q : Option AV → ST → Prop} (k : o_c L st S (fun L st S => V MX0_checkWord h 147 L st S Q) (-1002)) : V MX0_checkWord h 140 L st S Q :=
  v_sipush dX0_checkWord_140 (by decide) (fun L st S k => v_goto dX0_checkWord_143 (by decide) k) k
theorem b_X0_checkWord_146 {h : Nat} {L : LVs} {st : List AV} {S : ST} {Q : Option AV → ST → Prop} (k : o_c L st S (fun L st S => V MX0_checkWord h 147 L st S Q) (nI 0)) : V MX0_checkWord h 146 L st S Q :=
  v_iconst dX0_checkWord_146 (by decide) (fun L st S k => k) k
theorem b_X0_checkWord_147 {h : Nat} {L : LVs} {st : List AV} {S : ST} {Q : Option AV → ST → Prop} (k : t_ir st S Q) : V MX0_checkWord h 147 L st S Q :=
  w_ir dX0_checkWord_147 rfl k
theorem b_X0_checkWord_148 {h : Nat} {L : LVs} {st : List AV} {S : ST} {Q : Option AV → ST → Prop} (k : o_al L st S (fun L st S => o_c L st S (fun L st S => V MX0_checkWord h 150 L st S Q) (nI 0)) 0) : V MX0_checkWord h 148 L st S Q :=
  v_aload_n dX0_checkWord_148 rfl (fun L st S k => v_iconst dX0_checkWord_149 (by decide) (fun L st S k => k) k) k
theorem k_X0_checkWord_150 {h : Nat} {L : LVs} {st : List AV} {S : ST} {Q Q' : Option AV → ST → Prop} {j : Nat} {a0 : AV} (hC : Ct MX0_push h [vR 0 j, a0] S Q') (k : ∀ (r : Option AV) (S' : ST), Q' r S' → V MX0_checkWord (h + 1) 153 L (r.toList ++ st) S' Q) (hj : j < NI 0) (hw : wid st ≤ 8) : V MX0_checkWord (h + 1) 150 L (a0 :: vR 0 j :: st) S Q :=
  v_callV (M' := MX0_push) (c := 0) (As := [a0]) dX0_checkWord_150 ml_X0_175 im_X0_push se_X0_push in_X0 cd_X0_push rfl LY_0 np_X0_push (by decide) hw hj hC k
theorem b_X0_checkWord_153 {h : Nat} {L : LVs} {st : List AV} {S : ST} {Q : Option AV → ST → Prop} (k : o_il L st S (fun L st S => o_il L st S (fun L st S => V MX0_checkWord h 156 L st S Q) 3) 4) : V MX0_checkWord h 153 L st S Q :=
  v_iload dX0_checkWord_153 (fun L st S k => v_iload_n dX0_checkWord_155 rfl (fun L st S k => k) k) k
theorem k_X0_checkWord_156 {h : Nat} {L : LVs} {st : List AV} {S : ST} {Q Q' : Option AV → ST → Prop} {a0 a1 : AV} (hC : Ct MX0_clash h [a0, a1] S Q') (k : ∀ (r : Option AV) (S' : ST), Q' r S' → V MX0_checkWord (h + 1) 159 L (r.toList ++ st) S' Q) (hw : wid st ≤ 8) : V MX0_checkWord (h + 1) 156 L (a1 :: a0 :: st) S Q :=
  v_callS (M' := MX0_clash) (As := [a0, a1]) dX0_checkWord_156 ml_X0_111 sm_X0_clash in_X0 cd_X0_clash ⟨rfl, np_X0_clash⟩ (by decide) hw hC k
theorem b_X0_checkWord_159 {h : Nat} {L : LVs} {st : List AV} {S : ST} {Q : Option AV → ST → Prop} (k : t_1 L st S (fun x => x = nI 0) (fun L st S => V MX0_checkWord h 168 L st S Q) (fun L st S => V MX0_checkWord h 162 L st S Q)) : V MX0_checkWord h 159 L st S Q :=
  w_if_eq dX0_checkWord_159 (by decide) rfl k
theorem b_X0_checkWord_162 {h : Nat} {L : LVs} {st : List AV} {S : ST} {Q : Option AV → ST → Prop} (k : o_c L st S (fun L st S => V MX0_checkWord h 169 L st S Q) (-1002)) : V MX0_checkWord h 162 L st S Q :=
  v_sipush dX0_checkWord_162 (by decide) (fun L st S k => v_goto dX0_checkWord_165 (by decide) k) k
theorem b_X0_checkWord_168 {h : Nat} {L : LVs} {st : List AV} {S : ST} {Q : Option AV → ST → Prop} (k : o_c L st S (fun L st S => V MX0_checkWord h 169 L st S Q) (nI 0)) : V MX0_checkWord h 168 L st S Q :=
  v_iconst dX0_checkWord_168 (by decide) (fun L st S k => k) k
theorem b_X0_checkWord_169 {h : Nat} {L : LVs} {st : List AV} {S : ST} {Q : Option AV → ST → Prop} (k : t_ir st S Q) : V MX0_checkWord h 169 L st S Q :=
  w_ir dX0_checkWord_169 rfl k
-- QueryForge$Checker.checkPlace(I)I
theorem dX0_checkPlace_0 : decode cX0_checkPlace 0 = .ok (.aload_n 0, 1) := by decide +kernel
theorem dX0_checkPlace_1 : decode cX0_checkPlace 1 = .ok (.aload_n 0, 1) := by decide +kernel
theorem dX0_checkPlace_2 : decode cX0_checkPlace 2 = .ok (.getfield 15, 3) := by decide +kernel
theorem dX0_checkPlace_5 : decode cX0_checkPlace 5 = .ok (.getfield 72, 3) := by decide +kernel
theorem dX0_checkPlace_8 : decode cX0_checkPlace 8 = .ok (.iload_n 1, 1) := by decide +kernel
theorem dX0_checkPlace_9 : decode cX0_checkPlace 9 = .ok (.invokevirtual 159, 3) := by decide +kernel
theorem dX0_checkPlace_12 : decode cX0_checkPlace 12 = .ok (.invokevirtual 140, 3) := by decide +kernel
theorem dX0_checkPlace_15 : decode cX0_checkPlace 15 = .ok (.istore_n 2, 1) := by decide +kernel
theorem dX0_checkPlace_16 : decode cX0_checkPlace 16 = .ok (.iload_n 2, 1) := by decide +kernel
theorem dX0_checkPlace_17 : decode cX0_checkPlace 17 = .ok (.iconst (-1), 1) := by decide +kernel
theorem dX0_checkPlace_18 : decode cX0_checkPlace 18 = .ok (.if_icmp .ne 7, 3) := by decide +kernel
theorem dX0_checkPlace_21 : decode cX0_checkPlace 21 = .ok (.sipush (-1001), 3) := by decide +kernel
theorem dX0_checkPlace_24 : decode cX0_checkPlace 24 = .ok (.ireturn, 1) := by decide +kernel
theorem dX0_checkPlace_25 : decode cX0_checkPlace 25 = .ok (.iload_n 2, 1) := by decide +kernel
theorem dX0_checkPlace_26 : decode cX0_checkPlace 26 = .ok (.iconst 4, 1) := by decide +kernel
theorem dX0_checkPlace_27 : decode cX0_checkPlace 27 = .ok (.irem, 1) := by decide +kernel
theorem dX0_checkPlace_28 : decode cX0_checkPlace 28 = .ok (.istore_n 3, 1) := by decide +kernel
theorem dX0_checkPlace_29 : decode cX0_checkPlace 29 = .ok (.aload_n 0, 1) := by decide +kernel
theorem dX0_checkPlace_30 : decode cX0_checkPlace 30 = .ok (.getfield 15, 3) := by decide +kernel
theorem dX0_checkPlace_33 : decode cX0_checkPlace 33 = .ok (.getfield 57, 3) := by decide +kernel
theorem dX0_checkPlace_36 : decode cX0_checkPlace 36 = .ok (.iload_n 2, 1) := by decide +kernel
theorem dX0_checkPlace_37 : decode cX0_checkPlace 37 = .ok (.iconst 4, 1) := by decide +kernel
theorem dX0_checkPlace_38 : decode cX0_checkPlace 38 = .ok (.idiv, 1) := by decide +kernel
theorem dX0_checkPlace_39 : decode cX0_checkPlace 39 = .ok (.iaload, 1) := by decide +kernel
theorem dX0_checkPlace_40 : decode cX0_checkPlace 40 = .ok (.istore 4, 2) := by decide +kernel
theorem dX0_checkPlace_42 : decode cX0_checkPlace 42 = .ok (.aload_n 0, 1) := by decide +kernel
theorem dX0_checkPlace_43 : decode cX0_checkPlace 43 = .ok (.getfield 15, 3) := by decide +kernel
theorem dX0_checkPlace_46 : decode cX0_checkPlace 46 = .ok (.getfield 72, 3) := by decide +kernel
theorem dX0_checkPlace_49 : decode cX0_checkPlace 49 = .ok (.iload_n 1, 1) := by decide +kernel
theorem dX0_checkPlace_50 : decode cX0_checkPlace 50 = .ok (.iload_n 2, 1) := by decide +kernel
theorem dX0_checkPlace_51 : decode cX0_checkPlace 51 = .ok (.invokestatic 156, 3) := by decide +kernel
theorem dX0_checkPlace_54 : decode cX0_checkPlace 54 = .ok (.iload_n 3, 1) := by decide +kernel
theorem dX0_checkPlace_55 : decode cX0_checkPlace 55 = .ok (.invokevirtual 182, 3) := by decide +kernel
theorem dX0_checkPlace_58 : decode cX0_checkPlace 58 = .ok (.aload_n 0, 1) := by decide +kernel
theorem dX0_checkPlace_59 : decode cX0_checkPlace 59 = .ok (.aload_n 0, 1) := by decide +kernel
theorem dX0_checkPlace_60 : decode cX0_checkPlace 60 = .ok (.getfield 19, 3) := by decide +kernel
theorem dX0_checkPlace_63 : decode cX0_checkPlace 63 = .ok (.iload 4, 2) := by decide +kernel
theorem dX0_checkPlace_65 : decode cX0_checkPlace 65 = .ok (.invokevirtual 98, 3) := by decide +kernel
theorem dX0_checkPlace_68 : decode cX0_checkPlace 68 = .ok (.iload_n 3, 1) := by decide +kernel
theorem dX0_checkPlace_69 : decode cX0_checkPlace 69 = .ok (.invokevirtual 108, 3) := by decide +kernel
theorem dX0_checkPlace_72 : decode cX0_checkPlace 72 = .ok (.invokevirtual 175, 3) := by decide +kernel
theorem dX0_checkPlace_75 : decode cX0_checkPlace 75 = .ok (.iconst 0, 1) := by decide +kernel
theorem dX0_checkPlace_76 : decode cX0_checkPlace 76 = .ok (.ireturn, 1) := by decide +kernel
theorem b_X0_checkPlace_0 {h : Nat} {L : LVs} {st : List AV} {S : ST} {Q : Option AV → ST → Prop} (k : o_al L st S (fun L st S => o_al L st S (fun L st S => o_get L st S (fun L st S => o_get L st S (fun L st S => o_il L st S (fun L st S => V MX0_checkPlace h 9 L st S Q) 1) 6 0 (4, 1, 0)) 0 1 (4, 6, 0)) 0) 0) : V MX0_checkPlace h 0 L st S Q :=
  v_aload_n dX0_checkPlace_0 rfl (fun L st S k => v_aload_n dX0_checkPlace_1 rfl (fun L st S k => v_get dX0_checkPlace_2 rfl iX0 LY_0 rfl (by decide) rfl fl_X0_15 (fun L st S k => v_get dX0_checkPlace_5 rfl iX6 LY_6 rfl (by decide) rfl fl_X0_72 (fun L st S k => v_iload_n dX0_checkPlace_8 rfl (fun L st S k => k) k) k) k) k) k
theorem k_X0_checkPlace_9 {h : Nat} {L : LVs} {st : List AV} {S : ST} {Q Q' : Option AV → ST → Prop} {j : Nat} {a0 : AV} (hC : Ct MX1_argumentAt h [vR 1 j, a0] S Q') (k : ∀ (r : Option AV) (S' : ST), Q' r S' → V MX0_checkPlace (h + 1) 12 L (r.toList ++ st) S' Q) (hj : j < NI 1) (hw : wid st ≤ 8) : V MX0_checkPlace (h + 1) 9 L (a0 :: vR 1 j :: st) S Q :=
  v_callV (M' := MX1_argumentAt) (c := 1) (As := [a0]) dX0_checkPlace_9 ml_X0_159 im_X1_argumentAt se_X1_argumentAt in_X1 cd_X1_argumentAt rfl LY_1 np_X1_argumentAt (by decide) hw hj hC k
theorem k_X0_checkPlace_12 {h : Nat} {L : LVs} {st : List AV} {S : ST} {Q Q' : Option AV → ST → Prop} {j : Nat} {a0 : AV} (hC : Ct MX0_findPlace h [vR 0 j, a0] S Q') (k : ∀ (r : Option AV) (S' : ST), Q' r S' → V MX0_checkPlace (h + 1) 15 L (r.toList ++ st) S' Q) (hj : j < NI 0) (hw : wid st ≤ 8) : V MX0_checkPlace (h + 1) 12 L (a0 :: vR 0 j :: st) S Q :=
  v_callV (M' := MX0_findPlace) (c := 0) (As := [a0]) dX0_checkPlace_12 ml_X0_140 im_X0_findPlace se_X0_findPlace in_X0 cd_X0_findPlace rfl LY_0 np_X0_findPlace (by decide) hw hj hC k
theorem b_X0_checkPlace_15 {h : Nat} {L : LVs} {st : List AV} {S : ST} {Q : Option AV → ST → Prop} (k : o_is L st S (fun L st S => o_il L st S (fun L st S => o_c L st S (fun L st S => t_2 L st S (fun x y => x = y) (fun L st S => V MX0_checkPlace h 21 L st S Q) (fun L st S => V MX0_checkPlace h 25 L st S Q)) (-1)) 2) 2) : V MX0_checkPlace h 15 L st S Q :=
  v_istore_n dX0_checkPlace_15 rfl (by decide) (fun L st S k => v_iload_n dX0_checkPlace_16 rfl (fun L st S k => v_iconst dX0_checkPlace_17 (by decide) (fun L st S k => w_icmp_ne dX0_checkPlace_18 (by decide) rfl k) k) k) k
theorem b_X0_checkPlace_21 {h : Nat} {L : LVs} {st : List AV} {S : ST} {Q : Option AV → ST → Prop} (k : o_c L st S (fun L st S => t_ir st S Q) (-1001)) : V MX0_checkPlace h 21 L st S Q :=
  v_sipush dX0_checkPlace_21 (by decide) (fun L st S k => w_ir dX0_checkPlace_24 rfl k) k
theorem b_X0_checkPlace_25 {h : Nat} {L : LVs} {st : List AV} {S : ST} {Q : Option AV → ST → Prop} (k : o_il L st S (fun L st S => o_c L st S (fun L st S => o_irem L st S (fun L st S => o_is L st S (fun L st S => o_al L st S (fun L st S => o_get L st S (fun L st S => o_get L st S (fun L st S => o_il L st S (fun L st S => o_c L st S (fun L st S => o_idiv L st S (fun L st S => o_iald L st S (fun L st S => o_is L st S (fun L st S => o_al L st S (fun L st S => o_get L st S (fun L st S => o_get L st S (fun L st S => o_il L st S (fun L st S => o_il L st S (fun L st S => V MX0_checkPlace h 51 L st S Q) 2) 1) 6 0 (4, 1, 0)) 0 1 (4, 6, 0)) 0) 4))) (nI 4)) 2) 6 2 (3, 23, 0)) 0 1 (4, 6, 0)) 0) 3)) (nI 4)) 2) : V MX0_checkPlace h 25 L st S Q :=
  v_iload_n dX0_checkPlace_25 rfl (fun L st S k => v_iconst dX0_checkPlace_26 (by decide) (fun L st S k => v_irem dX0_checkPlace_27 (fun L st S k => v_istore_n dX0_checkPlace_28 rfl (by decide) (fun L st S k => v_aload_n dX0_checkPlace_29 rfl (fun L st S k => v_get dX0_checkPlace_30 rfl iX0 LY_0 rfl (by decide) rfl fl_X0_15 (fun L st S k => v_get dX0_checkPlace_33 rfl iX6 LY_6 rfl (by decide) rfl fl_X0_57 (fun L st S k => v_iload_n dX0_checkPlace_36 rfl (fun L st S k => v_iconst dX0_checkPlace_37 (by decide) (fun L st S k => v_idiv dX0_checkPlace_38 (fun L st S k => v_iaload dX0_checkPlace_39 (fun L st S k => v_istore dX0_checkPlace_40 (by decide) (fun L st S k => v_aload_n dX0_checkPlace_42 rfl (fun L st S k => v_get dX0_checkPlace_43 rfl iX0 LY_0 rfl (by decide) rfl fl_X0_15 (fun L st S k => v_get dX0_checkPlace_46 rfl iX6 LY_6 rfl (by decide) rfl fl_X0_72 (fun L st S k => v_iload_n dX0_checkPlace_49 rfl (fun L st S k => v_iload_n dX0_checkPlace_50 rfl (fun L st S k => k) k) k) k) k) k) k) k) k) k) k) k) k) k) k) k) k) k
theorem k_X0_checkPlace_51 {h : Nat} {L : LVs} {st : List AV} {S : ST} {Q Q' : Option AV → ST → Prop} {a0 : AV} (hC : Ct MX0_loadOf h [a0] S Q') (k : ∀ (r : Option AV) (S' : ST), Q' r S' → V MX0_checkPlace (h + 1) 54 L (r.toList ++ st) S' Q) (hw : wid st ≤ 8) : V MX0_checkPlace (h + 1) 51 L (a0 :: st) S Q :=
  v_callS (M' := MX0_loadOf) (As := [a0]) dX0_checkPlace_51 ml_X0_156 sm_X0_loadOf in_X0 cd_X0_loadOf ⟨rfl, np_X0_loadOf⟩ (by decide) hw hC k
theorem b_X0_checkPlace_54 {h : Nat} {L : LVs} {st : List AV} {S : ST} {Q : Option AV → ST → Prop} (k : o_il L st S (fun L st S => V MX0_checkPlace h 55 L st S Q) 3) : V MX0_checkPlace h 54 L st S Q :=
  v_iload_n dX0_checkPlace_54 rfl (fun L st S k => k) k
theorem k_X0_checkPlace_55 {h : Nat} {L : LVs} {st : List AV} {S : ST} {Q Q' : Option AV → ST → Prop} {j : Nat} {a0 a1 a2 : AV} (hC : Ct MX1_change h [vR 1 j, a0, a1, a2] S Q') (k : ∀ (r : Option AV) (S' : ST), Q' r S' → V MX0_checkPlace (h + 1) 58 L (r.toList ++ st) S' Q) (hj : j < NI 1) (hw : wid st ≤ 8) : V MX0_checkPlace (h + 1) 55 L (a2 :: a1 :: a0 :: vR 1 j :: st) S Q :=
  v_callV (M' := MX1_change) (c := 1) (As := [a0, a1, a2]) dX0_checkPlace_55 ml_X0_182 im_X1_change se_X1_change in_X1 cd_X1_change rfl LY_1 np_X1_change (by decide) hw hj hC k
theorem b_X0_checkPlace_58 {h : Nat} {L : LVs} {st : List AV} {S : ST} {Q : Option AV → ST → Prop} (k : o_al L st S (fun L st S => o_al L st S (fun L st S => o_get L st S (fun L st S => o_il L st S (fun L st S => V MX0_checkPlace h 65 L st S Q) 4) 0 2 (4, 8, 0)) 0) 0) : V MX0_checkPlace h 58 L st S Q :=
  v_aload_n dX0_checkPlace_58 rfl (fun L st S k => v_aload_n dX0_checkPlace_59 rfl (fun L st S k => v_get dX0_checkPlace_60 rfl iX0 LY_0 rfl (by decide) rfl fl_X0_19 (fun L st S k => v_iload dX0_checkPlace_63 (fun L st S k => k) k) k) k) k
theorem k_X0_checkPlace_65 {h : Nat} {L : LVs} {st : List AV} {S : ST} {Q Q' : Option AV → ST → Prop} {j : Nat} {a0 : AV} (hC : Ct MX8_tableAt h [vR 8 j, a0] S Q') (k : ∀ (r : Option AV) (S' : ST), Q' r S' → V MX0_checkPlace (h + 1) 68 L (r.toList ++ st) S' Q) (hj : j < NI 8) (hw : wid st ≤ 8) : V MX0_checkPlace (h + 1) 65 L (a0 :: vR 8 j :: st) S Q :=
  v_callV (M' := MX8_tableAt) (c := 8) (As := [a0]) dX0_checkPlace_65 ml_X0_98 im_X8_tableAt se_X8_tableAt in_X8 cd_X8_tableAt rfl LY_8 np_X8_tableAt (by decide) hw hj hC k
theorem b_X0_checkPlace_68 {h : Nat} {L : LVs} {st : List AV} {S : ST} {Q : Option AV → ST → Prop} (k : o_il L st S (fun L st S => V MX0_checkPlace h 69 L st S Q) 3) : V MX0_checkPlace h 68 L st S Q :=
  v_iload_n dX0_checkPlace_68 rfl (fun L st S k => k) k
theorem k_X0_checkPlace_69 {h : Nat} {L : LVs} {st : List AV} {S : ST} {Q Q' : Option AV → ST → Prop} {j : Nat} {a0 : AV} (hC : Ct MX7_typeOf h [vR 7 j, a0] S Q') (k : ∀ (r : Option AV) (S' : ST), Q' r S' → V MX0_checkPlace (h + 1) 72 L (r.toList ++ st) S' Q) (hj : j < NI 7) (hw : wid st ≤ 8) : V MX0_checkPlace (h + 1) 69 L (a0 :: vR 7 j :: st) S Q :=
  v_callV (M' := MX7_typeOf) (c := 7) (As := [a0]) dX0_checkPlace_69 ml_X0_108 im_X7_typeOf se_X7_typeOf in_X7 cd_X7_typeOf rfl LY_7 np_X7_typeOf (by decide) hw hj hC k
theorem k_X0_checkPlace_72 {h : Nat} {L : LVs} {st : List AV} {S : ST} {Q Q' : Option AV → ST → Prop} {j : Nat} {a0 : AV} (hC : Ct MX0_push h [vR 0 j, a0] S Q') (k : ∀ (r : Option AV) (S' : ST), Q' r S' → V MX0_checkPlace (h + 1) 75 L (r.toList ++ st) S' Q) (hj : j < NI 0) (hw : wid st ≤ 8) : V MX0_checkPlace (h + 1) 72 L (a0 :: vR 0 j :: st) S Q :=
  v_callV (M' := MX0_push) (c := 0) (As := [a0]) dX0_checkPlace_72 ml_X0_175 im_X0_push se_X0_push in_X0 cd_X0_push rfl LY_0 np_X0_push (by decide) hw hj hC k
theorem b_X0_checkPlace_75 {h : Nat} {L : LVs} {st : List AV} {S : ST} {Q : Option AV → ST → Prop} (k : o_c L st S (fun L st S => t_ir st S Q) (nI 0)) : V MX0_checkPlace h 75 L st S Q :=
  v_iconst dX0_checkPlace_75 (by decide) (fun L st S k => w_ir dX0_checkPlace_76 rfl k) k
-- QueryForge$Checker.findPlace(I)I
theorem dX0_findPlace_0 : decode cX0_findPlace 0 = .ok (.aload_n 0, 1) := by decide +kernel
theorem dX0_findPlace_1 : decode cX0_findPlace 1 = .ok (.getfield 9, 3) := by decide +kernel
theorem dX0_findPlace_4 : decode cX0_findPlace 4 = .ok (.iload_n 1, 1) := by decide +kernel
theorem dX0_findPlace_5 : decode cX0_findPlace 5 = .ok (.iconst 1, 1) := by decide +kernel
theorem dX0_findPlace_6 : decode cX0_findPlace 6 = .ok (.iadd, 1) := by decide +kernel
theorem dX0_findPlace_7 : decode cX0_findPlace 7 = .ok (.invokevirtual 186, 3) := by decide +kernel
theorem dX0_findPlace_10 : decode cX0_findPlace 10 = .ok (.bipush 46, 2) := by decide +kernel
theorem dX0_findPlace_12 : decode cX0_findPlace 12 = .ok (.if_icmp .ne 7, 3) := by decide +kernel
theorem dX0_findPlace_15 : decode cX0_findPlace 15 = .ok (.iconst 1, 1) := by decide +kernel
theorem dX0_findPlace_16 : decode cX0_findPlace 16 = .ok (.goto 4, 3) := by decide +kernel
theorem dX0_findPlace_19 : decode cX0_findPlace 19 = .ok (.iconst 0, 1) := by decide +kernel
theorem dX0_findPlace_20 : decode cX0_findPlace 20 = .ok (.istore_n 2, 1) := by decide +kernel
theorem dX0_findPlace_21 : decode cX0_findPlace 21 = .ok (.aload_n 0, 1) := by decide +kernel
theorem dX0_findPlace_22 : decode cX0_findPlace 22 = .ok (.getfield 9, 3) := by decide +kernel
theorem dX0_findPlace_25 : decode cX0_findPlace 25 = .ok (.iload_n 2, 1) := by decide +kernel
theorem dX0_findPlace_26 : decode cX0_findPlace 26 = .ok (.ifCond .eq 9, 3) := by decide +kernel
theorem dX0_findPlace_29 : decode cX0_findPlace 29 = .ok (.iload_n 1, 1) := by decide +kernel
theorem dX0_findPlace_30 : decode cX0_findPlace 30 = .ok (.iconst 2, 1) := by decide +kernel
theorem dX0_findPlace_31 : decode cX0_findPlace 31 = .ok (.iadd, 1) := by decide +kernel
theorem dX0_findPlace_32 : decode cX0_findPlace 32 = .ok (.goto 4, 3) := by decide +kernel
theorem dX0_findPlace_35 : decode cX0_findPlace 35 = .ok (.iload_n 1, 1) := by decide +kernel
theorem dX0_findPlace_36 : decode cX0_findPlace 36 = .ok (.invokevirtual 189, 3) := by decide +kernel
theorem dX0_findPlace_39 : decode cX0_findPlace 39 = .ok (.istore_n 3, 1) := by decide +kernel
theorem dX0_findPlace_40 : decode cX0_findPlace 40 = .ok (.iconst (-1), 1) := by decide +kernel
theorem dX0_findPlace_41 : decode cX0_findPlace 41 = .ok (.istore 4, 2) := by decide +kernel
theorem dX0_findPlace_43 : decode cX0_findPlace 43 = .ok (.iconst 0, 1) := by decide +kernel
theorem dX0_findPlace_44 : decode cX0_findPlace 44 = .ok (.istore 5, 2) := by decide +kernel
theorem dX0_findPlace_46 : decode cX0_findPlace 46 = .ok (.iload 5, 2) := by decide +kernel
theorem dX0_findPlace_48 : decode cX0_findPlace 48 = .ok (.aload_n 0, 1) := by decide +kernel
theorem dX0_findPlace_49 : decode cX0_findPlace 49 = .ok (.getfield 15, 3) := by decide +kernel
theorem dX0_findPlace_52 : decode cX0_findPlace 52 = .ok (.getfield 45, 3) := by decide +kernel
theorem dX0_findPlace_55 : decode cX0_findPlace 55 = .ok (.if_icmp .ge 106, 3) := by decide +kernel
theorem dX0_findPlace_58 : decode cX0_findPlace 58 = .ok (.iload_n 2, 1) := by decide +kernel
theorem dX0_findPlace_59 : decode cX0_findPlace 59 = .ok (.ifCond .eq 24, 3) := by decide +kernel
theorem dX0_findPlace_62 : decode cX0_findPlace 62 = .ok (.aload_n 0, 1) := by decide +kernel
theorem dX0_findPlace_63 : decode cX0_findPlace 63 = .ok (.getfield 15, 3) := by decide +kernel
theorem dX0_findPlace_66 : decode cX0_findPlace 66 = .ok (.getfield 48, 3) := by decide +kernel
theorem dX0_findPlace_69 : decode cX0_findPlace 69 = .ok (.iload 5, 2) := by decide +kernel
theorem dX0_findPlace_71 : decode cX0_findPlace 71 = .ok (.iaload, 1) := by decide +kernel
theorem dX0_findPlace_72 : decode cX0_findPlace 72 = .ok (.aload_n 0, 1) := by decide +kernel
theorem dX0_findPlace_73 : decode cX0_findPlace 73 = .ok (.getfield 9, 3) := by decide +kernel
theorem dX0_findPlace_76 : decode cX0_findPlace 76 = .ok (.iload_n 1, 1) := by decide +kernel
theorem dX0_findPlace_77 : decode cX0_findPlace 77 = .ok (.invokevirtual 189, 3) := by decide +kernel
theorem dX0_findPlace_80 : decode cX0_findPlace 80 = .ok (.if_icmp .ne 7, 3) := by decide +kernel
theorem dX0_findPlace_83 : decode cX0_findPlace 83 = .ok (.iconst 1, 1) := by decide +kernel
theorem dX0_findPlace_84 : decode cX0_findPlace 84 = .ok (.goto 4, 3) := by decide +kernel
theorem dX0_findPlace_87 : decode cX0_findPlace 87 = .ok (.iconst 0, 1) := by decide +kernel
theorem dX0_findPlace_88 : decode cX0_findPlace 88 = .ok (.istore 6, 2) := by decide +kernel
theorem dX0_findPlace_90 : decode cX0_findPlace 90 = .ok (.aload_n 0, 1) := by decide +kernel
theorem dX0_findPlace_91 : decode cX0_findPlace 91 = .ok (.getfield 19, 3) := by decide +kernel
theorem dX0_findPlace_94 : decode cX0_findPlace 94 = .ok (.aload_n 0, 1) := by decide +kernel
theorem dX0_findPlace_95 : decode cX0_findPlace 95 = .ok (.getfield 15, 3) := by decide +kernel
theorem dX0_findPlace_98 : decode cX0_findPlace 98 = .ok (.getfield 57, 3) := by decide +kernel
theorem dX0_findPlace_101 : decode cX0_findPlace 101 = .ok (.iload 5, 2) := by decide +kernel
theorem dX0_findPlace_103 : decode cX0_findPlace 103 = .ok (.iaload, 1) := by decide +kernel
theorem dX0_findPlace_104 : decode cX0_findPlace 104 = .ok (.invokevirtual 98, 3) := by decide +kernel
theorem dX0_findPlace_107 : decode cX0_findPlace 107 = .ok (.astore 7, 2) := by decide +kernel
theorem dX0_findPlace_109 : decode cX0_findPlace 109 = .ok (.iload 6, 2) := by decide +kernel
theorem dX0_findPlace_111 : decode cX0_findPlace 111 = .ok (.ifCond .eq 12, 3) := by decide +kernel
theorem dX0_findPlace_114 : decode cX0_findPlace 114 = .ok (.aload 7, 2) := by decide +kernel
theorem dX0_findPlace_116 : decode cX0_findPlace 116 = .ok (.iload_n 3, 1) := by decide +kernel
theorem dX0_findPlace_117 : decode cX0_findPlace 117 = .ok (.invokevirtual 119, 3) := by decide +kernel
theorem dX0_findPlace_120 : decode cX0_findPlace 120 = .ok (.goto 4, 3) := by decide +kernel
theorem dX0_findPlace_123 : decode cX0_findPlace 123 = .ok (.iconst (-1), 1) := by decide +kernel
theorem dX0_findPlace_124 : decode cX0_findPlace 124 = .ok (.istore 8, 2) := by decide +kernel
theorem dX0_findPlace_126 : decode cX0_findPlace 126 = .ok (.iload 8, 2) := by decide +kernel
theorem dX0_findPlace_128 : decode cX0_findPlace 128 = .ok (.iconst (-1), 1) := by decide +kernel
theorem dX0_findPlace_129 : decode cX0_findPlace 129 = .ok (.if_icmp .eq 11, 3) := by decide +kernel
theorem dX0_findPlace_132 : decode cX0_findPlace 132 = .ok (.iload 4, 2) := by decide +kernel
theorem dX0_findPlace_134 : decode cX0_findPlace 134 = .ok (.iconst (-1), 1) := by decide +kernel
theorem dX0_findPlace_135 : decode cX0_findPlace 135 = .ok (.if_icmp .eq 5, 3) := by decide +kernel
theorem dX0_findPlace_138 : decode cX0_findPlace 138 = .ok (.iconst (-1), 1) := by decide +kernel
theorem dX0_findPlace_139 : decode cX0_findPlace 139 = .ok (.ireturn, 1) := by decide +kernel
theorem dX0_findPlace_140 : decode cX0_findPlace 140 = .ok (.iload 8, 2) := by decide +kernel
theorem dX0_findPlace_142 : decode cX0_findPlace 142 = .ok (.iconst (-1), 1) := by decide +kernel
theorem dX0_findPlace_143 : decode cX0_findPlace 143 = .ok (.if_icmp .eq 12, 3) := by decide +kernel
theorem dX0_findPlace_146 : decode cX0_findPlace 146 = .ok (.iload 5, 2) := by decide +kernel
theorem dX0_findPlace_148 : decode cX0_findPlace 148 = .ok (.iconst 4, 1) := by decide +kernel
theorem dX0_findPlace_149 : decode cX0_findPlace 149 = .ok (.imul, 1) := by decide +kernel
theorem dX0_findPlace_150 : decode cX0_findPlace 150 = .ok (.iload 8, 2) := by decide +kernel
theorem dX0_findPlace_152 : decode cX0_findPlace 152 = .ok (.iadd, 1) := by decide +kernel
theorem dX0_findPlace_153 : decode cX0_findPlace 153 = .ok (.istore 4, 2) := by decide +kernel
theorem dX0_findPlace_155 : decode cX0_findPlace 155 = .ok (.iinc 5 1, 3) := by decide +kernel
theorem dX0_findPlace_158 : decode cX0_findPlace 158 = .ok (.goto (-112), 3) := by decide +kernel
theorem dX0_findPlace_161 : decode cX0_findPlace 161 = .ok (.iload 4, 2) := by decide +kernel
theorem dX0_findPlace_163 : decode cX0_findPlace 163 = .ok (.ireturn, 1) := by decide +kernel
theorem b_X0_findPlace_0 {h : Nat} {L : LVs} {st : List AV} {S : ST} {Q : Option AV → ST → Prop} (k : o_al L st S (fun L st S => o_get L st S (fun L st S => o_il L st S (fun L st S => o_c L st S (fun L st S => o_iadd L st S (fun L st S => V MX0_findPlace h 7 L st S Q)) (nI 1)) 1) 0 0 (4, 9, 0)) 0) : V MX0_findPlace h 0 L st S Q :=
  v_aload_n dX0_findPlace_0 rfl (fun L st S k => v_get dX0_findPlace_1 rfl iX0 LY_0 rfl (by decide) rfl fl_X0_9 (fun L st S k => v_iload_n dX0_findPlace_4 rfl (fun L st S k => v_iconst dX0_findPlace_5 (by decide) (fun L st S k => v_iadd dX0_findPlace_6 (fun L st S k => k) k) k) k) k) k
theorem k_X0_findPlace_7 {h : Nat} {L : LVs} {st : List AV} {S : ST} {Q Q' : Option AV → ST → Prop} {j : Nat} {a0 : AV} (hC : Ct MX9_kindAt h [vR 9 j, a0] S Q') (k : ∀ (r : Option AV) (S' : ST), Q' r S' → V MX0_findPlace (h + 1) 10 L (r.toList ++ st) S' Q) (hj : j < NI 9) (hw : wid st ≤ 8) : V MX0_findPlace (h + 1) 7 L (a0 :: vR 9 j :: st) S Q :=
  v_callV (M' := MX9_kindAt) (c := 9) (As := [a0]) dX0_findPlace_7 ml_X0_186 im_X9_kindAt se_X9_kindAt in_X9 cd_X9_kindAt rfl LY_9 np_X9_kindAt (by decide) hw hj hC k
theorem b_X0_findPlace_10 {h : Nat} {L : LVs} {st : List AV} {S : ST} {Q : Option AV → ST → Prop} (k : o_c L st S (fun L st S => t_2 L st S (fun x y => x = y) (fun L st S => V MX0_findPlace h 15 L st S Q) (fun L st S => V MX0_findPlace h 19 L st S Q)) (nI 46)) : V MX0_findPlace h 10 L st S Q :=
  v_bipush dX0_findPlace_10 (by decide) (fun L st S k => w_icmp_ne dX0_findPlace_12 (by decide) rfl k) k
theorem b_X0_findPlace_15 {h : Nat} {L : LVs} {st : List AV} {S : ST} {Q : Option AV → ST → Prop} (k : o_c L st S (fun L st S => V MX0_findPlace h 20 L st S Q) (nI 1)) : V MX0_findPlace h 15 L st S Q :=
  v_iconst dX0_findPlace_15 (by decide) (fun L st S k => v_goto dX0_findPlace_16 (by decide) k) k
theorem b_X0_findPlace_19 {h : Nat} {L : LVs} {st : List AV} {S : ST} {Q : Option AV → ST → Prop} (k : o_c L st S (fun L st S => V MX0_findPlace h 20 L st S Q) (nI 0)) : V MX0_findPlace h 19 L st S Q :=
  v_iconst dX0_findPlace_19 (by decide) (fun L st S k => k) k
theorem b_X0_findPlace_20 {h : Nat} {L : LVs} {st : List AV} {S : ST} {Q : Option AV → ST → Prop} (k : o_is L st S (fun L st S => o_al L st S (fun L st S => o_get L st S (fun L st S => o_il L st S (fun L st S => t_1 L st S (fun x => x = nI 0) (fun L st S => V MX0_findPlace h 35 L st S Q) (fun L st S => V MX0_findPlace h 29 L st S Q)) 2) 0 0 (4, 9, 0)) 0) 2) : V MX0_findPlace h 20 L st S Q :=
  v_istore_n dX0_findPlace_20 rfl (by decide) (fun L st S k => v_aload_n dX0_findPlace_21 rfl (fun L st S k => v_get dX0_findPlace_22 rfl iX0 LY_0 rfl (by decide) rfl fl_X0_9 (fun L st S k => v_iload_n dX0_findPlace_25 rfl (fun L st S k => w_if_eq dX0_findPlace_26 (by decide) rfl k) k) k) k) k
theorem b_X0_findPlace_29 {h : Nat} {L : LVs} {st : List AV} {S : ST} {Q : Option AV → ST → Prop} (k : o_il L st S (fun L st S => o_c L st S (fun L st S => o_iadd L st S (fun L st S => V MX0_findPlace h 36 L st S Q)) (nI 2)) 1) : V MX0_findPlace h 29 L st S Q :=
  v_iload_n dX0_findPlace_29 rfl (fun L st S k => v_iconst dX0_findPlace_30 (by decide) (fun L st S k => v_iadd dX0_findPlace_31 (fun L st S k => v_goto dX0_findPlace_32 (by decide) k) k) k) k
theorem b_X0_findPlace_35 {h : Nat} {L : LVs} {st : List AV} {S : ST} {Q : Option AV → ST → Prop} (k : o_il L st S (fun L st S => V MX0_findPlace h 36 L st S Q) 1) : V MX0_findPlace h 35 L st S Q :=
  v_iload_n dX0_findPlace_35 rfl (fun L st S k => k) k
theorem k_X0_findPlace_36 {h : Nat} {L : LVs} {st : List AV} {S : ST} {Q Q' : Option AV → ST → Prop} {j : Nat} {a0 : AV} (hC : Ct MX9_contentAt h [vR 9 j, a0] S Q') (k : ∀ (r : Option AV) (S' : ST), Q' r S' → V MX0_findPlace (h + 1) 39 L (r.toList ++ st) S' Q) (hj : j < NI 9) (hw : wid st ≤ 8) : V MX0_findPlace (h + 1) 36 L (a0 :: vR 9 j :: st) S Q :=
  v_callV (M' := MX9_contentAt) (c := 9) (As := [a0]) dX0_findPlace_36 ml_X0_189 im_X9_contentAt se_X9_contentAt in_X9 cd_X9_contentAt rfl LY_9 np_X9_contentAt (by decide) hw hj hC k
theorem b_X0_findPlace_39 {h : Nat} {L : LVs} {st : List AV} {S : ST} {Q : Option AV → ST → Prop} (k : o_is L st S (fun L st S => o_c L st S (fun L st S => o_is L st S (fun L st S => o_c L st S (fun L st S => o_is L st S (fun L st S => V MX0_findPlace h 46 L st S Q) 5) (nI 0)) 4) (-1)) 3) : V MX0_findPlace h 39 L st S Q :=
  v_istore_n dX0_findPlace_39 rfl (by decide) (fun L st S k => v_iconst dX0_findPlace_40 (by decide) (fun L st S k => v_istore dX0_findPlace_41 (by decide) (fun L st S k => v_iconst dX0_findPlace_43 (by decide) (fun L st S k => v_istore dX0_findPlace_44 (by decide) (fun L st S k => k) k) k) k) k) k
theorem b_X0_findPlace_46 {h : Nat} {L : LVs} {st : List AV} {S : ST} {Q : Option AV → ST → Prop} (k : o_il L st S (fun L st S => o_al L st S (fun L st S => o_get L st S (fun L st S => o_get L st S (fun L st S => t_2 L st S (fun x y => y ≤ x) (fun L st S => V MX0_findPlace h 161 L st S Q) (fun L st S => V MX0_findPlace h 58 L st S Q)) 6 9 (0, 0, 0)) 0 1 (4, 6, 0)) 0) 5) : V MX0_findPlace h 46 L st S Q :=
  v_iload dX0_findPlace_46 (fun L st S k => v_aload_n dX0_findPlace_48 rfl (fun L st S k => v_get dX0_findPlace_49 rfl iX0 LY_0 rfl (by decide) rfl fl_X0_15 (fun L st S k => v_get dX0_findPlace_52 rfl iX6 LY_6 rfl (by decide) rfl fl_X0_45 (fun L st S k => w_icmp_ge dX0_findPlace_55 (by decide) rfl k) k) k) k) k
theorem b_X0_findPlace_58 {h : Nat} {L : LVs} {st : List AV} {S : ST} {Q : Option AV → ST → Prop} (k : o_il L st S (fun L st S => t_1 L st S (fun x => x = nI 0) (fun L st S => V MX0_findPlace h 83 L st S Q) (fun L st S => V MX0_findPlace h 62 L st S Q)) 2) : V MX0_findPlace h 58 L st S Q :=
  v_iload_n dX0_findPlace_58 rfl (fun L st S k => w_if_eq dX0_findPlace_59 (by decide) rfl k) k
theorem b_X0_findPlace_62 {h : Nat} {L : LVs} {st : List AV} {S : ST} {Q : Option AV → ST → Prop} (k : o_al L st S (fun L st S => o_get L st S (fun L st S => o_get L st S (fun L st S => o_il L st S (fun L st S => o_iald L st S (fun L st S => o_al L st S (fun L st S => o_get L st S (fun L st S => o_il L st S (fun L st S => V MX0_findPlace h 77 L st S Q) 1) 0 0 (4, 9, 0)) 0)) 5) 6 1 (3, 22, 0)) 0 1 (4, 6, 0)) 0) : V MX0_findPlace h 62 L st S Q :=
  v_aload_n dX0_findPlace_62 rfl (fun L st S k => v_get dX0_findPlace_63 rfl iX0 LY_0 rfl (by decide) rfl fl_X0_15 (fun L st S k => v_get dX0_findPlace_66 rfl iX6 LY_6 rfl (by decide) rfl fl_X0_48 (fun L st S k => v_iload dX0_findPlace_69 (fun L st S k => v_iaload dX0_findPlace_71 (fun L st S k => v_aload_n dX0_findPlace_72 rfl (fun L st S k => v_get dX0_findPlace_73 rfl iX0 LY_0 rfl (by decide) rfl fl_X0_9 (fun L st S k => v_iload_n dX0_findPlace_76 rfl (fun L st S k => k) k) k) k) k) k) k) k) k
theorem k_X0_findPlace_77 {h : Nat} {L : LVs} {st : List AV} {S : ST} {Q Q' : Option AV → ST → Prop} {j : Nat} {a0 : AV} (hC : Ct MX9_contentAt h [vR 9 j, a0] S Q') (k : ∀ (r : Option AV) (S' : ST), Q' r S' → V MX0_findPlace (h + 1) 80 L (r.toList ++ st) S' Q) (hj : j < NI 9) (hw : wid st ≤ 8) : V MX0_findPlace (h + 1) 77 L (a0 :: vR 9 j :: st) S Q :=
  v_callV (M' := MX9_contentAt) (c := 9) (As := [a0]) dX0_findPlace_77 ml_X0_189 im_X9_contentAt se_X9_contentAt in_X9 cd_X9_contentAt rfl LY_9 np_X9_contentAt (by decide) hw hj hC k
theorem b_X0_findPlace_80 {h : Nat} {L : LVs} {st : List AV} {S : ST} {Q : Option AV → ST → Prop} (k : t_2 L st S (fun x y => x = y) (fun L st S => V MX0_findPlace h 83 L st S Q) (fun L st S => V MX0_findPlace h 87 L st S Q)) : V MX0_findPlace h 80 L st S Q :=
  w_icmp_ne dX0_findPlace_80 (by decide) rfl k
theorem b_X0_findPlace_83 {h : Nat} {L : LVs} {st : List AV} {S : ST} {Q : Option AV → ST → Prop} (k : o_c L st S (fun L st S => V MX0_findPlace h 88 L st S Q) (nI 1)) : V MX0_findPlace h 83 L st S Q :=
  v_iconst dX0_findPlace_83 (by decide) (fun L st S k => v_goto dX0_findPlace_84 (by decide) k) k
theorem b_X0_findPlace_87 {h : Nat} {L : LVs} {st : List AV} {S : ST} {Q : Option AV → ST → Prop} (k : o_c L st S (fun L st S => V MX0_findPlace h 88 L st S Q) (nI 0)) : V MX0_findPlace h 87 L st S Q :=
  v_iconst dX0_findPlace_87 (by decide) (fun L st S k => k) k
theorem b_X0_findPlace_88 {h : Nat} {L : LVs} {st : List AV} {S : ST} {Q : Option AV → ST → Prop} (k : o_is L st S (fun L st S => o_al L st S (fun L st S => o_get L st S (fun L st S => o_al L st S (fun L st S => o_get L st S (fun L st S => o_get L st S (fun L st S => o_il L st S (fun L st S => o_iald L st S (fun L st S => V MX0_findPlace h 104 L st S Q)) 5) 6 2 (3, 23, 0)) 0 1 (4, 6, 0)) 0) 0 2 (4, 8, 0)) 0) 6) : V MX0_findPlace h 88 L st S Q :=
  v_istore dX0_findPlace_88 (by decide) (fun L st S k => v_aload_n dX0_findPlace_90 rfl (fun L st S k => v_get dX0_findPlace_91 rfl iX0 LY_0 rfl (by decide) rfl fl_X0_19 (fun L st S k => v_aload_n dX0_findPlace_94 rfl (fun L st S k => v_get dX0_findPlace_95 rfl iX0 LY_0 rfl (by decide) rfl fl_X0_15 (fun L st S k => v_get dX0_findPlace_98 rfl iX6 LY_6 rfl (by decide) rfl fl_X0_57 (fun L st S k => v_iload dX0_findPlace_101 (fun L st S k => v_iaload dX0_findPlace_103 (fun L st S k => k) k) k) k) k) k) k) k) k
theorem k_X0_findPlace_104 {h : Nat} {L : LVs} {st : List AV} {S : ST} {Q Q' : Option AV → ST → Prop} {j : Nat} {a0 : AV} (hC : Ct MX8_tableAt h [vR 8 j, a0] S Q') (k : ∀ (r : Option AV) (S' : ST), Q' r S' → V MX0_findPlace (h + 1) 107 L (r.toList ++ st) S' Q) (hj : j < NI 8) (hw : wid st ≤ 8) : V MX0_findPlace (h + 1) 104 L (a0 :: vR 8 j :: st) S Q :=
  v_callV (M' := MX8_tableAt) (c := 8) (As := [a0]) dX0_findPlace_104 ml_X0_98 im_X8_tableAt se_X8_tableAt in_X8 cd_X8_tableAt rfl LY_8 np_X8_tableAt (by decide) hw hj hC k
theorem b_X0_findPlace_107 {h : Nat} {L : LVs} {st : List AV} {S : ST} {Q : Option AV → ST → Prop} (k : o_as L st S (fun L st S => o_il L st S (fun L st S => t_1 L st S (fun x => x = nI 0) (fun L st S => V MX0_findPlace h 123 L st S Q) (fun L st S => V MX0_findPlace h 114 L st S Q)) 6) 7) : V MX0_findPlace h 107 L st S Q :=
  v_astore dX0_findPlace_107 (by decide) (fun L st S k => v_iload dX0_findPlace_109 (fun L st S k => w_if_eq dX0_findPlace_111 (by decide) rfl k) k) k
theorem b_X0_findPlace_114 {h : Nat} {L : LVs} {st : List AV} {S : ST} {Q : Option AV → ST → Prop} (k : o_al L st S (fun L st S => o_il L st S (fun L st S => V MX0_findPlace h 117 L st S Q) 3) 7) : V MX0_findPlace h 114 L st S Q :=
  v_aload dX0_findPlace_114 (fun L st S k => v_iload_n dX0_findPlace_116 rfl (fun L st S k => k) k) k
theorem k_X0_findPlace_117 {h : Nat} {L : LVs} {st : List AV} {S : ST} {Q Q' : Option AV → ST → Prop} {j : Nat} {a0 : AV} (hC : Ct MX7_findColumn h [vR 7 j, a0] S Q') (k : ∀ (r : Option AV) (S' : ST), Q' r S' → V MX0_findPlace (h + 1) 120 L (r.toList ++ st) S' Q) (hj : j < NI 7) (hw : wid st ≤ 8) : V MX0_findPlace (h + 1) 117 L (a0 :: vR 7 j :: st) S Q :=
  v_callV (M' := MX7_findColumn) (c := 7) (As := [a0]) dX0_findPlace_117 ml_X0_119 im_X7_findColumn se_X7_findColumn in_X7 cd_X7_findColumn rfl LY_7 np_X7_findColumn (by decide) hw hj hC k
theorem b_X0_findPlace_120 {h : Nat} {L : LVs} {st : List AV} {S : ST} {Q : Option AV → ST → Prop} (k : V MX0_findPlace h 124 L st S Q) : V MX0_findPlace h 120 L st S Q :=
  v_goto dX0_findPlace_120 (by decide) k
theorem b_X0_findPlace_123 {h : Nat} {L : LVs} {st : List AV} {S : ST} {Q : Option AV → ST → Prop} (k : o_c L st S (fun L st S => V MX0_findPlace h 124 L st S Q) (-1)) : V MX0_findPlace h 123 L st S Q :=
  v_iconst dX0_findPlace_123 (by decide) (fun L st S k => k) k
theorem b_X0_findPlace_124 {h : Nat} {L : LVs} {st : List AV} {S : ST} {Q : Option AV → ST → Prop} (k : o_is L st S (fun L st S => o_il L st S (fun L st S => o_c L st S (fun L st S => t_2 L st S (fun x y => x = y) (fun L st S => V MX0_findPlace h 140 L st S Q) (fun L st S => V MX0_findPlace h 132 L st S Q)) (-1)) 8) 8) : V MX0_findPlace h 124 L st S Q :=
  v_istore dX0_findPlace_124 (by decide) (fun L st S k => v_iload dX0_findPlace_126 (fun L st S k => v_iconst dX0_findPlace_128 (by decide) (fun L st S k => w_icmp_eq dX0_findPlace_129 (by decide) rfl k) k) k) k
theorem b_X0_findPlace_132 {h : Nat} {L : LVs} {st : List AV} {S : ST} {Q : Option AV → ST → Prop} (k : o_il L st S (fun L st S => o_c L st S (fun L st S => t_2 L st S (fun x y => x = y) (fun L st S => V MX0_findPlace h 140 L st S Q) (fun L st S => V MX0_findPlace h 138 L st S Q)) (-1)) 4) : V MX0_findPlace h 132 L st S Q :=
  v_iload dX0_findPlace_132 (fun L st S k => v_iconst dX0_findPlace_134 (by decide) (fun L st S k => w_icmp_eq dX0_findPlace_135 (by decide) rfl k) k) k
theorem b_X0_findPlace_138 {h : Nat} {L : LVs} {st : List AV} {S : ST} {Q : Option AV → ST → Prop} (k : o_c L st S (fun L st S => t_ir st S Q) (-1)) : V MX0_findPlace h 138 L st S Q :=
  v_iconst dX0_findPlace_138 (by decide) (fun L st S k => w_ir dX0_findPlace_139 rfl k) k
theorem b_X0_findPlace_140 {h : Nat} {L : LVs} {st : List AV} {S : ST} {Q : Option AV → ST → Prop} (k : o_il L st S (fun L st S => o_c L st S (fun L st S => t_2 L st S (fun x y => x = y) (fun L st S => V MX0_findPlace h 155 L st S Q) (fun L st S => V MX0_findPlace h 146 L st S Q)) (-1)) 8) : V MX0_findPlace h 140 L st S Q :=
  v_iload dX0_findPlace_140 (fun L st S k => v_iconst dX0_findPlace_142 (by decide) (fun L st S k => w_icmp_eq dX0_findPlace_143 (by decide) rfl k) k) k
theorem b_X0_findPlace_146 {h : Nat} {L : LVs} {st : List AV} {S : ST} {Q : Option AV → ST → Prop} (k : o_il L st S (fun L st S => o_c L st S (fun L st S => o_imul L st S (fun L st S => o_il L st S (fun L st S => o_iadd L st S (fun L st S => o_is L st S (fun L st S => V MX0_findPlace h 155 L st S Q) 4)) 8)) (nI 4)) 5) : V MX0_findPlace h 146 L st S Q :=
  v_iload dX0_findPlace_146 (fun L st S k => v_iconst dX0_findPlace_148 (by decide) (fun L st S k => v_imul dX0_findPlace_149 (fun L st S k => v_iload dX0_findPlace_150 (fun L st S k => v_iadd dX0_findPlace_152 (fun L st S k => v_istore dX0_findPlace_153 (by decide) (fun L st S k => k) k) k) k) k) k) k
theorem b_X0_findPlace_155 {h : Nat} {L : LVs} {st : List AV} {S : ST} {Q : Option AV → ST → Prop} (k : o_inc L st S (fun L st S => V MX0_findPlace h 46 L st S Q) 5 (nI 1)) : V MX0_findPlace h 155 L st S Q :=
  v_iinc dX0_findPlace_155 (by decide) (by decide) (fun L st S k => v_goto dX0_findPlace_158 (by decide) k) k
theorem b_X0_findPlace_161 {h : Nat} {L : LVs} {st : List AV} {S : ST} {Q : Option AV → ST → Prop} (k : o_il L st S (fun L st S => t_ir st S Q) 4) : V MX0_findPlace h 161 L st S Q :=
  v_iload dX0_findPlace_161 (fun L st S k => w_ir dX0_findPlace_163 rfl k) k
-- QueryForge$Checker.push(I)V
theorem dX0_push_0 : decode cX0_push 0 = .ok (.aload_n 0, 1) := by decide +kernel
theorem dX0_push_1 : decode cX0_push 1 = .ok (.getfield 27, 3) := by decide +kernel
theorem dX0_push_4 : decode cX0_push 4 = .ok (.sipush 200, 3) := by decide +kernel
theorem dX0_push_7 : decode cX0_push 7 = .ok (.if_icmp .ge 23, 3) := by decide +kernel
theorem dX0_push_10 : decode cX0_push 10 = .ok (.aload_n 0, 1) := by decide +kernel
theorem dX0_push_11 : decode cX0_push 11 = .ok (.getfield 23, 3) := by decide +kernel
theorem dX0_push_14 : decode cX0_push 14 = .ok (.aload_n 0, 1) := by decide +kernel
theorem dX0_push_15 : decode cX0_push 15 = .ok (.getfield 27, 3) := by decide +kernel
theorem dX0_push_18 : decode cX0_push 18 = .ok (.iload_n 1, 1) := by decide +kernel
theorem dX0_push_19 : decode cX0_push 19 = .ok (.iastore, 1) := by decide +kernel
theorem dX0_push_20 : decode cX0_push 20 = .ok (.aload_n 0, 1) := by decide +kernel
theorem dX0_push_21 : decode cX0_push 21 = .ok (.dup, 1) := by decide +kernel
theorem dX0_push_22 : decode cX0_push 22 = .ok (.getfield 27, 3) := by decide +kernel
theorem dX0_push_25 : decode cX0_push 25 = .ok (.iconst 1, 1) := by decide +kernel
theorem dX0_push_26 : decode cX0_push 26 = .ok (.iadd, 1) := by decide +kernel
theorem dX0_push_27 : decode cX0_push 27 = .ok (.putfield 27, 3) := by decide +kernel
theorem dX0_push_30 : decode cX0_push 30 = .ok (.return_, 1) := by decide +kernel
theorem b_X0_push_0 {h : Nat} {L : LVs} {st : List AV} {S : ST} {Q : Option AV → ST → Prop} (k : o_al L st S (fun L st S => o_get L st S (fun L st S => o_c L st S (fun L st S => t_2 L st S (fun x y => y ≤ x) (fun L st S => V MX0_push h 30 L st S Q) (fun L st S => V MX0_push h 10 L st S Q)) (nI 200)) 0 4 (0, 0, 0)) 0) : V MX0_push h 0 L st S Q :=
  v_aload_n dX0_push_0 rfl (fun L st S k => v_get dX0_push_1 rfl iX0 LY_0 rfl (by decide) rfl fl_X0_27 (fun L st S k => v_sipush dX0_push_4 (by decide) (fun L st S k => w_icmp_ge dX0_push_7 (by decide) rfl k) k) k) k
theorem b_X0_push_10 {h : Nat} {L : LVs} {st : List AV} {S : ST} {Q : Option AV → ST → Prop} (k : o_al L st S (fun L st S => o_get L st S (fun L st S => o_al L st S (fun L st S => o_get L st S (fun L st S => o_il L st S (fun L st S => o_iast L st S (fun L st S => o_al L st S (fun L st S => o_dup L st S (fun L st S => o_get L st S (fun L st S => o_c L st S (fun L st S => o_iadd L st S (fun L st S => o_puti L st S (fun L st S => V MX0_push h 30 L st S Q) 0 4)) (nI 1)) 0 4 (0, 0, 0))) 0)) 1) 0 4 (0, 0, 0)) 0) 0 3 (3, 12, 0)) 0) : V MX0_push h 10 L st S Q :=
  v_aload_n dX0_push_10 rfl (fun L st S k => v_get dX0_push_11 rfl iX0 LY_0 rfl (by decide) rfl fl_X0_23 (fun L st S k => v_aload_n dX0_push_14 rfl (fun L st S k => v_get dX0_push_15 rfl iX0 LY_0 rfl (by decide) rfl fl_X0_27 (fun L st S k => v_iload_n dX0_push_18 rfl (fun L st S k => v_iastore dX0_push_19 (fun L st S k => v_aload_n dX0_push_20 rfl (fun L st S k => v_dup dX0_push_21 (fun L st S k => v_get dX0_push_22 rfl iX0 LY_0 rfl (by decide) rfl fl_X0_27 (fun L st S k => v_iconst dX0_push_25 (by decide) (fun L st S k => v_iadd dX0_push_26 (fun L st S k => v_puti dX0_push_27 rfl iX0 tyX0_ok nmX0 LY_0 rfl (by decide) rfl fl_X0_27 rfl rfl (fun L st S k => k) k) k) k) k) k) k) k) k) k) k) k) k
theorem b_X0_push_30 {h : Nat} {L : LVs} {st : List AV} {S : ST} {Q : Option AV → ST → Prop} (k : t_vr st S Q) : V MX0_push h 30 L st S Q :=
  w_vr dX0_push_30 rfl k
-- QueryForge$Checker.pop()I
theorem dX0_pop_0 : decode cX0_pop 0 = .ok (.aload_n 0, 1) := by decide +kernel
theorem dX0_pop_1 : decode cX0_pop 1 = .ok (.getfield 27, 3) := by decide +kernel
theorem dX0_pop_4 : decode cX0_pop 4 = .ok (.ifCond .le 13, 3) := by decide +kernel
theorem dX0_pop_7 : decode cX0_pop 7 = .ok (.aload_n 0, 1) := by decide +kernel
theorem dX0_pop_8 : decode cX0_pop 8 = .ok (.dup, 1) := by decide +kernel
theorem dX0_pop_9 : decode cX0_pop 9 = .ok (.getfield 27, 3) := by decide +kernel
theorem dX0_pop_12 : decode cX0_pop 12 = .ok (.iconst 1, 1) := by decide +kernel
theorem dX0_pop_13 : decode cX0_pop 13 = .ok (.isub, 1) := by decide +kernel
theorem dX0_pop_14 : decode cX0_pop 14 = .ok (.putfield 27, 3) := by decide +kernel
theorem dX0_pop_17 : decode cX0_pop 17 = .ok (.aload_n 0, 1) := by decide +kernel
theorem dX0_pop_18 : decode cX0_pop 18 = .ok (.getfield 23, 3) := by decide +kernel
theorem dX0_pop_21 : decode cX0_pop 21 = .ok (.aload_n 0, 1) := by decide +kernel
theorem dX0_pop_22 : decode cX0_pop 22 = .ok (.getfield 27, 3) := by decide +kernel
theorem dX0_pop_25 : decode cX0_pop 25 = .ok (.iaload, 1) := by decide +kernel
theorem dX0_pop_26 : decode cX0_pop 26 = .ok (.ireturn, 1) := by decide +kernel
theorem b_X0_pop_0 {h : Nat} {L : LVs} {st : List AV} {S : ST} {Q : Option AV → ST → Prop} (k : o_al L st S (fun L st S => o_get L st S (fun L st S => t_1 L st S (fun x => x ≤ nI 0) (fun L st S => V MX0_pop h 17 L st S Q) (fun L st S => V MX0_pop h 7 L st S Q)) 0 4 (0, 0, 0)) 0) : V MX0_pop h 0 L st S Q :=
  v_aload_n dX0_pop_0 rfl (fun L st S k => v_get dX0_pop_1 rfl iX0 LY_0 rfl (by decide) rfl fl_X0_27 (fun L st S k => w_if_le dX0_pop_4 (by decide) rfl k) k) k
theorem b_X0_pop_7 {h : Nat} {L : LVs} {st : List AV} {S : ST} {Q : Option AV → ST → Prop} (k : o_al L st S (fun L st S => o_dup L st S (fun L st S => o_get L st S (fun L st S => o_c L st S (fun L st S => o_isub L st S (fun L st S => o_puti L st S (fun L st S => V MX0_pop h 17 L st S Q) 0 4)) (nI 1)) 0 4 (0, 0, 0))) 0) : V MX0_pop h 7 L st S Q :=
  v_aload_n dX0_pop_7 rfl (fun L st S k => v_dup dX0_pop_8 (fun L st S k => v_get dX0_pop_9 rfl iX0 LY_0 rfl (by decide) rfl fl_X0_27 (fun L st S k => v_iconst dX0_pop_12 (by decide) (fun L st S k => v_isub dX0_pop_13 (fun L st S k => v_puti dX0_pop_14 rfl iX0 tyX0_ok nmX0 LY_0 rfl (by decide) rfl fl_X0_27 rfl rfl (fun L st S k => k) k) k) k) k) k) k
theorem b_X0_pop_17 {h : Nat} {L : LVs} {st : List AV} {S : ST} {Q : Option AV → ST → Prop} (k : o_al L st S (fun L st S => o_get L st S (fun L st S => o_al L st S (fun L st S => o_get L st S (fun L st S => o_iald L st S (fun L st S => t_ir st S Q)) 0 4 (0, 0, 0)) 0) 0 3 (3, 12, 0)) 0) : V MX0_pop h 17 L st S Q :=
  v_aload_n dX0_pop_17 rfl (fun L st S k => v_get dX0_pop_18 rfl iX0 LY_0 rfl (by decide) rfl fl_X0_23 (fun L st S k => v_aload_n dX0_pop_21 rfl (fun L st S k => v_get dX0_pop_22 rfl iX0 LY_0 rfl (by decide) rfl fl_X0_27 (fun L st S k => v_iaload dX0_pop_25 (fun L st S k => w_ir dX0_pop_26 rfl k) k) k) k) k) k
-- QueryForge$Checker.loadOf(I)I
theorem dX0_loadOf_0 : decode cX0_loadOf 0 = .ok (.iload_n 0, 1) := by decide +kernel
theorem dX0_loadOf_1 : decode cX0_loadOf 1 = .ok (.iconst 4, 1) := by decide +kernel
theorem dX0_loadOf_2 : decode cX0_loadOf 2 = .ok (.if_icmp .ge 7, 3) := by decide +kernel
theorem dX0_loadOf_5 : decode cX0_loadOf 5 = .ok (.iconst 4, 1) := by decide +kernel
theorem dX0_loadOf_6 : decode cX0_loadOf 6 = .ok (.goto 4, 3) := by decide +kernel
theorem dX0_loadOf_9 : decode cX0_loadOf 9 = .ok (.iconst 5, 1) := by decide +kernel
theorem dX0_loadOf_10 : decode cX0_loadOf 10 = .ok (.ireturn, 1) := by decide +kernel
theorem b_X0_loadOf_0 {h : Nat} {L : LVs} {st : List AV} {S : ST} {Q : Option AV → ST → Prop} (k : o_il L st S (fun L st S => o_c L st S (fun L st S => t_2 L st S (fun x y => y ≤ x) (fun L st S => V MX0_loadOf h 9 L st S Q) (fun L st S => V MX0_loadOf h 5 L st S Q)) (nI 4)) 0) : V MX0_loadOf h 0 L st S Q :=
  v_iload_n dX0_loadOf_0 rfl (fun L st S k => v_iconst dX0_loadOf_1 (by decide) (fun L st S k => w_icmp_ge dX0_loadOf_2 (by decide) rfl k) k) k
theorem b_X0_loadOf_5 {h : Nat} {L : LVs} {st : List AV} {S : ST} {Q : Option AV → ST → Prop} (k : o_c L st S (fun L st S => V MX0_loadOf h 10 L st S Q) (nI 4)) : V MX0_loadOf h 5 L st S Q :=
  v_iconst dX0_loadOf_5 (by decide) (fun L st S k => v_goto dX0_loadOf_6 (by decide) k) k
theorem b_X0_loadOf_9 {h : Nat} {L : LVs} {st : List AV} {S : ST} {Q : Option AV → ST → Prop} (k : o_c L st S (fun L st S => V MX0_loadOf h 10 L st S Q) (nI 5)) : V MX0_loadOf h 9 L st S Q :=
  v_iconst dX0_loadOf_9 (by decide) (fun L st S k => k) k
theorem b_X0_loadOf_10 {h : Nat} {L : LVs} {st : List AV} {S : ST} {Q : Option AV → ST → Prop} (k : t_ir st S Q) : V MX0_loadOf h 10 L st S Q :=
  w_ir dX0_loadOf_10 rfl k
-- QueryForge$Checker.clash(II)Z
theorem dX0_clash_0 : decode cX0_clash 0 = .ok (.iload_n 0, 1) := by decide +kernel
theorem dX0_clash_1 : decode cX0_clash 1 = .ok (.iconst 1, 1) := by decide +kernel
theorem dX0_clash_2 : decode cX0_clash 2 = .ok (.if_icmp .ne 8, 3) := by decide +kernel
theorem dX0_clash_5 : decode cX0_clash 5 = .ok (.iload_n 1, 1) := by decide +kernel
theorem dX0_clash_6 : decode cX0_clash 6 = .ok (.iconst 2, 1) := by decide +kernel
theorem dX0_clash_7 : decode cX0_clash 7 = .ok (.if_icmp .eq 13, 3) := by decide +kernel
theorem dX0_clash_10 : decode cX0_clash 10 = .ok (.iload_n 0, 1) := by decide +kernel
theorem dX0_clash_11 : decode cX0_clash 11 = .ok (.iconst 2, 1) := by decide +kernel
theorem dX0_clash_12 : decode cX0_clash 12 = .ok (.if_icmp .ne 12, 3) := by decide +kernel
theorem dX0_clash_15 : decode cX0_clash 15 = .ok (.iload_n 1, 1) := by decide +kernel
theorem dX0_clash_16 : decode cX0_clash 16 = .ok (.iconst 1, 1) := by decide +kernel
theorem dX0_clash_17 : decode cX0_clash 17 = .ok (.if_icmp .ne 7, 3) := by decide +kernel
theorem dX0_clash_20 : decode cX0_clash 20 = .ok (.iconst 1, 1) := by decide +kernel
theorem dX0_clash_21 : decode cX0_clash 21 = .ok (.goto 4, 3) := by decide +kernel
theorem dX0_clash_24 : decode cX0_clash 24 = .ok (.iconst 0, 1) := by decide +kernel
theorem dX0_clash_25 : decode cX0_clash 25 = .ok (.ireturn, 1) := by decide +kernel
theorem b_X0_clash_0 {h : Nat} {L : LVs} {st : List AV} {S : ST} {Q : Option AV → ST → Prop} (k : o_il L st S (fun L st S => o_c L st S (fun L st S => t_2 L st S (fun x y => x = y) (fun L st S => V MX0_clash h 5 L st S Q) (fun L st S => V MX0_clash h 10 L st S Q)) (nI 1)) 0) : V MX0_clash h 0 L st S Q :=
  v_iload_n dX0_clash_0 rfl (fun L st S k => v_iconst dX0_clash_1 (by decide) (fun L st S k => w_icmp_ne dX0_clash_2 (by decide) rfl k) k) k
theorem b_X0_clash_5 {h : Nat} {L : LVs} {st : List AV} {S : ST} {Q : Option AV → ST → Prop} (k : o_il L st S (fun L st S => o_c L st S (fun L st S => t_2 L st S (fun x y => x = y) (fun L st S => V MX0_clash h 20 L st S Q) (fun L st S => V MX0_clash h 10 L st S Q)) (nI 2)) 1) : V MX0_clash h 5 L st S Q :=
  v_iload_n dX0_clash_5 rfl (fun L st S k => v_iconst dX0_clash_6 (by decide) (fun L st S k => w_icmp_eq dX0_clash_7 (by decide) rfl k) k) k
theorem b_X0_clash_10 {h : Nat} {L : LVs} {st : List AV} {S : ST} {Q : Option AV → ST → Prop} (k : o_il L st S (fun L st S => o_c L st S (fun L st S => t_2 L st S (fun x y => x = y) (fun L st S => V MX0_clash h 15 L st S Q) (fun L st S => V MX0_clash h 24 L st S Q)) (nI 2)) 0) : V MX0_clash h 10 L st S Q :=
  v_iload_n dX0_clash_10 rfl (fun L st S k => v_iconst dX0_clash_11 (by decide) (fun L st S k => w_icmp_ne dX0_clash_12 (by decide) rfl k) k) k
theorem b_X0_clash_15 {h : Nat} {L : LVs} {st : List AV} {S : ST} {Q : Option AV → ST → Prop} (k : o_il L st S (fun L st S => o_c L st S (fun L st S => t_2 L st S (fun x y => x = y) (fun L st S => V MX0_clash h 20 L st S Q) (fun L st S => V MX0_clash h 24 L st S Q)) (nI 1)) 1) : V MX0_clash h 15 L st S Q :=
  v_iload_n dX0_clash_15 rfl (fun L st S k => v_iconst dX0_clash_16 (by decide) (fun L st S k => w_icmp_ne dX0_clash_17 (by decide) rfl k) k) k
theorem b_X0_clash_20 {h : Nat} {L : LVs} {st : List AV} {S : ST} {Q : Option AV → ST → Prop} (k : o_c L st S (fun L st S => V MX0_clash h 25 L st S Q) (nI 1)) : V MX0_clash h 20 L st S Q :=
  v_iconst dX0_clash_20 (by decide) (fun L st S k => v_goto dX0_clash_21 (by decide) k) k
theorem b_X0_clash_24 {h : Nat} {L : LVs} {st : List AV} {S : ST} {Q : Option AV → ST → Prop} (k : o_c L st S (fun L st S => V MX0_clash h 25 L st S Q) (nI 0)) : V MX0_clash h 24 L st S Q :=
  v_iconst dX0_clash_24 (by decide) (fun L st S k => k) k
theorem b_X0_clash_25 {h : Nat} {L : LVs} {st : List AV} {S : ST} {Q : Option AV → ST → Prop} (k : t_zr st S Q) : V MX0_clash h 25 L st S Q :=
  w_zr dX0_clash_25 rfl k
