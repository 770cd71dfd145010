-- QueryForge$Words.split([CI)V
theorem dX9_split_0 : decode cX9_split 0 = .ok (.aload_n 0, 1) := by decide +kernel
theorem dX9_split_1 : decode cX9_split 1 = .ok (.iconst 0, 1) := by decide +kernel
theorem dX9_split_2 : decode cX9_split 2 = .ok (.putfield 18, 3) := by decide +kernel
theorem dX9_split_5 : decode cX9_split 5 = .ok (.iconst 0, 1) := by decide +kernel
theorem dX9_split_6 : decode cX9_split 6 = .ok (.istore_n 3, 1) := by decide +kernel
theorem dX9_split_7 : decode cX9_split 7 = .ok (.iconst 0, 1) := by decide +kernel
theorem dX9_split_8 : decode cX9_split 8 = .ok (.istore 4, 2) := by decide +kernel
theorem dX9_split_10 : decode cX9_split 10 = .ok (.iload 4, 2) := by decide +kernel
theorem dX9_split_12 : decode cX9_split 12 = .ok (.sipush 200, 3) := by decide +kernel
theorem dX9_split_15 : decode cX9_split 15 = .ok (.if_icmp .ge 36, 3) := by decide +kernel
theorem dX9_split_18 : decode cX9_split 18 = .ok (.iload_n 3, 1) := by decide +kernel
theorem dX9_split_19 : decode cX9_split 19 = .ok (.iload_n 2, 1) := by decide +kernel
theorem dX9_split_20 : decode cX9_split 20 = .ok (.if_icmp .ge 31, 3) := by decide +kernel
theorem dX9_split_23 : decode cX9_split 23 = .ok (.aload_n 1, 1) := by decide +kernel
theorem dX9_split_24 : decode cX9_split 24 = .ok (.iload_n 3, 1) := by decide +kernel
theorem dX9_split_25 : decode cX9_split 25 = .ok (.caload, 1) := by decide +kernel
theorem dX9_split_26 : decode cX9_split 26 = .ok (.bipush 32, 2) := by decide +kernel
theorem dX9_split_28 : decode cX9_split 28 = .ok (.if_icmp .ne 9, 3) := by decide +kernel
theorem dX9_split_31 : decode cX9_split 31 = .ok (.iload_n 3, 1) := by decide +kernel
theorem dX9_split_32 : decode cX9_split 32 = .ok (.iconst 1, 1) := by decide +kernel
theorem dX9_split_33 : decode cX9_split 33 = .ok (.iadd, 1) := by decide +kernel
theorem dX9_split_34 : decode cX9_split 34 = .ok (.goto 10, 3) := by decide +kernel
theorem dX9_split_37 : decode cX9_split 37 = .ok (.aload_n 0, 1) := by decide +kernel
theorem dX9_split_38 : decode cX9_split 38 = .ok (.aload_n 1, 1) := by decide +kernel
theorem dX9_split_39 : decode cX9_split 39 = .ok (.iload_n 2, 1) := by decide +kernel
theorem dX9_split_40 : decode cX9_split 40 = .ok (.iload_n 3, 1) := by decide +kernel
theorem dX9_split_41 : decode cX9_split 41 = .ok (.invokevirtual 22, 3) := by decide +kernel
theorem dX9_split_44 : decode cX9_split 44 = .ok (.istore_n 3, 1) := by decide +kernel
theorem dX9_split_45 : decode cX9_split 45 = .ok (.iinc 4 1, 3) := by decide +kernel
theorem dX9_split_48 : decode cX9_split 48 = .ok (.goto (-38), 3) := by decide +kernel
theorem dX9_split_51 : decode cX9_split 51 = .ok (.return_, 1) := by decide +kernel
theorem b_X9_split_0 {h : Nat} {L : LVs} {st : List AV} {S : ST} {Q : Option AV → ST → Prop} (k : o_al L st S (fun L st S => o_c L st S (fun L st S => o_puti L st S (fun L st S => o_c L st S (fun L st S => o_is L st S (fun L st S => o_c L st S (fun L st S => o_is L st S (fun L st S => V MX9_split h 10 L st S Q) 4) (nI 0)) 3) (nI 0)) 9 2) (nI 0)) 0) : V MX9_split h 0 L st S Q :=
  v_aload_n dX9_split_0 rfl (fun L st S k => v_iconst dX9_split_1 (by decide) (fun L st S k => v_puti dX9_split_2 rfl iX9 tyX9_ok nmX9 LY_9 rfl (by decide) rfl fl_X9_18 rfl rfl (fun L st S k => v_iconst dX9_split_5 (by decide) (fun L st S k => v_istore_n dX9_split_6 rfl (by decide) (fun L st S k => v_iconst dX9_split_7 (by decide) (fun L st S k => v_istore dX9_split_8 (by decide) (fun L st S k => k) k) k) k) k) k) k) k
theorem b_X9_split_10 {h : Nat} {L : LVs} {st : List AV} {S : ST} {Q : Option AV → ST → Prop} (k : o_il L st S (fun L st S => o_c L st S (fun L st S => t_2 L st S (fun x y => y ≤ x) (fun L st S => V MX9_split h 51 L st S Q) (fun L st S => V MX9_split h 18 L st S Q)) (nI 200)) 4) : V MX9_split h 10 L st S Q :=
  v_iload dX9_split_10 (fun L st S k => v_sipush dX9_split_12 (by decide) (fun L st S k => w_icmp_ge dX9_split_15 (by decide) rfl k) k) k
theorem b_X9_split_18 {h : Nat} {L : LVs} {st : List AV} {S : ST} {Q : Option AV → ST → Prop} (k : o_il L st S (fun L st S => o_il L st S (fun L st S => t_2 L st S (fun x y => y ≤ x) (fun L st S => V MX9_split h 51 L st S Q) (fun L st S => V MX9_split h 23 L st S Q)) 2) 3) : V MX9_split h 18 L st S Q :=
  v_iload_n dX9_split_18 rfl (fun L st S k => v_iload_n dX9_split_19 rfl (fun L st S k => w_icmp_ge dX9_split_20 (by decide) rfl k) k) k
theorem b_X9_split_23 {h : Nat} {L : LVs} {st : List AV} {S : ST} {Q : Option AV → ST → Prop} (k : o_al L st S (fun L st S => o_il L st S (fun L st S => o_cald L st S (fun L st S => o_c L st S (fun L st S => t_2 L st S (fun x y => x = y) (fun L st S => V MX9_split h 31 L st S Q) (fun L st S => V MX9_split h 37 L st S Q)) (nI 32))) 3) 1) : V MX9_split h 23 L st S Q :=
  v_aload_n dX9_split_23 rfl (fun L st S k => v_iload_n dX9_split_24 rfl (fun L st S k => v_caload dX9_split_25 (fun L st S k => v_bipush dX9_split_26 (by decide) (fun L st S k => w_icmp_ne dX9_split_28 (by decide) rfl k) k) k) k) k
theorem b_X9_split_31 {h : Nat} {L : LVs} {st : List AV} {S : ST} {Q : Option AV → ST → Prop} (k : o_il L st S (fun L st S => o_c L st S (fun L st S => o_iadd L st S (fun L st S => V MX9_split h 44 L st S Q)) (nI 1)) 3) : V MX9_split h 31 L st S Q :=
  v_iload_n dX9_split_31 rfl (fun L st S k => v_iconst dX9_split_32 (by decide) (fun L st S k => v_iadd dX9_split_33 (fun L st S k => v_goto dX9_split_34 (by decide) k) k) k) k
theorem b_X9_split_37 {h : Nat} {L : LVs} {st : List AV} {S : ST} {Q : Option AV → ST → Prop} (k : o_al L st S (fun L st S => o_al L st S (fun L st S => o_il L st S (fun L st S => o_il L st S (fun L st S => V MX9_split h 41 L st S Q) 3) 2) 1) 0) : V MX9_split h 37 L st S Q :=
  v_aload_n dX9_split_37 rfl (fun L st S k => v_aload_n dX9_split_38 rfl (fun L st S k => v_iload_n dX9_split_39 rfl (fun L st S k => v_iload_n dX9_split_40 rfl (fun L st S k => k) k) k) k) k
theorem k_X9_split_41 {h : Nat} {L : LVs} {st : List AV} {S : ST} {Q Q' : Option AV → ST → Prop} {j : Nat} {a0 a1 a2 : AV} (hC : Ct MX9_addWord h [vR 9 j, a0, a1, a2] S Q') (k : ∀ (r : Option AV) (S' : ST), Q' r S' → V MX9_split (h + 1) 44 L (r.toList ++ st) S' Q) (hj : j < NI 9) (hw : wid st ≤ 8) : V MX9_split (h + 1) 41 L (a2 :: a1 :: a0 :: vR 9 j :: st) S Q :=
  v_callV (M' := MX9_addWord) (c := 9) (As := [a0, a1, a2]) dX9_split_41 ml_X9_22 im_X9_addWord se_X9_addWord in_X9 cd_X9_addWord rfl LY_9 np_X9_addWord (by decide) hw hj hC k
theorem b_X9_split_44 {h : Nat} {L : LVs} {st : List AV} {S : ST} {Q : Option AV → ST → Prop} (k : o_is L st S (fun L st S => o_inc L st S (fun L st S => V MX9_split h 10 L st S Q) 4 (nI 1)) 3) : V MX9_split h 44 L st S Q :=
  v_istore_n dX9_split_44 rfl (by decide) (fun L st S k => v_iinc dX9_split_45 (by decide) (by decide) (fun L st S k => v_goto dX9_split_48 (by decide) k) k) k
theorem b_X9_split_51 {h : Nat} {L : LVs} {st : List AV} {S : ST} {Q : Option AV → ST → Prop} (k : t_vr st S Q) : V MX9_split h 51 L st S Q :=
  w_vr dX9_split_51 rfl k
-- QueryForge$Words.wordCount()I
theorem dX9_wordCount_0 : decode cX9_wordCount 0 = .ok (.aload_n 0, 1) := by decide +kernel
theorem dX9_wordCount_1 : decode cX9_wordCount 1 = .ok (.getfield 18, 3) := by decide +kernel
theorem dX9_wordCount_4 : decode cX9_wordCount 4 = .ok (.ireturn, 1) := by decide +kernel
theorem b_X9_wordCount_0 {h : Nat} {L : LVs} {st : List AV} {S : ST} {Q : Option AV → ST → Prop} (k : o_al L st S (fun L st S => o_get L st S (fun L st S => t_ir st S Q) 9 2 (0, 0, 0)) 0) : V MX9_wordCount h 0 L st S Q :=
  v_aload_n dX9_wordCount_0 rfl (fun L st S k => v_get dX9_wordCount_1 rfl iX9 LY_9 rfl (by decide) rfl fl_X9_18 (fun L st S k => w_ir dX9_wordCount_4 rfl k) k) k
-- QueryForge$Words.kindAt(I)I
theorem dX9_kindAt_0 : decode cX9_kindAt 0 = .ok (.iload_n 1, 1) := by decide +kernel
theorem dX9_kindAt_1 : decode cX9_kindAt 1 = .ok (.ifCond .lt 20, 3) := by decide +kernel
theorem dX9_kindAt_4 : decode cX9_kindAt 4 = .ok (.iload_n 1, 1) := by decide +kernel
theorem dX9_kindAt_5 : decode cX9_kindAt 5 = .ok (.aload_n 0, 1) := by decide +kernel
theorem dX9_kindAt_6 : decode cX9_kindAt 6 = .ok (.getfield 18, 3) := by decide +kernel
theorem dX9_kindAt_9 : decode cX9_kindAt 9 = .ok (.if_icmp .ge 12, 3) := by decide +kernel
theorem dX9_kindAt_12 : decode cX9_kindAt 12 = .ok (.aload_n 0, 1) := by decide +kernel
theorem dX9_kindAt_13 : decode cX9_kindAt 13 = .ok (.getfield 9, 3) := by decide +kernel
theorem dX9_kindAt_16 : decode cX9_kindAt 16 = .ok (.iload_n 1, 1) := by decide +kernel
theorem dX9_kindAt_17 : decode cX9_kindAt 17 = .ok (.iaload, 1) := by decide +kernel
theorem dX9_kindAt_18 : decode cX9_kindAt 18 = .ok (.goto 4, 3) := by decide +kernel
theorem dX9_kindAt_21 : decode cX9_kindAt 21 = .ok (.iconst 0, 1) := by decide +kernel
theorem dX9_kindAt_22 : decode cX9_kindAt 22 = .ok (.ireturn, 1) := by decide +kernel
theorem b_X9_kindAt_0 {h : Nat} {L : LVs} {st : List AV} {S : ST} {Q : Option AV → ST → Prop} (k : o_il L st S (fun L st S => t_1 L st S (fun x => x < nI 0) (fun L st S => V MX9_kindAt h 21 L st S Q) (fun L st S => V MX9_kindAt h 4 L st S Q)) 1) : V MX9_kindAt h 0 L st S Q :=
  v_iload_n dX9_kindAt_0 rfl (fun L st S k => w_if_lt dX9_kindAt_1 (by decide) rfl k) k
theorem b_X9_kindAt_4 {h : Nat} {L : LVs} {st : List AV} {S : ST} {Q : Option AV → ST → Prop} (k : o_il L st S (fun L st S => o_al L st S (fun L st S => o_get L st S (fun L st S => t_2 L st S (fun x y => y ≤ x) (fun L st S => V MX9_kindAt h 21 L st S Q) (fun L st S => V MX9_kindAt h 12 L st S Q)) 9 2 (0, 0, 0)) 0) 1) : V MX9_kindAt h 4 L st S Q :=
  v_iload_n dX9_kindAt_4 rfl (fun L st S k => v_aload_n dX9_kindAt_5 rfl (fun L st S k => v_get dX9_kindAt_6 rfl iX9 LY_9 rfl (by decide) rfl fl_X9_18 (fun L st S k => w_icmp_ge dX9_kindAt_9 (by decide) rfl k) k) k) k
theorem b_X9_kindAt_12 {h : Nat} {L : LVs} {st : List AV} {S : ST} {Q : Option AV → ST → Prop} (k : o_al L st S (fun L st S => o_get L st S (fun L st S => o_il L st S (fun L st S => o_iald L st S (fun L st S => V MX9_kindAt h 22 L st S Q)) 1) 9 0 (3, 37, 0)) 0) : V MX9_kindAt h 12 L st S Q :=
  v_aload_n dX9_kindAt_12 rfl (fun L st S k => v_get dX9_kindAt_13 rfl iX9 LY_9 rfl (by decide) rfl fl_X9_9 (fun L st S k => v_iload_n dX9_kindAt_16 rfl (fun L st S k => v_iaload dX9_kindAt_17 (fun L st S k => v_goto dX9_kindAt_18 (by decide) k) k) k) k) k
theorem b_X9_kindAt_21 {h : Nat} {L : LVs} {st : List AV} {S : ST} {Q : Option AV → ST → Prop} (k : o_c L st S (fun L st S => V MX9_kindAt h 22 L st S Q) (nI 0)) : V MX9_kindAt h 21 L st S Q :=
  v_iconst dX9_kindAt_21 (by decide) (fun L st S k => k) k
theorem b_X9_kindAt_22 {h : Nat} {L : LVs} {st : List AV} {S : ST} {Q : Option AV → ST → Prop} (k : t_ir st S Q) : V MX9_kindAt h 22 L st S Q :=
  w_ir dX9_kindAt_22 rfl k
-- QueryForge$Words.contentAt(I)I
theorem dX9_contentAt_0 : decode cX9_contentAt 0 = .ok (.iload_n 1, 1) := by decide +kernel
theorem dX9_contentAt_1 : decode cX9_contentAt 1 = .ok (.ifCond .lt 20, 3) := by decide +kernel
theorem dX9_contentAt_4 : decode cX9_contentAt 4 = .ok (.iload_n 1, 1) := by decide +kernel
theorem dX9_contentAt_5 : decode cX9_contentAt 5 = .ok (.aload_n 0, 1) := by decide +kernel
theorem dX9_contentAt_6 : decode cX9_contentAt 6 = .ok (.getfield 18, 3) := by decide +kernel
theorem dX9_contentAt_9 : decode cX9_contentAt 9 = .ok (.if_icmp .ge 12, 3) := by decide +kernel
theorem dX9_contentAt_12 : decode cX9_contentAt 12 = .ok (.aload_n 0, 1) := by decide +kernel
theorem dX9_contentAt_13 : decode cX9_contentAt 13 = .ok (.getfield 15, 3) := by decide +kernel
theorem dX9_contentAt_16 : decode cX9_contentAt 16 = .ok (.iload_n 1, 1) := by decide +kernel
theorem dX9_contentAt_17 : decode cX9_contentAt 17 = .ok (.iaload, 1) := by decide +kernel
theorem dX9_contentAt_18 : decode cX9_contentAt 18 = .ok (.goto 4, 3) := by decide +kernel
theorem dX9_contentAt_21 : decode cX9_contentAt 21 = .ok (.iconst 0, 1) := by decide +kernel
theorem dX9_contentAt_22 : decode cX9_contentAt 22 = .ok (.ireturn, 1) := by decide +kernel
theorem b_X9_contentAt_0 {h : Nat} {L : LVs} {st : List AV} {S : ST} {Q : Option AV → ST → Prop} (k : o_il L st S (fun L st S => t_1 L st S (fun x => x < nI 0) (fun L st S => V MX9_contentAt h 21 L st S Q) (fun L st S => V MX9_contentAt h 4 L st S Q)) 1) : V MX9_contentAt h 0 L st S Q :=
  v_iload_n dX9_contentAt_0 rfl (fun L st S k => w_if_lt dX9_contentAt_1 (by decide) rfl k) k
theorem b_X9_contentAt_4 {h : Nat} {L : LVs} {st : List AV} {S : ST} {Q : Option AV → ST → Prop} (k : o_il L st S (fun L st S => o_al L st S (fun L st S => o_get L st S (fun L st S => t_2 L st S (fun x y => y ≤ x) (fun L st S => V MX9_contentAt h 21 L st S Q) (fun L st S => V MX9_contentAt h 12 L st S Q)) 9 2 (0, 0, 0)) 0) 1) : V MX9_contentAt h 4 L st S Q :=
  v_iload_n dX9_contentAt_4 rfl (fun L st S k => v_aload_n dX9_contentAt_5 rfl (fun L st S k => v_get dX9_contentAt_6 rfl iX9 LY_9 rfl (by decide) rfl fl_X9_18 (fun L st S k => w_icmp_ge dX9_contentAt_9 (by decide) rfl k) k) k) k
theorem b_X9_contentAt_12 {h : Nat} {L : LVs} {st : List AV} {S : ST} {Q : Option AV → ST → Prop} (k : o_al L st S (fun L st S => o_get L st S (fun L st S => o_il L st S (fun L st S => o_iald L st S (fun L st S => V MX9_contentAt h 22 L st S Q)) 1) 9 1 (3, 38, 0)) 0) : V MX9_contentAt h 12 L st S Q :=
  v_aload_n dX9_contentAt_12 rfl (fun L st S k => v_get dX9_contentAt_13 rfl iX9 LY_9 rfl (by decide) rfl fl_X9_15 (fun L st S k => v_iload_n dX9_contentAt_16 rfl (fun L st S k => v_iaload dX9_contentAt_17 (fun L st S k => v_goto dX9_contentAt_18 (by decide) k) k) k) k) k
theorem b_X9_contentAt_21 {h : Nat} {L : LVs} {st : List AV} {S : ST} {Q : Option AV → ST → Prop} (k : o_c L st S (fun L st S => V MX9_contentAt h 22 L st S Q) (nI 0)) : V MX9_contentAt h 21 L st S Q :=
  v_iconst dX9_contentAt_21 (by decide) (fun L st S k => k) k
theorem b_X9_contentAt_22 {h : Nat} {L : LVs} {st : List AV} {S : ST} {Q : Option AV → ST → Prop} (k : t_ir st S Q) : V MX9_contentAt h 22 L st S Q :=
  w_ir dX9_contentAt_22 rfl k
-- QueryForge$Words.addWord([CII)I
theorem dX9_addWord_0 : decode cX9_addWord 0 = .ok (.aload_n 1, 1) := by decide +kernel
theorem dX9_addWord_1 : decode cX9_addWord 1 = .ok (.iload_n 3, 1) := by decide +kernel
theorem dX9_addWord_2 : decode cX9_addWord 2 = .ok (.caload, 1) := by decide +kernel
theorem dX9_addWord_3 : decode cX9_addWord 3 = .ok (.istore 4, 2) := by decide +kernel
theorem dX9_addWord_5 : decode cX9_addWord 5 = .ok (.iload 4, 2) := by decide +kernel
theorem dX9_addWord_7 : decode cX9_addWord 7 = .ok (.invokestatic 26, 3) := by decide +kernel
theorem dX9_addWord_10 : decode cX9_addWord 10 = .ok (.ifCond .eq 11, 3) := by decide +kernel
theorem dX9_addWord_13 : decode cX9_addWord 13 = .ok (.aload_n 0, 1) := by decide +kernel
theorem dX9_addWord_14 : decode cX9_addWord 14 = .ok (.aload_n 1, 1) := by decide +kernel
theorem dX9_addWord_15 : decode cX9_addWord 15 = .ok (.iload_n 2, 1) := by decide +kernel
theorem dX9_addWord_16 : decode cX9_addWord 16 = .ok (.iload_n 3, 1) := by decide +kernel
theorem dX9_addWord_17 : decode cX9_addWord 17 = .ok (.invokevirtual 30, 3) := by decide +kernel
theorem dX9_addWord_20 : decode cX9_addWord 20 = .ok (.ireturn, 1) := by decide +kernel
theorem dX9_addWord_21 : decode cX9_addWord 21 = .ok (.iload 4, 2) := by decide +kernel
theorem dX9_addWord_23 : decode cX9_addWord 23 = .ok (.invokestatic 33, 3) := by decide +kernel
theorem dX9_addWord_26 : decode cX9_addWord 26 = .ok (.ifCond .eq 11, 3) := by decide +kernel
theorem dX9_addWord_29 : decode cX9_addWord 29 = .ok (.aload_n 0, 1) := by decide +kernel
theorem dX9_addWord_30 : decode cX9_addWord 30 = .ok (.aload_n 1, 1) := by decide +kernel
theorem dX9_addWord_31 : decode cX9_addWord 31 = .ok (.iload_n 2, 1) := by decide +kernel
theorem dX9_addWord_32 : decode cX9_addWord 32 = .ok (.iload_n 3, 1) := by decide +kernel
theorem dX9_addWord_33 : decode cX9_addWord 33 = .ok (.invokevirtual 36, 3) := by decide +kernel
theorem dX9_addWord_36 : decode cX9_addWord 36 = .ok (.ireturn, 1) := by decide +kernel
theorem dX9_addWord_37 : decode cX9_addWord 37 = .ok (.iload 4, 2) := by decide +kernel
theorem dX9_addWord_39 : decode cX9_addWord 39 = .ok (.bipush 39, 2) := by decide +kernel
theorem dX9_addWord_41 : decode cX9_addWord 41 = .ok (.if_icmp .ne 13, 3) := by decide +kernel
theorem dX9_addWord_44 : decode cX9_addWord 44 = .ok (.aload_n 0, 1) := by decide +kernel
theorem dX9_addWord_45 : decode cX9_addWord 45 = .ok (.aload_n 1, 1) := by decide +kernel
theorem dX9_addWord_46 : decode cX9_addWord 46 = .ok (.iload_n 2, 1) := by decide +kernel
theorem dX9_addWord_47 : decode cX9_addWord 47 = .ok (.iload_n 3, 1) := by decide +kernel
theorem dX9_addWord_48 : decode cX9_addWord 48 = .ok (.invokevirtual 39, 3) := by decide +kernel
theorem dX9_addWord_51 : decode cX9_addWord 51 = .ok (.goto 10, 3) := by decide +kernel
theorem dX9_addWord_54 : decode cX9_addWord 54 = .ok (.aload_n 0, 1) := by decide +kernel
theorem dX9_addWord_55 : decode cX9_addWord 55 = .ok (.aload_n 1, 1) := by decide +kernel
theorem dX9_addWord_56 : decode cX9_addWord 56 = .ok (.iload_n 2, 1) := by decide +kernel
theorem dX9_addWord_57 : decode cX9_addWord 57 = .ok (.iload_n 3, 1) := by decide +kernel
theorem dX9_addWord_58 : decode cX9_addWord 58 = .ok (.invokevirtual 42, 3) := by decide +kernel
theorem dX9_addWord_61 : decode cX9_addWord 61 = .ok (.ireturn, 1) := by decide +kernel
theorem b_X9_addWord_0 {h : Nat} {L : LVs} {st : List AV} {S : ST} {Q : Option AV → ST → Prop} (k : o_al L st S (fun L st S => o_il L st S (fun L st S => o_cald L st S (fun L st S => o_is L st S (fun L st S => o_il L st S (fun L st S => V MX9_addWord h 7 L st S Q) 4) 4)) 3) 1) : V MX9_addWord h 0 L st S Q :=
  v_aload_n dX9_addWord_0 rfl (fun L st S k => v_iload_n dX9_addWord_1 rfl (fun L st S k => v_caload dX9_addWord_2 (fun L st S k => v_istore dX9_addWord_3 (by decide) (fun L st S k => v_iload dX9_addWord_5 (fun L st S k => k) k) k) k) k) k
theorem k_X9_addWord_7 {h : Nat} {L : LVs} {st : List AV} {S : ST} {Q Q' : Option AV → ST → Prop} {a0 : AV} (hC : Ct MX9_isLetter h [a0] S Q') (k : ∀ (r : Option AV) (S' : ST), Q' r S' → V MX9_addWord (h + 1) 10 L (r.toList ++ st) S' Q) (hw : wid st ≤ 8) : V MX9_addWord (h + 1) 7 L (a0 :: st) S Q :=
  v_callS (M' := MX9_isLetter) (As := [a0]) dX9_addWord_7 ml_X9_26 sm_X9_isLetter in_X9 cd_X9_isLetter ⟨rfl, np_X9_isLetter⟩ (by decide) hw hC k
theorem b_X9_addWord_10 {h : Nat} {L : LVs} {st : List AV} {S : ST} {Q : Option AV → ST → Prop} (k : t_1 L st S (fun x => x = nI 0) (fun L st S => V MX9_addWord h 21 L st S Q) (fun L st S => V MX9_addWord h 13 L st S Q)) : V MX9_addWord h 10 L st S Q :=
  w_if_eq dX9_addWord_10 (by decide) rfl k
theorem b_X9_addWord_13 {h : Nat} {L : LVs} {st : List AV} {S : ST} {Q : Option AV → ST → Prop} (k : o_al L st S (fun L st S => o_al L st S (fun L st S => o_il L st S (fun L st S => o_il L st S (fun L st S => V MX9_addWord h 17 L st S Q) 3) 2) 1) 0) : V MX9_addWord h 13 L st S Q :=
  v_aload_n dX9_addWord_13 rfl (fun L st S k => v_aload_n dX9_addWord_14 rfl (fun L st S k => v_iload_n dX9_addWord_15 rfl (fun L st S k => v_iload_n dX9_addWord_16 rfl (fun L st S k => k) k) k) k) k
theorem k_X9_addWord_17 {h : Nat} {L : LVs} {st : List AV} {S : ST} {Q Q' : Option AV → ST → Prop} {j : Nat} {a0 a1 a2 : AV} (hC : Ct MX9_addLetters h [vR 9 j, a0, a1, a2] S Q') (k : ∀ (r : Option AV) (S' : ST), Q' r S' → V MX9_addWord (h + 1) 20 L (r.toList ++ st) S' Q) (hj : j < NI 9) (hw : wid st ≤ 8) : V MX9_addWord (h + 1) 17 L (a2 :: a1 :: a0 :: vR 9 j :: st) S Q :=
  v_callV (M' := MX9_addLetters) (c := 9) (As := [a0, a1, a2]) dX9_addWord_17 ml_X9_30 im_X9_addLetters se_X9_addLetters in_X9 cd_X9_addLetters rfl LY_9 np_X9_addLetters (by decide) hw hj hC k
theorem b_X9_addWord_20 {h : Nat} {L : LVs} {st : List AV} {S : ST} {Q : Option AV → ST → Prop} (k : t_ir st S Q) : V MX9_addWord h 20 L st S Q :=
  w_ir dX9_addWord_20 rfl k
theorem b_X9_addWord_21 {h : Nat} {L : LVs} {st : List AV} {S : ST} {Q : Option AV → ST → Prop} (k : o_il L st S (fun L st S => V MX9_addWord h 23 L st S Q) 4) : V MX9_addWord h 21 L st S Q :=
  v_iload dX9_addWord_21 (fun L st S k => k) k
theorem k_X9_addWord_23 {h : Nat} {L : LVs} {st : List AV} {S : ST} {Q Q' : Option AV → ST → Prop} {a0 : AV} (hC : Ct MX9_isDigit h [a0] S Q') (k : ∀ (r : Option AV) (S' : ST), Q' r S' → V MX9_addWord (h + 1) 26 L (r.toList ++ st) S' Q) (hw : wid st ≤ 8) : V MX9_addWord (h + 1) 23 L (a0 :: st) S Q :=
  v_callS (M' := MX9_isDigit) (As := [a0]) dX9_addWord_23 ml_X9_33 sm_X9_isDigit in_X9 cd_X9_isDigit ⟨rfl, np_X9_isDigit⟩ (by decide) hw hC k
theorem b_X9_addWord_26 {h : Nat} {L : LVs} {st : List AV} {S : ST} {Q : Option AV → ST → Prop} (k : t_1 L st S (fun x => x = nI 0) (fun L st S => V MX9_addWord h 37 L st S Q) (fun L st S => V MX9_addWord h 29 L st S Q)) : V MX9_addWord h 26 L st S Q :=
  w_if_eq dX9_addWord_26 (by decide) rfl k
theorem b_X9_addWord_29 {h : Nat} {L : LVs} {st : List AV} {S : ST} {Q : Option AV → ST → Prop} (k : o_al L st S (fun L st S => o_al L st S (fun L st S => o_il L st S (fun L st S => o_il L st S (fun L st S => V MX9_addWord h 33 L st S Q) 3) 2) 1) 0) : V MX9_addWord h 29 L st S Q :=
  v_aload_n dX9_addWord_29 rfl (fun L st S k => v_aload_n dX9_addWord_30 rfl (fun L st S k => v_iload_n dX9_addWord_31 rfl (fun L st S k => v_iload_n dX9_addWord_32 rfl (fun L st S k => k) k) k) k) k
theorem k_X9_addWord_33 {h : Nat} {L : LVs} {st : List AV} {S : ST} {Q Q' : Option AV → ST → Prop} {j : Nat} {a0 a1 a2 : AV} (hC : Ct MX9_addDigits h [vR 9 j, a0, a1, a2] S Q') (k : ∀ (r : Option AV) (S' : ST), Q' r S' → V MX9_addWord (h + 1) 36 L (r.toList ++ st) S' Q) (hj : j < NI 9) (hw : wid st ≤ 8) : V MX9_addWord (h + 1) 33 L (a2 :: a1 :: a0 :: vR 9 j :: st) S Q :=
  v_callV (M' := MX9_addDigits) (c := 9) (As := [a0, a1, a2]) dX9_addWord_33 ml_X9_36 im_X9_addDigits se_X9_addDigits in_X9 cd_X9_addDigits rfl LY_9 np_X9_addDigits (by decide) hw hj hC k
theorem b_X9_addWord_36 {h : Nat} {L : LVs} {st : List AV} {S : ST} {Q : Option AV → ST → Prop} (k : t_ir st S Q) : V MX9_addWord h 36 L st S Q :=
  w_ir dX9_addWord_36 rfl k
theorem b_X9_addWord_37 {h : Nat} {L : LVs} {st : List AV} {S : ST} {Q : Option AV → ST → Prop} (k : o_il L st S (fun L st S => o_c L st S (fun L st S => t_2 L st S (fun x y => x = y) (fun L st S => V MX9_addWord h 44 L st S Q) (fun L st S => V MX9_addWord h 54 L st S Q)) (nI 39)) 4) : V MX9_addWord h 37 L st S Q :=
  v_iload dX9_addWord_37 (fun L st S k => v_bipush dX9_addWord_39 (by decide) (fun L st S k => w_icmp_ne dX9_addWord_41 (by decide) rfl k) k) k
theorem b_X9_addWord_44 {h : Nat} {L : LVs} {st : List AV} {S : ST} {Q : Option AV → ST → Prop} (k : o_al L st S (fun L st S => o_al L st S (fun L st S => o_il L st S (fun L st S => o_il L st S (fun L st S => V MX9_addWord h 48 L st S Q) 3) 2) 1) 0) : V MX9_addWord h 44 L st S Q :=
  v_aload_n dX9_addWord_44 rfl (fun L st S k => v_aload_n dX9_addWord_45 rfl (fun L st S k => v_iload_n dX9_addWord_46 rfl (fun L st S k => v_iload_n dX9_addWord_47 rfl (fun L st S k => k) k) k) k) k
theorem k_X9_addWord_48 {h : Nat} {L : LVs} {st : List AV} {S : ST} {Q Q' : Option AV → ST → Prop} {j : Nat} {a0 a1 a2 : AV} (hC : Ct MX9_addText h [vR 9 j, a0, a1, a2] S Q') (k : ∀ (r : Option AV) (S' : ST), Q' r S' → V MX9_addWord (h + 1) 51 L (r.toList ++ st) S' Q) (hj : j < NI 9) (hw : wid st ≤ 8) : V MX9_addWord (h + 1) 48 L (a2 :: a1 :: a0 :: vR 9 j :: st) S Q :=
  v_callV (M' := MX9_addText) (c := 9) (As := [a0, a1, a2]) dX9_addWord_48 ml_X9_39 im_X9_addText se_X9_addText in_X9 cd_X9_addText rfl LY_9 np_X9_addText (by decide) hw hj hC k
theorem b_X9_addWord_51 {h : Nat} {L : LVs} {st : List AV} {S : ST} {Q : Option AV → ST → Prop} (k : V MX9_addWord h 61 L st S Q) : V MX9_addWord h 51 L st S Q :=
  v_goto dX9_addWord_51 (by decide) k
theorem b_X9_addWord_54 {h : Nat} {L : LVs} {st : List AV} {S : ST} {Q : Option AV → ST → Prop} (k : o_al L st S (fun L st S => o_al L st S (fun L st S => o_il L st S (fun L st S => o_il L st S (fun L st S => V MX9_addWord h 58 L st S Q) 3) 2) 1) 0) : V MX9_addWord h 54 L st S Q :=
  v_aload_n dX9_addWord_54 rfl (fun L st S k => v_aload_n dX9_addWord_55 rfl (fun L st S k => v_iload_n dX9_addWord_56 rfl (fun L st S k => v_iload_n dX9_addWord_57 rfl (fun L st S k => k) k) k) k) k
theorem k_X9_addWord_58 {h : Nat} {L : LVs} {st : List AV} {S : ST} {Q Q' : Option AV → ST → Prop} {j : Nat} {a0 a1 a2 : AV} (hC : Ct MX9_addSign h [vR 9 j, a0, a1, a2] S Q') (k : ∀ (r : Option AV) (S' : ST), Q' r S' → V MX9_addWord (h + 1) 61 L (r.toList ++ st) S' Q) (hj : j < NI 9) (hw : wid st ≤ 8) : V MX9_addWord (h + 1) 58 L (a2 :: a1 :: a0 :: vR 9 j :: st) S Q :=
  v_callV (M' := MX9_addSign) (c := 9) (As := [a0, a1, a2]) dX9_addWord_58 ml_X9_42 im_X9_addSign se_X9_addSign in_X9 cd_X9_addSign rfl LY_9 np_X9_addSign (by decide) hw hj hC k
theorem b_X9_addWord_61 {h : Nat} {L : LVs} {st : List AV} {S : ST} {Q : Option AV → ST → Prop} (k : t_ir st S Q) : V MX9_addWord h 61 L st S Q :=
  w_ir dX9_addWord_61 rfl k
-- QueryForge$Words.addLetters([CII)I
theorem dX9_addLetters_0 : decode cX9_addLetters 0 = .ok (.iload_n 3, 1) := by decide +kernel
theorem dX9_addLetters_1 : decode cX9_addLetters 1 = .ok (.istore 4, 2) := by decide +kernel
theorem dX9_addLetters_3 : decode cX9_addLetters 3 = .ok (.iconst 0, 1) := by decide +kernel
theorem dX9_addLetters_4 : decode cX9_addLetters 4 = .ok (.istore 5, 2) := by decide +kernel
theorem dX9_addLetters_6 : decode cX9_addLetters 6 = .ok (.iload 4, 2) := by decide +kernel
theorem dX9_addLetters_8 : decode cX9_addLetters 8 = .ok (.iload_n 2, 1) := by decide +kernel
theorem dX9_addLetters_9 : decode cX9_addLetters 9 = .ok (.if_icmp .ge 36, 3) := by decide +kernel
theorem dX9_addLetters_12 : decode cX9_addLetters 12 = .ok (.aload_n 1, 1) := by decide +kernel
theorem dX9_addLetters_13 : decode cX9_addLetters 13 = .ok (.iload 4, 2) := by decide +kernel
theorem dX9_addLetters_15 : decode cX9_addLetters 15 = .ok (.caload, 1) := by decide +kernel
theorem dX9_addLetters_16 : decode cX9_addLetters 16 = .ok (.invokestatic 26, 3) := by decide +kernel
theorem dX9_addLetters_19 : decode cX9_addLetters 19 = .ok (.ifCond .eq 26, 3) := by decide +kernel
theorem dX9_addLetters_22 : decode cX9_addLetters 22 = .ok (.iload 5, 2) := by decide +kernel
theorem dX9_addLetters_24 : decode cX9_addLetters 24 = .ok (.bipush 32, 2) := by decide +kernel
theorem dX9_addLetters_26 : decode cX9_addLetters 26 = .ok (.imul, 1) := by decide +kernel
theorem dX9_addLetters_27 : decode cX9_addLetters 27 = .ok (.aload_n 1, 1) := by decide +kernel
theorem dX9_addLetters_28 : decode cX9_addLetters 28 = .ok (.iload 4, 2) := by decide +kernel
theorem dX9_addLetters_30 : decode cX9_addLetters 30 = .ok (.caload, 1) := by decide +kernel
theorem dX9_addLetters_31 : decode cX9_addLetters 31 = .ok (.bipush 97, 2) := by decide +kernel
theorem dX9_addLetters_33 : decode cX9_addLetters 33 = .ok (.isub, 1) := by decide +kernel
theorem dX9_addLetters_34 : decode cX9_addLetters 34 = .ok (.iconst 1, 1) := by decide +kernel
theorem dX9_addLetters_35 : decode cX9_addLetters 35 = .ok (.iadd, 1) := by decide +kernel
theorem dX9_addLetters_36 : decode cX9_addLetters 36 = .ok (.iadd, 1) := by decide +kernel
theorem dX9_addLetters_37 : decode cX9_addLetters 37 = .ok (.istore 5, 2) := by decide +kernel
theorem dX9_addLetters_39 : decode cX9_addLetters 39 = .ok (.iinc 4 1, 3) := by decide +kernel
theorem dX9_addLetters_42 : decode cX9_addLetters 42 = .ok (.goto (-36), 3) := by decide +kernel
theorem dX9_addLetters_45 : decode cX9_addLetters 45 = .ok (.iload 4, 2) := by decide +kernel
theorem dX9_addLetters_47 : decode cX9_addLetters 47 = .ok (.iload_n 3, 1) := by decide +kernel
theorem dX9_addLetters_48 : decode cX9_addLetters 48 = .ok (.isub, 1) := by decide +kernel
theorem dX9_addLetters_49 : decode cX9_addLetters 49 = .ok (.bipush 6, 2) := by decide +kernel
theorem dX9_addLetters_51 : decode cX9_addLetters 51 = .ok (.if_icmp .le 7, 3) := by decide +kernel
theorem dX9_addLetters_54 : decode cX9_addLetters 54 = .ok (.iconst 1, 1) := by decide +kernel
theorem dX9_addLetters_55 : decode cX9_addLetters 55 = .ok (.goto 4, 3) := by decide +kernel
theorem dX9_addLetters_58 : decode cX9_addLetters 58 = .ok (.iconst 0, 1) := by decide +kernel
theorem dX9_addLetters_59 : decode cX9_addLetters 59 = .ok (.istore 6, 2) := by decide +kernel
theorem dX9_addLetters_61 : decode cX9_addLetters 61 = .ok (.aload_n 0, 1) := by decide +kernel
theorem dX9_addLetters_62 : decode cX9_addLetters 62 = .ok (.iload 6, 2) := by decide +kernel
theorem dX9_addLetters_64 : decode cX9_addLetters 64 = .ok (.ifCond .eq 7, 3) := by decide +kernel
theorem dX9_addLetters_67 : decode cX9_addLetters 67 = .ok (.iconst 1, 1) := by decide +kernel
theorem dX9_addLetters_68 : decode cX9_addLetters 68 = .ok (.goto 10, 3) := by decide +kernel
theorem dX9_addLetters_71 : decode cX9_addLetters 71 = .ok (.aload_n 1, 1) := by decide +kernel
theorem dX9_addLetters_72 : decode cX9_addLetters 72 = .ok (.iload_n 3, 1) := by decide +kernel
theorem dX9_addLetters_73 : decode cX9_addLetters 73 = .ok (.iload 4, 2) := by decide +kernel
theorem dX9_addLetters_75 : decode cX9_addLetters 75 = .ok (.invokestatic 45, 3) := by decide +kernel
theorem dX9_addLetters_78 : decode cX9_addLetters 78 = .ok (.iload 5, 2) := by decide +kernel
theorem dX9_addLetters_80 : decode cX9_addLetters 80 = .ok (.invokevirtual 48, 3) := by decide +kernel
theorem dX9_addLetters_83 : decode cX9_addLetters 83 = .ok (.iload 4, 2) := by decide +kernel
theorem dX9_addLetters_85 : decode cX9_addLetters 85 = .ok (.ireturn, 1) := by decide +kernel
theorem b_X9_addLetters_0 {h : Nat} {L : LVs} {st : List AV} {S : ST} {Q : Option AV → ST → Prop} (k : o_il L st S (fun L st S => o_is L st S (fun L st S => o_c L st S (fun L st S => o_is L st S (fun L st S => V MX9_addLetters h 6 L st S Q) 5) (nI 0)) 4) 3) : V MX9_addLetters h 0 L st S Q :=
  v_iload_n dX9_addLetters_0 rfl (fun L st S k => v_istore dX9_addLetters_1 (by decide) (fun L st S k => v_iconst dX9_addLetters_3 (by decide) (fun L st S k => v_istore dX9_addLetters_4 (by decide) (fun L st S k => k) k) k) k) k
theorem b_X9_addLetters_6 {h : Nat} {L : LVs} {st : List AV} {S : ST} {Q : Option AV → ST → Prop} (k : o_il L st S (fun L st S => o_il L st S (fun L st S => t_2 L st S (fun x y => y ≤ x) (fun L st S => V MX9_addLetters h 45 L st S Q) (fun L st S => V MX9_addLetters h 12 L st S Q)) 2) 4) : V MX9_addLetters h 6 L st S Q :=
  v_iload dX9_addLetters_6 (fun L st S k => v_iload_n dX9_addLetters_8 rfl (fun L st S k => w_icmp_ge dX9_addLetters_9 (by decide) rfl k) k) k
theorem b_X9_addLetters_12 {h : Nat} {L : LVs} {st : List AV} {S : ST} {Q : Option AV → ST → Prop} (k : o_al L st S (fun L st S => o_il L st S (fun L st S => o_cald L st S (fun L st S => V MX9_addLetters h 16 L st S Q)) 4) 1) : V MX9_addLetters h 12 L st S Q :=
  v_aload_n dX9_addLetters_12 rfl (fun L st S k => v_iload dX9_addLetters_13 (fun L st S k => v_caload dX9_addLetters_15 (fun L st S k => k) k) k) k
theorem k_X9_addLetters_16 {h : Nat} {L : LVs} {st : List AV} {S : ST} {Q Q' : Option AV → ST → Prop} {a0 : AV} (hC : Ct MX9_isLetter h [a0] S Q') (k : ∀ (r : Option AV) (S' : ST), Q' r S' → V MX9_addLetters (h + 1) 19 L (r.toList ++ st) S' Q) (hw : wid st ≤ 8) : V MX9_addLetters (h + 1) 16 L (a0 :: st) S Q :=
  v_callS (M' := MX9_isLetter) (As := [a0]) dX9_addLetters_16 ml_X9_26 sm_X9_isLetter in_X9 cd_X9_isLetter ⟨rfl, np_X9_isLetter⟩ (by decide) hw hC k
theorem b_X9_addLetters_19 {h : Nat} {L : LVs} {st : List AV} {S : ST} {Q : Option AV → ST → Prop} (k : t_1 L st S (fun x => x = nI 0) (fun L st S => V MX9_addLetters h 45 L st S Q) (fun L st S => V MX9_addLetters h 22 L st S Q)) : V MX9_addLetters h 19 L st S Q :=
  w_if_eq dX9_addLetters_19 (by decide) rfl k
theorem b_X9_addLetters_22 {h : Nat} {L : LVs} {st : List AV} {S : ST} {Q : Option AV → ST → Prop} (k : o_il L st S (fun L st S => o_c L st S (fun L st S => o_imul L st S (fun L st S => o_al L st S (fun L st S => o_il L st S (fun L st S => o_cald L st S (fun L st S => o_c L st S (fun L st S => o_isub L st S (fun L st S => o_c L st S (fun L st S => o_iadd L st S (fun L st S => o_iadd L st S (fun L st S => o_is L st S (fun L st S => o_inc L st S (fun L st S => V MX9_addLetters h 6 L st S Q) 4 (nI 1)) 5))) (nI 1))) (nI 97))) 4) 1)) (nI 32)) 5) : V MX9_addLetters h 22 L st S Q :=
  v_iload dX9_addLetters_22 (fun L st S k => v_bipush dX9_addLetters_24 (by decide) (fun L st S k => v_imul dX9_addLetters_26 (fun L st S k => v_aload_n dX9_addLetters_27 rfl (fun L st S k => v_iload dX9_addLetters_28 (fun L st S k => v_caload dX9_addLetters_30 (fun L st S k => v_bipush dX9_addLetters_31 (by decide) (fun L st S k => v_isub dX9_addLetters_33 (fun L st S k => v_iconst dX9_addLetters_34 (by decide) (fun L st S k => v_iadd dX9_addLetters_35 (fun L st S k => v_iadd dX9_addLetters_36 (fun L st S k => v_istore dX9_addLetters_37 (by decide) (fun L st S k => v_iinc dX9_addLetters_39 (by decide) (by decide) (fun L st S k => v_goto dX9_addLetters_42 (by decide) k) k) k) k) k) k) k) k) k) k) k) k) k) k
theorem b_X9_addLetters_45 {h : Nat} {L : LVs} {st : List AV} {S : ST} {Q : Option AV → ST → Prop} (k : o_il L st S (fun L st S => o_il L st S (fun L st S => o_isub L st S (fun L st S => o_c L st S (fun L st S => t_2 L st S (fun x y => x ≤ y) (fun L st S => V MX9_addLetters h 58 L st S Q) (fun L st S => V MX9_addLetters h 54 L st S Q)) (nI 6))) 3) 4) : V MX9_addLetters h 45 L st S Q :=
  v_iload dX9_addLetters_45 (fun L st S k => v_iload_n dX9_addLetters_47 rfl (fun L st S k => v_isub dX9_addLetters_48 (fun L st S k => v_bipush dX9_addLetters_49 (by decide) (fun L st S k => w_icmp_le dX9_addLetters_51 (by decide) rfl k) k) k) k) k
theorem b_X9_addLetters_54 {h : Nat} {L : LVs} {st : List AV} {S : ST} {Q : Option AV → ST → Prop} (k : o_c L st S (fun L st S => V MX9_addLetters h 59 L st S Q) (nI 1)) : V MX9_addLetters h 54 L st S Q :=
  v_iconst dX9_addLetters_54 (by decide) (fun L st S k => v_goto dX9_addLetters_55 (by decide) k) k
theorem b_X9_addLetters_58 {h : Nat} {L : LVs} {st : List AV} {S : ST} {Q : Option AV → ST → Prop} (k : o_c L st S (fun L st S => V MX9_addLetters h 59 L st S Q) (nI 0)) : V MX9_addLetters h 58 L st S Q :=
  v_iconst dX9_addLetters_58 (by decide) (fun L st S k => k) k
theorem b_X9_addLetters_59 {h : Nat} {L : LVs} {st : List AV} {S : ST} {Q : Option AV → ST → Prop} (k : o_is L st S (fun L st S => o_al L st S (fun L st S => o_il L st S (fun L st S => t_1 L st S (fun x => x = nI 0) (fun L st S => V MX9_addLetters h 71 L st S Q) (fun L st S => V MX9_addLetters h 67 L st S Q)) 6) 0) 6) : V MX9_addLetters h 59 L st S Q :=
  v_istore dX9_addLetters_59 (by decide) (fun L st S k => v_aload_n dX9_addLetters_61 rfl (fun L st S k => v_iload dX9_addLetters_62 (fun L st S k => w_if_eq dX9_addLetters_64 (by decide) rfl k) k) k) k
theorem b_X9_addLetters_67 {h : Nat} {L : LVs} {st : List AV} {S : ST} {Q : Option AV → ST → Prop} (k : o_c L st S (fun L st S => V MX9_addLetters h 78 L st S Q) (nI 1)) : V MX9_addLetters h 67 L st S Q :=
  v_iconst dX9_addLetters_67 (by decide) (fun L st S k => v_goto dX9_addLetters_68 (by decide) k) k
theorem b_X9_addLetters_71 {h : Nat} {L : LVs} {st : List AV} {S : ST} {Q : Option AV → ST → Prop} (k : o_al L st S (fun L st S => o_il L st S (fun L st S => o_il L st S (fun L st S => V MX9_addLetters h 75 L st S Q) 4) 3) 1) : V MX9_addLetters h 71 L st S Q :=
  v_aload_n dX9_addLetters_71 rfl (fun L st S k => v_iload_n dX9_addLetters_72 rfl (fun L st S k => v_iload dX9_addLetters_73 (fun L st S k => k) k) k) k
theorem k_X9_addLetters_75 {h : Nat} {L : LVs} {st : List AV} {S : ST} {Q Q' : Option AV → ST → Prop} {a0 a1 a2 : AV} (hC : Ct MX9_kindOfLetters h [a0, a1, a2] S Q') (k : ∀ (r : Option AV) (S' : ST), Q' r S' → V MX9_addLetters (h + 1) 78 L (r.toList ++ st) S' Q) (hw : wid st ≤ 8) : V MX9_addLetters (h + 1) 75 L (a2 :: a1 :: a0 :: st) S Q :=
  v_callS (M' := MX9_kindOfLetters) (As := [a0, a1, a2]) dX9_addLetters_75 ml_X9_45 sm_X9_kindOfLetters in_X9 cd_X9_kindOfLetters ⟨rfl, np_X9_kindOfLetters⟩ (by decide) hw hC k
theorem b_X9_addLetters_78 {h : Nat} {L : LVs} {st : List AV} {S : ST} {Q : Option AV → ST → Prop} (k : o_il L st S (fun L st S => V MX9_addLetters h 80 L st S Q) 5) : V MX9_addLetters h 78 L st S Q :=
  v_iload dX9_addLetters_78 (fun L st S k => k) k
theorem k_X9_addLetters_80 {h : Nat} {L : LVs} {st : List AV} {S : ST} {Q Q' : Option AV → ST → Prop} {j : Nat} {a0 a1 : AV} (hC : Ct MX9_add h [vR 9 j, a0, a1] S Q') (k : ∀ (r : Option AV) (S' : ST), Q' r S' → V MX9_addLetters (h + 1) 83 L (r.toList ++ st) S' Q) (hj : j < NI 9) (hw : wid st ≤ 8) : V MX9_addLetters (h + 1) 80 L (a1 :: a0 :: vR 9 j :: st) S Q :=
  v_callV (M' := MX9_add) (c := 9) (As := [a0, a1]) dX9_addLetters_80 ml_X9_48 im_X9_add se_X9_add in_X9 cd_X9_add rfl LY_9 np_X9_add (by decide) hw hj hC k
theorem b_X9_addLetters_83 {h : Nat} {L : LVs} {st : List AV} {S : ST} {Q : Option AV → ST → Prop} (k : o_il L st S (fun L st S => t_ir st S Q) 4) : V MX9_addLetters h 83 L st S Q :=
  v_iload dX9_addLetters_83 (fun L st S k => w_ir dX9_addLetters_85 rfl k) k
-- QueryForge$Words.addDigits([CII)I
theorem dX9_addDigits_0 : decode cX9_addDigits 0 = .ok (.iload_n 3, 1) := by decide +kernel
theorem dX9_addDigits_1 : decode cX9_addDigits 1 = .ok (.istore 4, 2) := by decide +kernel
theorem dX9_addDigits_3 : decode cX9_addDigits 3 = .ok (.lconst 0, 1) := by decide +kernel
theorem dX9_addDigits_4 : decode cX9_addDigits 4 = .ok (.lstore 5, 2) := by decide +kernel
theorem dX9_addDigits_6 : decode cX9_addDigits 6 = .ok (.iload 4, 2) := by decide +kernel
theorem dX9_addDigits_8 : decode cX9_addDigits 8 = .ok (.iload_n 2, 1) := by decide +kernel
theorem dX9_addDigits_9 : decode cX9_addDigits 9 = .ok (.if_icmp .ge 45, 3) := by decide +kernel
theorem dX9_addDigits_12 : decode cX9_addDigits 12 = .ok (.aload_n 1, 1) := by decide +kernel
theorem dX9_addDigits_13 : decode cX9_addDigits 13 = .ok (.iload 4, 2) := by decide +kernel
theorem dX9_addDigits_15 : decode cX9_addDigits 15 = .ok (.caload, 1) := by decide +kernel
theorem dX9_addDigits_16 : decode cX9_addDigits 16 = .ok (.invokestatic 33, 3) := by decide +kernel
theorem dX9_addDigits_19 : decode cX9_addDigits 19 = .ok (.ifCond .eq 35, 3) := by decide +kernel
theorem dX9_addDigits_22 : decode cX9_addDigits 22 = .ok (.iload 4, 2) := by decide +kernel
theorem dX9_addDigits_24 : decode cX9_addDigits 24 = .ok (.iload_n 3, 1) := by decide +kernel
theorem dX9_addDigits_25 : decode cX9_addDigits 25 = .ok (.isub, 1) := by decide +kernel
theorem dX9_addDigits_26 : decode cX9_addDigits 26 = .ok (.bipush 10, 2) := by decide +kernel
theorem dX9_addDigits_28 : decode cX9_addDigits 28 = .ok (.if_icmp .ge 20, 3) := by decide +kernel
theorem dX9_addDigits_31 : decode cX9_addDigits 31 = .ok (.lload 5, 2) := by decide +kernel
theorem dX9_addDigits_33 : decode cX9_addDigits 33 = .ok (.ldc2_w 52, 3) := by decide +kernel
theorem dX9_addDigits_36 : decode cX9_addDigits 36 = .ok (.lmul, 1) := by decide +kernel
theorem dX9_addDigits_37 : decode cX9_addDigits 37 = .ok (.aload_n 1, 1) := by decide +kernel
theorem dX9_addDigits_38 : decode cX9_addDigits 38 = .ok (.iload 4, 2) := by decide +kernel
theorem dX9_addDigits_40 : decode cX9_addDigits 40 = .ok (.caload, 1) := by decide +kernel
theorem dX9_addDigits_41 : decode cX9_addDigits 41 = .ok (.bipush 48, 2) := by decide +kernel
theorem dX9_addDigits_43 : decode cX9_addDigits 43 = .ok (.isub, 1) := by decide +kernel
theorem dX9_addDigits_44 : decode cX9_addDigits 44 = .ok (.i2l, 1) := by decide +kernel
theorem dX9_addDigits_45 : decode cX9_addDigits 45 = .ok (.ladd, 1) := by decide +kernel
theorem dX9_addDigits_46 : decode cX9_addDigits 46 = .ok (.lstore 5, 2) := by decide +kernel
theorem dX9_addDigits_48 : decode cX9_addDigits 48 = .ok (.iinc 4 1, 3) := by decide +kernel
theorem dX9_addDigits_51 : decode cX9_addDigits 51 = .ok (.goto (-45), 3) := by decide +kernel
theorem dX9_addDigits_54 : decode cX9_addDigits 54 = .ok (.iload 4, 2) := by decide +kernel
theorem dX9_addDigits_56 : decode cX9_addDigits 56 = .ok (.iload_n 3, 1) := by decide +kernel
theorem dX9_addDigits_57 : decode cX9_addDigits 57 = .ok (.isub, 1) := by decide +kernel
theorem dX9_addDigits_58 : decode cX9_addDigits 58 = .ok (.bipush 10, 2) := by decide +kernel
theorem dX9_addDigits_60 : decode cX9_addDigits 60 = .ok (.if_icmp .gt 16, 3) := by decide +kernel
theorem dX9_addDigits_63 : decode cX9_addDigits 63 = .ok (.lload 5, 2) := by decide +kernel
theorem dX9_addDigits_65 : decode cX9_addDigits 65 = .ok (.ldc2_w 54, 3) := by decide +kernel
theorem dX9_addDigits_68 : decode cX9_addDigits 68 = .ok (.lcmp, 1) := by decide +kernel
theorem dX9_addDigits_69 : decode cX9_addDigits 69 = .ok (.ifCond .gt 7, 3) := by decide +kernel
theorem dX9_addDigits_72 : decode cX9_addDigits 72 = .ok (.iconst 1, 1) := by decide +kernel
theorem dX9_addDigits_73 : decode cX9_addDigits 73 = .ok (.goto 4, 3) := by decide +kernel
theorem dX9_addDigits_76 : decode cX9_addDigits 76 = .ok (.iconst 0, 1) := by decide +kernel
theorem dX9_addDigits_77 : decode cX9_addDigits 77 = .ok (.istore 7, 2) := by decide +kernel
theorem dX9_addDigits_79 : decode cX9_addDigits 79 = .ok (.aload_n 0, 1) := by decide +kernel
theorem dX9_addDigits_80 : decode cX9_addDigits 80 = .ok (.iload 7, 2) := by decide +kernel
theorem dX9_addDigits_82 : decode cX9_addDigits 82 = .ok (.ifCond .eq 7, 3) := by decide +kernel
theorem dX9_addDigits_85 : decode cX9_addDigits 85 = .ok (.iconst 3, 1) := by decide +kernel
theorem dX9_addDigits_86 : decode cX9_addDigits 86 = .ok (.goto 4, 3) := by decide +kernel
theorem dX9_addDigits_89 : decode cX9_addDigits 89 = .ok (.iconst 1, 1) := by decide +kernel
theorem dX9_addDigits_90 : decode cX9_addDigits 90 = .ok (.iload 7, 2) := by decide +kernel
theorem dX9_addDigits_92 : decode cX9_addDigits 92 = .ok (.ifCond .eq 9, 3) := by decide +kernel
theorem dX9_addDigits_95 : decode cX9_addDigits 95 = .ok (.lload 5, 2) := by decide +kernel
theorem dX9_addDigits_97 : decode cX9_addDigits 97 = .ok (.l2i, 1) := by decide +kernel
theorem dX9_addDigits_98 : decode cX9_addDigits 98 = .ok (.goto 4, 3) := by decide +kernel
theorem dX9_addDigits_101 : decode cX9_addDigits 101 = .ok (.iconst 0, 1) := by decide +kernel
theorem dX9_addDigits_102 : decode cX9_addDigits 102 = .ok (.invokevirtual 48, 3) := by decide +kernel
theorem dX9_addDigits_105 : decode cX9_addDigits 105 = .ok (.iload 4, 2) := by decide +kernel
theorem dX9_addDigits_107 : decode cX9_addDigits 107 = .ok (.ireturn, 1) := by decide +kernel
theorem b_X9_addDigits_0 {h : Nat} {L : LVs} {st : List AV} {S : ST} {Q : Option AV → ST → Prop} (k : o_il L st S (fun L st S => o_is L st S (fun L st S => o_lc L st S (fun L st S => o_ls L st S (fun L st S => V MX9_addDigits h 6 L st S Q) 5) (lN 0)) 4) 3) : V MX9_addDigits h 0 L st S Q :=
  v_iload_n dX9_addDigits_0 rfl (fun L st S k => v_istore dX9_addDigits_1 (by decide) (fun L st S k => v_lconst dX9_addDigits_3 (by decide) (fun L st S k => v_lstore dX9_addDigits_4 (by decide) (fun L st S k => k) k) k) k) k
theorem b_X9_addDigits_6 {h : Nat} {L : LVs} {st : List AV} {S : ST} {Q : Option AV → ST → Prop} (k : o_il L st S (fun L st S => o_il L st S (fun L st S => t_2 L st S (fun x y => y ≤ x) (fun L st S => V MX9_addDigits h 54 L st S Q) (fun L st S => V MX9_addDigits h 12 L st S Q)) 2) 4) : V MX9_addDigits h 6 L st S Q :=
  v_iload dX9_addDigits_6 (fun L st S k => v_iload_n dX9_addDigits_8 rfl (fun L st S k => w_icmp_ge dX9_addDigits_9 (by decide) rfl k) k) k
theorem b_X9_addDigits_12 {h : Nat} {L : LVs} {st : List AV} {S : ST} {Q : Option AV → ST → Prop} (k : o_al L st S (fun L st S => o_il L st S (fun L st S => o_cald L st S (fun L st S => V MX9_addDigits h 16 L st S Q)) 4) 1) : V MX9_addDigits h 12 L st S Q :=
  v_aload_n dX9_addDigits_12 rfl (fun L st S k => v_iload dX9_addDigits_13 (fun L st S k => v_caload dX9_addDigits_15 (fun L st S k => k) k) k) k
theorem k_X9_addDigits_16 {h : Nat} {L : LVs} {st : List AV} {S : ST} {Q Q' : Option AV → ST → Prop} {a0 : AV} (hC : Ct MX9_isDigit h [a0] S Q') (k : ∀ (r : Option AV) (S' : ST), Q' r S' → V MX9_addDigits (h + 1) 19 L (r.toList ++ st) S' Q) (hw : wid st ≤ 8) : V MX9_addDigits (h + 1) 16 L (a0 :: st) S Q :=
  v_callS (M' := MX9_isDigit) (As := [a0]) dX9_addDigits_16 ml_X9_33 sm_X9_isDigit in_X9 cd_X9_isDigit ⟨rfl, np_X9_isDigit⟩ (by decide) hw hC k
theorem b_X9_addDigits_19 {h : Nat} {L : LVs} {st : List AV} {S : ST} {Q : Option AV → ST → Prop} (k : t_1 L st S (fun x => x = nI 0) (fun L st S => V MX9_addDigits h 54 L st S Q) (fun L st S => V MX9_addDigits h 22 L st S Q)) : V MX9_addDigits h 19 L st S Q :=
  w_if_eq dX9_addDigits_19 (by decide) rfl k
theorem b_X9_addDigits_22 {h : Nat} {L : LVs} {st : List AV} {S : ST} {Q : Option AV → ST → Prop} (k : o_il L st S (fun L st S => o_il L st S (fun L st S => o_isub L st S (fun L st S => o_c L st S (fun L st S => t_2 L st S (fun x y => y ≤ x) (fun L st S => V MX9_addDigits h 48 L st S Q) (fun L st S => V MX9_addDigits h 31 L st S Q)) (nI 10))) 3) 4) : V MX9_addDigits h 22 L st S Q :=
  v_iload dX9_addDigits_22 (fun L st S k => v_iload_n dX9_addDigits_24 rfl (fun L st S k => v_isub dX9_addDigits_25 (fun L st S k => v_bipush dX9_addDigits_26 (by decide) (fun L st S k => w_icmp_ge dX9_addDigits_28 (by decide) rfl k) k) k) k) k
theorem b_X9_addDigits_31 {h : Nat} {L : LVs} {st : List AV} {S : ST} {Q : Option AV → ST → Prop} (k : o_ll L st S (fun L st S => o_lc L st S (fun L st S => o_lmul L st S (fun L st S => o_al L st S (fun L st S => o_il L st S (fun L st S => o_cald L st S (fun L st S => o_c L st S (fun L st S => o_isub L st S (fun L st S => o_i2l L st S (fun L st S => o_ladd L st S (fun L st S => o_ls L st S (fun L st S => V MX9_addDigits h 48 L st S Q) 5)))) (nI 48))) 4) 1)) (lN 10)) 5) : V MX9_addDigits h 31 L st S Q :=
  v_lload dX9_addDigits_31 (fun L st S k => v_ldc2 dX9_addDigits_33 kl_X9_52 (fun L st S k => v_lmul dX9_addDigits_36 (fun L st S k => v_aload_n dX9_addDigits_37 rfl (fun L st S k => v_iload dX9_addDigits_38 (fun L st S k => v_caload dX9_addDigits_40 (fun L st S k => v_bipush dX9_addDigits_41 (by decide) (fun L st S k => v_isub dX9_addDigits_43 (fun L st S k => v_i2l dX9_addDigits_44 (fun L st S k => v_ladd dX9_addDigits_45 (fun L st S k => v_lstore dX9_addDigits_46 (by decide) (fun L st S k => k) k) k) k) k) k) k) k) k) k) k) k
theorem b_X9_addDigits_48 {h : Nat} {L : LVs} {st : List AV} {S : ST} {Q : Option AV → ST → Prop} (k : o_inc L st S (fun L st S => V MX9_addDigits h 6 L st S Q) 4 (nI 1)) : V MX9_addDigits h 48 L st S Q :=
  v_iinc dX9_addDigits_48 (by decide) (by decide) (fun L st S k => v_goto dX9_addDigits_51 (by decide) k) k
theorem b_X9_addDigits_54 {h : Nat} {L : LVs} {st : List AV} {S : ST} {Q : Option AV → ST → Prop} (k : o_il L st S (fun L st S => o_il L st S (fun L st S => o_isub L st S (fun L st S => o_c L st S (fun L st S => t_2 L st S (fun x y => y < x) (fun L st S => V MX9_addDigits h 76 L st S Q) (fun L st S => V MX9_addDigits h 63 L st S Q)) (nI 10))) 3) 4) : V MX9_addDigits h 54 L st S Q :=
  v_iload dX9_addDigits_54 (fun L st S k => v_iload_n dX9_addDigits_56 rfl (fun L st S k => v_isub dX9_addDigits_57 (fun L st S k => v_bipush dX9_addDigits_58 (by decide) (fun L st S k => w_icmp_gt dX9_addDigits_60 (by decide) rfl k) k) k) k) k
theorem b_X9_addDigits_63 {h : Nat} {L : LVs} {st : List AV} {S : ST} {Q : Option AV → ST → Prop} (k : o_ll L st S (fun L st S => o_lc L st S (fun L st S => o_lcmp L st S (fun L st S => t_1 L st S (fun x => nI 0 < x) (fun L st S => V MX9_addDigits h 76 L st S Q) (fun L st S => V MX9_addDigits h 72 L st S Q))) (lN 2147483647)) 5) : V MX9_addDigits h 63 L st S Q :=
  v_lload dX9_addDigits_63 (fun L st S k => v_ldc2 dX9_addDigits_65 kl_X9_54 (fun L st S k => v_lcmp dX9_addDigits_68 (fun L st S k => w_if_gt dX9_addDigits_69 (by decide) rfl k) k) k) k
theorem b_X9_addDigits_72 {h : Nat} {L : LVs} {st : List AV} {S : ST} {Q : Option AV → ST → Prop} (k : o_c L st S (fun L st S => V MX9_addDigits h 77 L st S Q) (nI 1)) : V MX9_addDigits h 72 L st S Q :=
  v_iconst dX9_addDigits_72 (by decide) (fun L st S k => v_goto dX9_addDigits_73 (by decide) k) k
theorem b_X9_addDigits_76 {h : Nat} {L : LVs} {st : List AV} {S : ST} {Q : Option AV → ST → Prop} (k : o_c L st S (fun L st S => V MX9_addDigits h 77 L st S Q) (nI 0)) : V MX9_addDigits h 76 L st S Q :=
  v_iconst dX9_addDigits_76 (by decide) (fun L st S k => k) k
theorem b_X9_addDigits_77 {h : Nat} {L : LVs} {st : List AV} {S : ST} {Q : Option AV → ST → Prop} (k : o_is L st S (fun L st S => o_al L st S (fun L st S => o_il L st S (fun L st S => t_1 L st S (fun x => x = nI 0) (fun L st S => V MX9_addDigits h 89 L st S Q) (fun L st S => V MX9_addDigits h 85 L st S Q)) 7) 0) 7) : V MX9_addDigits h 77 L st S Q :=
  v_istore dX9_addDigits_77 (by decide) (fun L st S k => v_aload_n dX9_addDigits_79 rfl (fun L st S k => v_iload dX9_addDigits_80 (fun L st S k => w_if_eq dX9_addDigits_82 (by decide) rfl k) k) k) k
theorem b_X9_addDigits_85 {h : Nat} {L : LVs} {st : List AV} {S : ST} {Q : Option AV → ST → Prop} (k : o_c L st S (fun L st S => V MX9_addDigits h 90 L st S Q) (nI 3)) : V MX9_addDigits h 85 L st S Q :=
  v_iconst dX9_addDigits_85 (by decide) (fun L st S k => v_goto dX9_addDigits_86 (by decide) k) k
theorem b_X9_addDigits_89 {h : Nat} {L : LVs} {st : List AV} {S : ST} {Q : Option AV → ST → Prop} (k : o_c L st S (fun L st S => V MX9_addDigits h 90 L st S Q) (nI 1)) : V MX9_addDigits h 89 L st S Q :=
  v_iconst dX9_addDigits_89 (by decide) (fun L st S k => k) k
theorem b_X9_addDigits_90 {h : Nat} {L : LVs} {st : List AV} {S : ST} {Q : Option AV → ST → Prop} (k : o_il L st S (fun L st S => t_1 L st S (fun x => x = nI 0) (fun L st S => V MX9_addDigits h 101 L st S Q) (fun L st S => V MX9_addDigits h 95 L st S Q)) 7) : V MX9_addDigits h 90 L st S Q :=
  v_iload dX9_addDigits_90 (fun L st S k => w_if_eq dX9_addDigits_92 (by decide) rfl k) k
theorem b_X9_addDigits_95 {h : Nat} {L : LVs} {st : List AV} {S : ST} {Q : Option AV → ST → Prop} (k : o_ll L st S (fun L st S => o_l2i L st S (fun L st S => V MX9_addDigits h 102 L st S Q)) 5) : V MX9_addDigits h 95 L st S Q :=
  v_lload dX9_addDigits_95 (fun L st S k => v_l2i dX9_addDigits_97 (fun L st S k => v_goto dX9_addDigits_98 (by decide) k) k) k
theorem b_X9_addDigits_101 {h : Nat} {L : LVs} {st : List AV} {S : ST} {Q : Option AV → ST → Prop} (k : o_c L st S (fun L st S => V MX9_addDigits h 102 L st S Q) (nI 0)) : V MX9_addDigits h 101 L st S Q :=
  v_iconst dX9_addDigits_101 (by decide) (fun L st S k => k) k
theorem k_X9_addDigits_102 {h : Nat} {L : LVs} {st : List AV} {S : ST} {Q Q' : Option AV → ST → Prop} {j : Nat} {a0 a1 : AV} (hC : Ct MX9_add h [vR 9 j, a0, a1] S Q') (k : ∀ (r : Option AV) (S' : ST), Q' r S' → V MX9_addDigits (h + 1) 105 L (r.toList ++ st) S' Q) (hj : j < NI 9) (hw : wid st ≤ 8) : V MX9_addDigits (h + 1) 102 L (a1 :: a0 :: vR 9 j :: st) S Q :=
  v_callV (M' := MX9_add) (c := 9) (As := [a0, a1]) dX9_addDigits_102 ml_X9_48 im_X9_add se_X9_add in_X9 cd_X9_add rfl LY_9 np_X9_add (by decide) hw hj hC k
theorem b_X9_addDigits_105 {h : Nat} {L : LVs} {st : List AV} {S : ST} {Q : Option AV → ST → Prop} (k : o_il L st S (fun L st S => t_ir st S Q) 4) : V MX9_addDigits h 105 L st S Q :=
  v_iload dX9_addDigits_105 (fun L st S k => w_ir dX9_addDigits_107 rfl k) k
-- QueryForge$Words.addText([CII)I
theorem dX9_addText_0 : decode cX9_addText 0 = .ok (.iload_n 3, 1) := by decide +kernel
theorem dX9_addText_1 : decode cX9_addText 1 = .ok (.iconst 1, 1) := by decide +kernel
theorem dX9_addText_2 : decode cX9_addText 2 = .ok (.iadd, 1) := by decide +kernel
theorem dX9_addText_3 : decode cX9_addText 3 = .ok (.istore 4, 2) := by decide +kernel
theorem dX9_addText_5 : decode cX9_addText 5 = .ok (.iconst 0, 1) := by decide +kernel
theorem dX9_addText_6 : decode cX9_addText 6 = .ok (.istore 5, 2) := by decide +kernel
theorem dX9_addText_8 : decode cX9_addText 8 = .ok (.iconst 1, 1) := by decide +kernel
theorem dX9_addText_9 : decode cX9_addText 9 = .ok (.istore 6, 2) := by decide +kernel
theorem dX9_addText_11 : decode cX9_addText 11 = .ok (.iload 4, 2) := by decide +kernel
theorem dX9_addText_13 : decode cX9_addText 13 = .ok (.iload_n 2, 1) := by decide +kernel
theorem dX9_addText_14 : decode cX9_addText 14 = .ok (.if_icmp .ge 53, 3) := by decide +kernel
theorem dX9_addText_17 : decode cX9_addText 17 = .ok (.aload_n 1, 1) := by decide +kernel
theorem dX9_addText_18 : decode cX9_addText 18 = .ok (.iload 4, 2) := by decide +kernel
theorem dX9_addText_20 : decode cX9_addText 20 = .ok (.caload, 1) := by decide +kernel
theorem dX9_addText_21 : decode cX9_addText 21 = .ok (.bipush 39, 2) := by decide +kernel
theorem dX9_addText_23 : decode cX9_addText 23 = .ok (.if_icmp .eq 44, 3) := by decide +kernel
theorem dX9_addText_26 : decode cX9_addText 26 = .ok (.iload 6, 2) := by decide +kernel
theorem dX9_addText_28 : decode cX9_addText 28 = .ok (.ifCond .eq 17, 3) := by decide +kernel
theorem dX9_addText_31 : decode cX9_addText 31 = .ok (.aload_n 1, 1) := by decide +kernel
theorem dX9_addText_32 : decode cX9_addText 32 = .ok (.iload 4, 2) := by decide +kernel
theorem dX9_addText_34 : decode cX9_addText 34 = .ok (.caload, 1) := by decide +kernel
theorem dX9_addText_35 : decode cX9_addText 35 = .ok (.invokestatic 26, 3) := by decide +kernel
theorem dX9_addText_38 : decode cX9_addText 38 = .ok (.ifCond .eq 7, 3) := by decide +kernel
theorem dX9_addText_41 : decode cX9_addText 41 = .ok (.iconst 1, 1) := by decide +kernel
theorem dX9_addText_42 : decode cX9_addText 42 = .ok (.goto 4, 3) := by decide +kernel
theorem dX9_addText_45 : decode cX9_addText 45 = .ok (.iconst 0, 1) := by decide +kernel
theorem dX9_addText_46 : decode cX9_addText 46 = .ok (.istore 6, 2) := by decide +kernel
theorem dX9_addText_48 : decode cX9_addText 48 = .ok (.iload 5, 2) := by decide +kernel
theorem dX9_addText_50 : decode cX9_addText 50 = .ok (.sipush 256, 3) := by decide +kernel
theorem dX9_addText_53 : decode cX9_addText 53 = .ok (.imul, 1) := by decide +kernel
theorem dX9_addText_54 : decode cX9_addText 54 = .ok (.aload_n 1, 1) := by decide +kernel
theorem dX9_addText_55 : decode cX9_addText 55 = .ok (.iload 4, 2) := by decide +kernel
theorem dX9_addText_57 : decode cX9_addText 57 = .ok (.caload, 1) := by decide +kernel
theorem dX9_addText_58 : decode cX9_addText 58 = .ok (.iadd, 1) := by decide +kernel
theorem dX9_addText_59 : decode cX9_addText 59 = .ok (.istore 5, 2) := by decide +kernel
theorem dX9_addText_61 : decode cX9_addText 61 = .ok (.iinc 4 1, 3) := by decide +kernel
theorem dX9_addText_64 : decode cX9_addText 64 = .ok (.goto (-53), 3) := by decide +kernel
theorem dX9_addText_67 : decode cX9_addText 67 = .ok (.iload 4, 2) := by decide +kernel
theorem dX9_addText_69 : decode cX9_addText 69 = .ok (.iload_n 3, 1) := by decide +kernel
theorem dX9_addText_70 : decode cX9_addText 70 = .ok (.isub, 1) := by decide +kernel
theorem dX9_addText_71 : decode cX9_addText 71 = .ok (.iconst 1, 1) := by decide +kernel
theorem dX9_addText_72 : decode cX9_addText 72 = .ok (.isub, 1) := by decide +kernel
theorem dX9_addText_73 : decode cX9_addText 73 = .ok (.istore 7, 2) := by decide +kernel
theorem dX9_addText_75 : decode cX9_addText 75 = .ok (.iload 6, 2) := by decide +kernel
theorem dX9_addText_77 : decode cX9_addText 77 = .ok (.ifCond .eq 25, 3) := by decide +kernel
theorem dX9_addText_80 : decode cX9_addText 80 = .ok (.iload 4, 2) := by decide +kernel
theorem dX9_addText_82 : decode cX9_addText 82 = .ok (.iload_n 2, 1) := by decide +kernel
theorem dX9_addText_83 : decode cX9_addText 83 = .ok (.if_icmp .ge 19, 3) := by decide +kernel
theorem dX9_addText_86 : decode cX9_addText 86 = .ok (.iload 7, 2) := by decide +kernel
theorem dX9_addText_88 : decode cX9_addText 88 = .ok (.iconst 1, 1) := by decide +kernel
theorem dX9_addText_89 : decode cX9_addText 89 = .ok (.if_icmp .lt 13, 3) := by decide +kernel
theorem dX9_addText_92 : decode cX9_addText 92 = .ok (.iload 7, 2) := by decide +kernel
theorem dX9_addText_94 : decode cX9_addText 94 = .ok (.iconst 4, 1) := by decide +kernel
theorem dX9_addText_95 : decode cX9_addText 95 = .ok (.if_icmp .gt 7, 3) := by decide +kernel
theorem dX9_addText_98 : decode cX9_addText 98 = .ok (.iconst 1, 1) := by decide +kernel
theorem dX9_addText_99 : decode cX9_addText 99 = .ok (.goto 4, 3) := by decide +kernel
theorem dX9_addText_102 : decode cX9_addText 102 = .ok (.iconst 0, 1) := by decide +kernel
theorem dX9_addText_103 : decode cX9_addText 103 = .ok (.istore 6, 2) := by decide +kernel
theorem dX9_addText_105 : decode cX9_addText 105 = .ok (.iload 7, 2) := by decide +kernel
theorem dX9_addText_107 : decode cX9_addText 107 = .ok (.istore 8, 2) := by decide +kernel
theorem dX9_addText_109 : decode cX9_addText 109 = .ok (.iload 8, 2) := by decide +kernel
theorem dX9_addText_111 : decode cX9_addText 111 = .ok (.iconst 4, 1) := by decide +kernel
theorem dX9_addText_112 : decode cX9_addText 112 = .ok (.if_icmp .ge 17, 3) := by decide +kernel
theorem dX9_addText_115 : decode cX9_addText 115 = .ok (.iload 5, 2) := by decide +kernel
theorem dX9_addText_117 : decode cX9_addText 117 = .ok (.sipush 256, 3) := by decide +kernel
theorem dX9_addText_120 : decode cX9_addText 120 = .ok (.imul, 1) := by decide +kernel
theorem dX9_addText_121 : decode cX9_addText 121 = .ok (.istore 5, 2) := by decide +kernel
theorem dX9_addText_123 : decode cX9_addText 123 = .ok (.iinc 8 1, 3) := by decide +kernel
theorem dX9_addText_126 : decode cX9_addText 126 = .ok (.goto (-17), 3) := by decide +kernel
theorem dX9_addText_129 : decode cX9_addText 129 = .ok (.aload_n 0, 1) := by decide +kernel
theorem dX9_addText_130 : decode cX9_addText 130 = .ok (.iload 6, 2) := by decide +kernel
theorem dX9_addText_132 : decode cX9_addText 132 = .ok (.ifCond .eq 7, 3) := by decide +kernel
theorem dX9_addText_135 : decode cX9_addText 135 = .ok (.iconst 4, 1) := by decide +kernel
theorem dX9_addText_136 : decode cX9_addText 136 = .ok (.goto 4, 3) := by decide +kernel
theorem dX9_addText_139 : decode cX9_addText 139 = .ok (.iconst 1, 1) := by decide +kernel
theorem dX9_addText_140 : decode cX9_addText 140 = .ok (.iload 5, 2) := by decide +kernel
theorem dX9_addText_142 : decode cX9_addText 142 = .ok (.invokevirtual 48, 3) := by decide +kernel
theorem dX9_addText_145 : decode cX9_addText 145 = .ok (.iload 4, 2) := by decide +kernel
theorem dX9_addText_147 : decode cX9_addText 147 = .ok (.iload_n 2, 1) := by decide +kernel
theorem dX9_addText_148 : decode cX9_addText 148 = .ok (.if_icmp .ge 10, 3) := by decide +kernel
theorem dX9_addText_151 : decode cX9_addText 151 = .ok (.iload 4, 2) := by decide +kernel
theorem dX9_addText_153 : decode cX9_addText 153 = .ok (.iconst 1, 1) := by decide +kernel
theorem dX9_addText_154 : decode cX9_addText 154 = .ok (.iadd, 1) := by decide +kernel
theorem dX9_addText_155 : decode cX9_addText 155 = .ok (.goto 5, 3) := by decide +kernel
theorem dX9_addText_158 : decode cX9_addText 158 = .ok (.iload 4, 2) := by decide +kernel
theorem dX9_addText_160 : decode cX9_addText 160 = .ok (.ireturn, 1) := by decide +kernel
theorem b_X9_addText_0 {h : Nat} {L : LVs} {st : List AV} {S : ST} {Q : Option AV → ST → Prop} (k : o_il L st S (fun L st S => o_c L st S (fun L st S => o_iadd L st S (fun L st S => o_is L st S (fun L st S => o_c L st S (fun L st S => o_is L st S (fun L st S => o_c L st S (fun L st S => o_is L st S (fun L st S => V MX9_addText h 11 L st S Q) 6) (nI 1)) 5) (nI 0)) 4)) (nI 1)) 3) : V MX9_addText h 0 L st S Q :=
  v_iload_n dX9_addText_0 rfl (fun L st S k => v_iconst dX9_addText_1 (by decide) (fun L st S k => v_iadd dX9_addText_2 (fun L st S k => v_istore dX9_addText_3 (by decide) (fun L st S k => v_iconst dX9_addText_5 (by decide) (fun L st S k => v_istore dX9_addText_6 (by decide) (fun L st S k => v_iconst dX9_addText_8 (by decide) (fun L st S k => v_istore dX9_addText_9 (by decide) (fun L st S k => k) k) k) k) k) k) k) k) k
theorem b_X9_addText_11 {h : Nat} {L : LVs} {st : List AV} {S : ST} {Q : Option AV → ST → Prop} (k : o_il L st S (fun L st S => o_il L st S (fun L st S => t_2 L st S (fun x y => y ≤ x) (fun L st S => V MX9_addText h 67 L st S Q) (fun L st S => V MX9_addText h 17 L st S Q)) 2) 4) : V MX9_addText h 11 L st S Q :=
  v_iload dX9_addText_11 (fun L st S k => v_iload_n dX9_addText_13 rfl (fun L st S k => w_icmp_ge dX9_addText_14 (by decide) rfl k) k) k
theorem b_X9_addText_17 {h : Nat} {L : LVs} {st : List AV} {S : ST} {Q : Option AV → ST → Prop} (k : o_al L st S (fun L st S => o_il L st S (fun L st S => o_cald L st S (fun L st S => o_c L st S (fun L st S => t_2 L st S (fun x y => x = y) (fun L st S => V MX9_addText h 67 L st S Q) (fun L st S => V MX9_addText h 26 L st S Q)) (nI 39))) 4) 1) : V MX9_addText h 17 L st S Q :=
  v_aload_n dX9_addText_17 rfl (fun L st S k => v_iload dX9_addText_18 (fun L st S k => v_caload dX9_addText_20 (fun L st S k => v_bipush dX9_addText_21 (by decide) (fun L st S k => w_icmp_eq dX9_addText_23 (by decide) rfl k) k) k) k) k
theorem b_X9_addText_26 {h : Nat} {L : LVs} {st : List AV} {S : ST} {Q : Option AV → ST → Prop} (k : o_il L st S (fun L st S => t_1 L st S (fun x => x = nI 0) (fun L st S => V MX9_addText h 45 L st S Q) (fun L st S => V MX9_addText h 31 L st S Q)) 6) : V MX9_addText h 26 L st S Q :=
  v_iload dX9_addText_26 (fun L st S k => w_if_eq dX9_addText_28 (by decide) rfl k) k
theorem b_X9_addText_31 {h : Nat} {L : LVs} {st : List AV} {S : ST} {Q : Option AV → ST → Prop} (k : o_al L st S (fun L st S => o_il L st S (fun L st S => o_cald L st S (fun L st S => V MX9_addText h 35 L st S Q)) 4) 1) : V MX9_addText h 31 L st S Q :=
  v_aload_n dX9_addText_31 rfl (fun L st S k => v_iload dX9_addText_32 (fun L st S k => v_caload dX9_addText_34 (fun L st S k => k) k) k) k
theorem k_X9_addText_35 {h : Nat} {L : LVs} {st : List AV} {S : ST} {Q Q' : Option AV → ST → Prop} {a0 : AV} (hC : Ct MX9_isLetter h [a0] S Q') (k : ∀ (r : Option AV) (S' : ST), Q' r S' → V MX9_addText (h + 1) 38 L (r.toList ++ st) S' Q) (hw : wid st ≤ 8) : V MX9_addText (h + 1) 35 L (a0 :: st) S Q :=
  v_callS (M' := MX9_isLetter) (As := [a0]) dX9_addText_35 ml_X9_26 sm_X9_isLetter in_X9 cd_X9_isLetter ⟨rfl, np_X9_isLetter⟩ (by decide) hw hC k
theorem b_X9_addText_38 {h : Nat} {L : LVs} {st : List AV} {S : ST} {Q : Option AV → ST → Prop} (k : t_1 L st S (fun x => x = nI 0) (fun L st S => V MX9_addText h 45 L st S Q) (fun L st S => V MX9_addText h 41 L st S Q)) : V MX9_addText h 38 L st S Q :=
  w_if_eq dX9_addText_38 (by decide) rfl k
theorem b_X9_addText_41 {h : Nat} {L : LVs} {st : List AV} {S : ST} {Q : Option AV → ST → Prop} (k : o_c L st S (fun L st S => V MX9_addText h 46 L st S Q) (nI 1)) : V MX9_addText h 41 L st S Q :=
  v_iconst dX9_addText_41 (by decide) (fun L st S k => v_goto dX9_addText_42 (by decide) k) k
theorem b_X9_addText_45 {h : Nat} {L : LVs} {st : List AV} {S : ST} {Q : Option AV → ST → Prop} (k : o_c L st S (fun L st S => V MX9_addText h 46 L st S Q) (nI 0)) : V MX9_addText h 45 L st S Q :=
  v_iconst dX9_addText_45 (by decide) (fun L st S k => k) k
theorem b_X9_addText_46 {h : Nat} {L : LVs} {st : List AV} {S : ST} {Q : Option AV → ST → Prop} (k : o_is L st S (fun L st S => o_il L st S (fun L st S => o_c L st S (fun L st S => o_imul L st S (fun L st S => o_al L st S (fun L st S => o_il L st S (fun L st S => o_cald L st S (fun L st S => o_iadd L st S (fun L st S => o_is L st S (fun L st S => o_inc L st S (fun L st S => V MX9_addText h 11 L st S Q) 4 (nI 1)) 5))) 4) 1)) (nI 256)) 5) 6) : V MX9_addText h 46 L st S Q :=
  v_istore dX9_addText_46 (by decide) (fun L st S k => v_iload dX9_addText_48 (fun L st S k => v_sipush dX9_addText_50 (by decide) (fun L st S k => v_imul dX9_addText_53 (fun L st S k => v_aload_n dX9_addText_54 rfl (fun L st S k => v_iload dX9_addText_55 (fun L st S k => v_caload dX9_addText_57 (fun L st S k => v_iadd dX9_addText_58 (fun L st S k => v_istore dX9_addText_59 (by decide) (fun L st S k => v_iinc dX9_addText_61 (by decide) (by decide) (fun L st S k => v_goto dX9_addText_64 (by decide) k) k) k) k) k) k) k) k) k) k) k
theorem b_X9_addText_67 {h : Nat} {L : LVs} {st : List AV} {S : ST} {Q : Option AV → ST → Prop} (k : o_il L st S (fun L st S => o_il L st S (fun L st S => o_isub L st S (fun L st S => o_c L st S (fun L st S => o_isub L st S (fun L st S => o_is L st S (fun L st S => o_il L st S (fun L st S => t_1 L st S (fun x => x = nI 0) (fun L st S => V MX9_addText h 102 L st S Q) (fun L st S => V MX9_addText h 80 L st S Q)) 6) 7)) (nI 1))) 3) 4) : V MX9_addText h 67 L st S Q :=
  v_iload dX9_addText_67 (fun L st S k => v_iload_n dX9_addText_69 rfl (fun L st S k => v_isub dX9_addText_70 (fun L st S k => v_iconst dX9_addText_71 (by decide) (fun L st S k => v_isub dX9_addText_72 (fun L st S k => v_istore dX9_addText_73 (by decide) (fun L st S k => v_iload dX9_addText_75 (fun L st S k => w_if_eq dX9_addText_77 (by decide) rfl k) k) k) k) k) k) k) k
theorem b_X9_addText_80 {h : Nat} {L : LVs} {st : List AV} {S : ST} {Q : Option AV → ST → Prop} (k : o_il L st S (fun L st S => o_il L st S (fun L st S => t_2 L st S (fun x y => y ≤ x) (fun L st S => V MX9_addText h 102 L st S Q) (fun L st S => V MX9_addText h 86 L st S Q)) 2) 4) : V MX9_addText h 80 L st S Q :=
  v_iload dX9_addText_80 (fun L st S k => v_iload_n dX9_addText_82 rfl (fun L st S k => w_icmp_ge dX9_addText_83 (by decide) rfl k) k) k
theorem b_X9_addText_86 {h : Nat} {L : LVs} {st : List AV} {S : ST} {Q : Option AV → ST → Prop} (k : o_il L st S (fun L st S => o_c L st S (fun L st S => t_2 L st S (fun x y => x < y) (fun L st S => V MX9_addText h 102 L st S Q) (fun L st S => V MX9_addText h 92 L st S Q)) (nI 1)) 7) : V MX9_addText h 86 L st S Q :=
  v_iload dX9_addText_86 (fun L st S k => v_iconst dX9_addText_88 (by decide) (fun L st S k => w_icmp_lt dX9_addText_89 (by decide) rfl k) k) k
theorem b_X9_addText_92 {h : Nat} {L : LVs} {st : List AV} {S : ST} {Q : Option AV → ST → Prop} (k : o_il L st S (fun L st S => o_c L st S (fun L st S => t_2 L st S (fun x y => y < x) (fun L st S => V MX9_addText h 102 L st S Q) (fun L st S => V MX9_addText h 98 L st S Q)) (nI 4)) 7) : V MX9_addText h 92 L st S Q :=
  v_iload dX9_addText_92 (fun L st S k => v_iconst dX9_addText_94 (by decide) (fun L st S k => w_icmp_gt dX9_addText_95 (by decide) rfl k) k) k
theorem b_X9_addText_98 {h : Nat} {L : LVs} {st : List AV} {S : ST} {Q : Option AV → ST → Prop} (k : o_c L st S (fun L st S => V MX9_addText h 103 L st S Q) (nI 1)) : V MX9_addText h 98 L st S Q :=
  v_iconst dX9_addText_98 (by decide) (fun L st S k => v_goto dX9_addText_99 (by decide) k) k
theorem b_X9_addText_102 {h : Nat} {L : LVs} {st : List AV} {S : ST} {Q : Option AV → ST → Prop} (k : o_c L st S (fun L st S => V MX9_addText h 103 L st S Q) (nI 0)) : V MX9_addText h 102 L st S Q :=
  v_iconst dX9_addText_102 (by decide) (fun L st S k => k) k
theorem b_X9_addText_103 {h : Nat} {L : LVs} {st : List AV} {S : ST} {Q : Option AV → ST → Prop} (k : o_is L st S (fun L st S => o_il L st S (fun L st S => o_is L st S (fun L st S => V MX9_addText h 109 L st S Q) 8) 7) 6) : V MX9_addText h 103 L st S Q :=
  v_istore dX9_addText_103 (by decide) (fun L st S k => v_iload dX9_addText_105 (fun L st S k => v_istore dX9_addText_107 (by decide) (fun L st S k => k) k) k) k
theorem b_X9_addText_109 {h : Nat} {L : LVs} {st : List AV} {S : ST} {Q : Option AV → ST → Prop} (k : o_il L st S (fun L st S => o_c L st S (fun L st S => t_2 L st S (fun x y => y ≤ x) (fun L st S => V MX9_addText h 129 L st S Q) (fun L st S => V MX9_addText h 115 L st S Q)) (nI 4)) 8) : V MX9_addText h 109 L st S Q :=
  v_iload dX9_addText_109 (fun L st S k => v_iconst dX9_addText_111 (by decide) (fun L st S k => w_icmp_ge dX9_addText_112 (by decide) rfl k) k) k
theorem b_X9_addText_115 {h : Nat} {L : LVs} {st : List AV} {S : ST} {Q : Option AV → ST → Prop} (k : o_il L st S (fun L st S => o_c L st S (fun L st S => o_imul L st S (fun L st S => o_is L st S (fun L st S => o_inc L st S (fun L st S => V MX9_addText h 109 L st S Q) 8 (nI 1)) 5)) (nI 256)) 5) : V MX9_addText h 115 L st S Q :=
  v_iload dX9_addText_115 (fun L st S k => v_sipush dX9_addText_117 (by decide) (fun L st S k => v_imul dX9_addText_120 (fun L st S k => v_istore dX9_addText_121 (by decide) (fun L st S k => v_iinc dX9_addText_123 (by decide) (by decide) (fun L st S k => v_goto dX9_addText_126 (by decide) k) k) k) k) k) k
theorem b_X9_addText_129 {h : Nat} {L : LVs} {st : List AV} {S : ST} {Q : Option AV → ST → Prop} (k : o_al L st S (fun L st S => o_il L st S (fun L st S => t_1 L st S (fun x => x = nI 0) (fun L st S => V MX9_addText h 139 L st S Q) (fun L st S => V MX9_addText h 135 L st S Q)) 6) 0) : V MX9_addText h 129 L st S Q :=
  v_aload_n dX9_addText_129 rfl (fun L st S k => v_iload dX9_addText_130 (fun L st S k => w_if_eq dX9_addText_132 (by decide) rfl k) k) k
theorem b_X9_addText_135 {h : Nat} {L : LVs} {st : List AV} {S : ST} {Q : Option AV → ST → Prop} (k : o_c L st S (fun L st S => V MX9_addText h 140 L st S Q) (nI 4)) : V MX9_addText h 135 L st S Q :=
  v_iconst dX9_addText_135 (by decide) (fun L st S k => v_goto dX9_addText_136 (by decide) k) k
theorem b_X9_addText_139 {h : Nat} {L : LVs} {st : List AV} {S : ST} {Q : Option AV → ST → Prop} (k : o_c L st S (fun L st S => V MX9_addText h 140 L st S Q) (nI 1)) : V MX9_addText h 139 L st S Q :=
  v_iconst dX9_addText_139 (by decide) (fun L st S k => k) k
theorem b_X9_addText_140 {h : Nat} {L : LVs} {st : List AV} {S : ST} {Q : Option AV → ST → Prop} (k : o_il L st S (fun L st S => V MX9_addText h 142 L st S Q) 5) : V MX9_addText h 140 L st S Q :=
  v_iload dX9_addText_140 (fun L st S k => k) k
theorem k_X9_addText_142 {h : Nat} {L : LVs} {st : List AV} {S : ST} {Q Q' : Option AV → ST → Prop} {j : Nat} {a0 a1 : AV} (hC : Ct MX9_add h [vR 9 j, a0, a1] S Q') (k : ∀ (r : Option AV) (S' : ST), Q' r S' → V MX9_addText (h + 1) 145 L (r.toList ++ st) S' Q) (hj : j < NI 9) (hw : wid st ≤ 8) : V MX9_addText (h + 1) 142 L (a1 :: a0 :: vR 9 j :: st) S Q :=
  v_callV (M' := MX9_add) (c := 9) (As := [a0, a1]) dX9_addText_142 ml_X9_48 im_X9_add se_X9_add in_X9 cd_X9_add rfl LY_9 np_X9_add (by decide) hw hj hC k
theorem b_X9_addText_145 {h : Nat} {L : LVs} {st : List AV} {S : ST} {Q : Option AV → ST → Prop} (k : o_il L st S (fun L st S => o_il L st S (fun L st S => t_2 L st S (fun x y => y ≤ x) (fun L st S => V MX9_addText h 158 L st S Q) (fun L st S => V MX9_addText h 151 L st S Q)) 2) 4) : V MX9_addText h 145 L st S Q :=
  v_iload dX9_addText_145 (fun L st S k => v_iload_n dX9_addText_147 rfl (fun L st S k => w_icmp_ge dX9_addText_148 (by decide) rfl k) k) k
theorem b_X9_addText_151 {h : Nat} {L : LVs} {st : List AV} {S : ST} {Q : Option AV → ST → Prop} (k : o_il L st S (fun L st S => o_c L st S (fun L st S => o_iadd L st S (fun L st S => V MX9_addText h 160 L st S Q)) (nI 1)) 4) : V MX9_addText h 151 L st S Q :=
  v_iload dX9_addText_151 (fun L st S k => v_iconst dX9_addText_153 (by decide) (fun L st S k => v_iadd dX9_addText_154 (fun L st S k => v_goto dX9_addText_155 (by decide) k) k) k) k
theorem b_X9_addText_158 {h : Nat} {L : LVs} {st : List AV} {S : ST} {Q : Option AV → ST → Prop} (k : o_il L st S (fun L st S => V MX9_addText h 160 L st S Q) 4) : V MX9_addText h 158 L st S Q :=
  v_iload dX9_addText_158 (fun L st S k => k) k
theorem b_X9_addText_160 {h : Nat} {L : LVs} {st : List AV} {S : ST} {Q : Option AV → ST → Prop} (k : t_ir st S Q) : V MX9_addText h 160 L st S Q :=
  w_ir dX9_addText_160 rfl k
-- QueryForge$Words.addSign([CII)I
theorem dX9_addSign_0 : decode cX9_addSign 0 = .ok (.aload_n 1, 1) := by decide +kernel
theorem dX9_addSign_1 : decode cX9_addSign 1 = .ok (.iload_n 3, 1) := by decide +kernel
theorem dX9_addSign_2 : decode cX9_addSign 2 = .ok (.caload, 1) := by decide +kernel
theorem dX9_addSign_3 : decode cX9_addSign 3 = .ok (.istore 4, 2) := by decide +kernel
theorem dX9_addSign_5 : decode cX9_addSign 5 = .ok (.iload_n 3, 1) := by decide +kernel
theorem dX9_addSign_6 : decode cX9_addSign 6 = .ok (.iconst 1, 1) := by decide +kernel
theorem dX9_addSign_7 : decode cX9_addSign 7 = .ok (.iadd, 1) := by decide +kernel
theorem dX9_addSign_8 : decode cX9_addSign 8 = .ok (.iload_n 2, 1) := by decide +kernel
theorem dX9_addSign_9 : decode cX9_addSign 9 = .ok (.if_icmp .ge 16, 3) := by decide +kernel
theorem dX9_addSign_12 : decode cX9_addSign 12 = .ok (.iload 4, 2) := by decide +kernel
theorem dX9_addSign_14 : decode cX9_addSign 14 = .ok (.aload_n 1, 1) := by decide +kernel
theorem dX9_addSign_15 : decode cX9_addSign 15 = .ok (.iload_n 3, 1) := by decide +kernel
theorem dX9_addSign_16 : decode cX9_addSign 16 = .ok (.iconst 1, 1) := by decide +kernel
theorem dX9_addSign_17 : decode cX9_addSign 17 = .ok (.iadd, 1) := by decide +kernel
theorem dX9_addSign_18 : decode cX9_addSign 18 = .ok (.caload, 1) := by decide +kernel
theorem dX9_addSign_19 : decode cX9_addSign 19 = .ok (.invokestatic 56, 3) := by decide +kernel
theorem dX9_addSign_22 : decode cX9_addSign 22 = .ok (.goto 4, 3) := by decide +kernel
theorem dX9_addSign_25 : decode cX9_addSign 25 = .ok (.iconst 1, 1) := by decide +kernel
theorem dX9_addSign_26 : decode cX9_addSign 26 = .ok (.istore 5, 2) := by decide +kernel
theorem dX9_addSign_28 : decode cX9_addSign 28 = .ok (.iload 5, 2) := by decide +kernel
theorem dX9_addSign_30 : decode cX9_addSign 30 = .ok (.iconst 1, 1) := by decide +kernel
theorem dX9_addSign_31 : decode cX9_addSign 31 = .ok (.if_icmp .eq 14, 3) := by decide +kernel
theorem dX9_addSign_34 : decode cX9_addSign 34 = .ok (.aload_n 0, 1) := by decide +kernel
theorem dX9_addSign_35 : decode cX9_addSign 35 = .ok (.iload 5, 2) := by decide +kernel
theorem dX9_addSign_37 : decode cX9_addSign 37 = .ok (.iconst 0, 1) := by decide +kernel
theorem dX9_addSign_38 : decode cX9_addSign 38 = .ok (.invokevirtual 48, 3) := by decide +kernel
theorem dX9_addSign_41 : decode cX9_addSign 41 = .ok (.iload_n 3, 1) := by decide +kernel
theorem dX9_addSign_42 : decode cX9_addSign 42 = .ok (.iconst 2, 1) := by decide +kernel
theorem dX9_addSign_43 : decode cX9_addSign 43 = .ok (.iadd, 1) := by decide +kernel
theorem dX9_addSign_44 : decode cX9_addSign 44 = .ok (.ireturn, 1) := by decide +kernel
theorem dX9_addSign_45 : decode cX9_addSign 45 = .ok (.aload_n 0, 1) := by decide +kernel
theorem dX9_addSign_46 : decode cX9_addSign 46 = .ok (.ldc 60, 2) := by decide +kernel
theorem dX9_addSign_48 : decode cX9_addSign 48 = .ok (.iload 4, 2) := by decide +kernel
theorem dX9_addSign_50 : decode cX9_addSign 50 = .ok (.invokevirtual 62, 3) := by decide +kernel
theorem dX9_addSign_53 : decode cX9_addSign 53 = .ok (.ifCond .lt 8, 3) := by decide +kernel
theorem dX9_addSign_56 : decode cX9_addSign 56 = .ok (.iload 4, 2) := by decide +kernel
theorem dX9_addSign_58 : decode cX9_addSign 58 = .ok (.goto 4, 3) := by decide +kernel
theorem dX9_addSign_61 : decode cX9_addSign 61 = .ok (.iconst 1, 1) := by decide +kernel
theorem dX9_addSign_62 : decode cX9_addSign 62 = .ok (.iconst 0, 1) := by decide +kernel
theorem dX9_addSign_63 : decode cX9_addSign 63 = .ok (.invokevirtual 48, 3) := by decide +kernel
theorem dX9_addSign_66 : decode cX9_addSign 66 = .ok (.iload_n 3, 1) := by decide +kernel
theorem dX9_addSign_67 : decode cX9_addSign 67 = .ok (.iconst 1, 1) := by decide +kernel
theorem dX9_addSign_68 : decode cX9_addSign 68 = .ok (.iadd, 1) := by decide +kernel
theorem dX9_addSign_69 : decode cX9_addSign 69 = .ok (.ireturn, 1) := by decide +kernel
theorem b_X9_addSign_0 {h : Nat} {L : LVs} {st : List AV} {S : ST} {Q : Option AV → ST → Prop} (k : o_al L st S (fun L st S => o_il L st S (fun L st S => o_cald L st S (fun L st S => o_is L st S (fun L st S => o_il L st S (fun L st S => o_c L st S (fun L st S => o_iadd L st S (fun L st S => o_il L st S (fun L st S => t_2 L st S (fun x y => y ≤ x) (fun L st S => V MX9_addSign h 25 L st S Q) (fun L st S => V MX9_addSign h 12 L st S Q)) 2)) (nI 1)) 3) 4)) 3) 1) : V MX9_addSign h 0 L st S Q :=
  v_aload_n dX9_addSign_0 rfl (fun L st S k => v_iload_n dX9_addSign_1 rfl (fun L st S k => v_caload dX9_addSign_2 (fun L st S k => v_istore dX9_addSign_3 (by decide) (fun L st S k => v_iload_n dX9_addSign_5 rfl (fun L st S k => v_iconst dX9_addSign_6 (by decide) (fun L st S k => v_iadd dX9_addSign_7 (fun L st S k => v_iload_n dX9_addSign_8 rfl (fun L st S k => w_icmp_ge dX9_addSign_9 (by decide) rfl k) k) k) k) k) k) k) k) k
theorem b_X9_addSign_12 {h : Nat} {L : LVs} {st : List AV} {S : ST} {Q : Option AV → ST → Prop} (k : o_il L st S (fun L st S => o_al L st S (fun L st S => o_il L st S (fun L st S => o_c L st S (fun L st S => o_iadd L st S (fun L st S => o_cald L st S (fun L st S => V MX9_addSign h 19 L st S Q))) (nI 1)) 3) 1) 4) : V MX9_addSign h 12 L st S Q :=
  v_iload dX9_addSign_12 (fun L st S k => v_aload_n dX9_addSign_14 rfl (fun L st S k => v_iload_n dX9_addSign_15 rfl (fun L st S k => v_iconst dX9_addSign_16 (by decide) (fun L st S k => v_iadd dX9_addSign_17 (fun L st S k => v_caload dX9_addSign_18 (fun L st S k => k) k) k) k) k) k) k
theorem k_X9_addSign_19 {h : Nat} {L : LVs} {st : List AV} {S : ST} {Q Q' : Option AV → ST → Prop} {a0 a1 : AV} (hC : Ct MX9_kindOfPair h [a0, a1] S Q') (k : ∀ (r : Option AV) (S' : ST), Q' r S' → V MX9_addSign (h + 1) 22 L (r.toList ++ st) S' Q) (hw : wid st ≤ 8) : V MX9_addSign (h + 1) 19 L (a1 :: a0 :: st) S Q :=
  v_callS (M' := MX9_kindOfPair) (As := [a0, a1]) dX9_addSign_19 ml_X9_56 sm_X9_kindOfPair in_X9 cd_X9_kindOfPair ⟨rfl, np_X9_kindOfPair⟩ (by decide) hw hC k
theorem b_X9_addSign_22 {h : Nat} {L : LVs} {st : List AV} {S : ST} {Q : Option AV → ST → Prop} (k : V MX9_addSign h 26 L st S Q) : V MX9_addSign h 22 L st S Q :=
  v_goto dX9_addSign_22 (by decide) k
theorem b_X9_addSign_25 {h : Nat} {L : LVs} {st : List AV} {S : ST} {Q : Option AV → ST → Prop} (k : o_c L st S (fun L st S => V MX9_addSign h 26 L st S Q) (nI 1)) : V MX9_addSign h 25 L st S Q :=
  v_iconst dX9_addSign_25 (by decide) (fun L st S k => k) k
theorem b_X9_addSign_26 {h : Nat} {L : LVs} {st : List AV} {S : ST} {Q : Option AV → ST → Prop} (k : o_is L st S (fun L st S => o_il L st S (fun L st S => o_c L st S (fun L st S => t_2 L st S (fun x y => x = y) (fun L st S => V MX9_addSign h 45 L st S Q) (fun L st S => V MX9_addSign h 34 L st S Q)) (nI 1)) 5) 5) : V MX9_addSign h 26 L st S Q :=
  v_istore dX9_addSign_26 (by decide) (fun L st S k => v_iload dX9_addSign_28 (fun L st S k => v_iconst dX9_addSign_30 (by decide) (fun L st S k => w_icmp_eq dX9_addSign_31 (by decide) rfl k) k) k) k
theorem b_X9_addSign_34 {h : Nat} {L : LVs} {st : List AV} {S : ST} {Q : Option AV → ST → Prop} (k : o_al L st S (fun L st S => o_il L st S (fun L st S => o_c L st S (fun L st S => V MX9_addSign h 38 L st S Q) (nI 0)) 5) 0) : V MX9_addSign h 34 L st S Q :=
  v_aload_n dX9_addSign_34 rfl (fun L st S k => v_iload dX9_addSign_35 (fun L st S k => v_iconst dX9_addSign_37 (by decide) (fun L st S k => k) k) k) k
theorem k_X9_addSign_38 {h : Nat} {L : LVs} {st : List AV} {S : ST} {Q Q' : Option AV → ST → Prop} {j : Nat} {a0 a1 : AV} (hC : Ct MX9_add h [vR 9 j, a0, a1] S Q') (k : ∀ (r : Option AV) (S' : ST), Q' r S' → V MX9_addSign (h + 1) 41 L (r.toList ++ st) S' Q) (hj : j < NI 9) (hw : wid st ≤ 8) : V MX9_addSign (h + 1) 38 L (a1 :: a0 :: vR 9 j :: st) S Q :=
  v_callV (M' := MX9_add) (c := 9) (As := [a0, a1]) dX9_addSign_38 ml_X9_48 im_X9_add se_X9_add in_X9 cd_X9_add rfl LY_9 np_X9_add (by decide) hw hj hC k
theorem b_X9_addSign_41 {h : Nat} {L : LVs} {st : List AV} {S : ST} {Q : Option AV → ST → Prop} (k : o_il L st S (fun L st S => o_c L st S (fun L st S => o_iadd L st S (fun L st S => t_ir st S Q)) (nI 2)) 3) : V MX9_addSign h 41 L st S Q :=
  v_iload_n dX9_addSign_41 rfl (fun L st S k => v_iconst dX9_addSign_42 (by decide) (fun L st S k => v_iadd dX9_addSign_43 (fun L st S k => w_ir dX9_addSign_44 rfl k) k) k) k
theorem b_X9_addSign_45 {h : Nat} {L : LVs} {st : List AV} {S : ST} {Q : Option AV → ST → Prop} (k : o_al L st S (fun L st S => V MX9_addSign h 46 L st S Q) 0) : V MX9_addSign h 45 L st S Q :=
  v_aload_n dX9_addSign_45 rfl (fun L st S k => k) k
-- by hand: X9_addSign at 46: a text
theorem b_X9_addSign_48 {h : Nat} {L : LVs} {st : List AV} {S : ST} {Q : Option AV → ST → Prop} (k : o_il L st S (fun L st S => V MX9_addSign h 50 L st S Q) 4) : V MX9_addSign h 48 L st S Q :=
  v_iload dX9_addSign_48 (fun L st S k => k) k
-- by hand: X9_addSign at 50: invokevirtual ('java/lang/String', 'indexOf', '(I)I')
theorem b_X9_addSign_53 {h : Nat} {L : LVs} {st : List AV} {S : ST} {Q : Option AV → ST → Prop} (k : t_1 L st S (fun x => x < nI 0) (fun L st S => V MX9_addSign h 61 L st S Q) (fun L st S => V MX9_addSign h 56 L st S Q)) : V MX9_addSign h 53 L st S Q :=
  w_if_lt dX9_addSign_53 (by decide) rfl k
theorem b_X9_addSign_56 {h : Nat} {L : LVs} {st : List AV} {S : ST} {Q : Option AV → ST → Prop} (k : o_il L st S (fun L st S => V MX9_addSign h 62 L st S Q) 4) : V MX9_addSign h 56 L st S Q :=
  v_iload dX9_addSign_56 (fun L st S k => v_goto dX9_addSign_58 (by decide) k) k
theorem b_X9_addSign_61 {h : Nat} {L : LVs} {st : List AV} {S : ST} {Q : Option AV → ST → Prop} (k : o_c L st S (fun L st S => V MX9_addSign h 62 L st S Q) (nI 1)) : V MX9_addSign h 61 L st S Q :=
  v_iconst dX9_addSign_61 (by decide) (fun L st S k => k) k
theorem b_X9_addSign_62 {h : Nat} {L : LVs} {st : List AV} {S : ST} {Q : Option AV → ST → Prop} (k : o_c L st S (fun L st S => V MX9_addSign h 63 L st S Q) (nI 0)) : V MX9_addSign h 62 L st S Q :=
  v_iconst dX9_addSign_62 (by decide) (fun L st S k => k) k
theorem k_X9_addSign_63 {h : Nat} {L : LVs} {st : List AV} {S : ST} {Q Q' : Option AV → ST → Prop} {j : Nat} {a0 a1 : AV} (hC : Ct MX9_add h [vR 9 j, a0, a1] S Q') (k : ∀ (r : Option AV) (S' : ST), Q' r S' → V MX9_addSign (h + 1) 66 L (r.toList ++ st) S' Q) (hj : j < NI 9) (hw : wid st ≤ 8) : V MX9_addSign (h + 1) 63 L (a1 :: a0 :: vR 9 j :: st) S Q :=
  v_callV (M' := MX9_add) (c := 9) (As := [a0, a1]) dX9_addSign_63 ml_X9_48 im_X9_add se_X9_add in_X9 cd_X9_add rfl LY_9 np_X9_add (by decide) hw hj hC k
theorem b_X9_addSign_66 {h : Nat} {L : LVs} {st : List AV} {S : ST} {Q : Option AV → ST → Prop} (k : o_il L st S (fun L st S => o_c L st S (fun L st S => o_iadd L st S (fun L st S => t_ir st S Q)) (nI 1)) 3) : V MX9_addSign h 66 L st S Q :=
  v_iload_n dX9_addSign_66 rfl (fun L st S k => v_iconst dX9_addSign_67 (by decide) (fun L st S k => v_iadd dX9_addSign_68 (fun L st S k => w_ir dX9_addSign_69 rfl k) k) k) k
-- QueryForge$Words.add(II)V
theorem dX9_add_0 : decode cX9_add 0 = .ok (.aload_n 0, 1) := by decide +kernel
theorem dX9_add_1 : decode cX9_add 1 = .ok (.getfield 18, 3) := by decide +kernel
theorem dX9_add_4 : decode cX9_add 4 = .ok (.sipush 200, 3) := by decide +kernel
theorem dX9_add_7 : decode cX9_add 7 = .ok (.if_icmp .ge 33, 3) := by decide +kernel
theorem dX9_add_10 : decode cX9_add 10 = .ok (.aload_n 0, 1) := by decide +kernel
theorem dX9_add_11 : decode cX9_add 11 = .ok (.getfield 9, 3) := by decide +kernel
theorem dX9_add_14 : decode cX9_add 14 = .ok (.aload_n 0, 1) := by decide +kernel
theorem dX9_add_15 : decode cX9_add 15 = .ok (.getfield 18, 3) := by decide +kernel
theorem dX9_add_18 : decode cX9_add 18 = .ok (.iload_n 1, 1) := by decide +kernel
theorem dX9_add_19 : decode cX9_add 19 = .ok (.iastore, 1) := by decide +kernel
theorem dX9_add_20 : decode cX9_add 20 = .ok (.aload_n 0, 1) := by decide +kernel
theorem dX9_add_21 : decode cX9_add 21 = .ok (.getfield 15, 3) := by decide +kernel
theorem dX9_add_24 : decode cX9_add 24 = .ok (.aload_n 0, 1) := by decide +kernel
theorem dX9_add_25 : decode cX9_add 25 = .ok (.getfield 18, 3) := by decide +kernel
theorem dX9_add_28 : decode cX9_add 28 = .ok (.iload_n 2, 1) := by decide +kernel
theorem dX9_add_29 : decode cX9_add 29 = .ok (.iastore, 1) := by decide +kernel
theorem dX9_add_30 : decode cX9_add 30 = .ok (.aload_n 0, 1) := by decide +kernel
theorem dX9_add_31 : decode cX9_add 31 = .ok (.dup, 1) := by decide +kernel
theorem dX9_add_32 : decode cX9_add 32 = .ok (.getfield 18, 3) := by decide +kernel
theorem dX9_add_35 : decode cX9_add 35 = .ok (.iconst 1, 1) := by decide +kernel
theorem dX9_add_36 : decode cX9_add 36 = .ok (.iadd, 1) := by decide +kernel
theorem dX9_add_37 : decode cX9_add 37 = .ok (.putfield 18, 3) := by decide +kernel
theorem dX9_add_40 : decode cX9_add 40 = .ok (.return_, 1) := by decide +kernel
theorem b_X9_add_0 {h : Nat} {L : LVs} {st : List AV} {S : ST} {Q : Option AV → ST → Prop} (k : o_al L st S (fun L st S => o_get L st S (fun L st S => o_c L st S (fun L st S => t_2 L st S (fun x y => y ≤ x) (fun L st S => V MX9_add h 40 L st S Q) (fun L st S => V MX9_add h 10 L st S Q)) (nI 200)) 9 2 (0, 0, 0)) 0) : V MX9_add h 0 L st S Q :=
  v_aload_n dX9_add_0 rfl (fun L st S k => v_get dX9_add_1 rfl iX9 LY_9 rfl (by decide) rfl fl_X9_18 (fun L st S k => v_sipush dX9_add_4 (by decide) (fun L st S k => w_icmp_ge dX9_add_7 (by decide) rfl k) k) k) k
theorem b_X9_add_10 {h : Nat} {L : LVs} {st : List AV} {S : ST} {Q : Option AV → ST → Prop} (k : o_al L st S (fun L st S => o_get L st S (fun L st S => o_al L st S (fun L st S => o_get L st S (fun L st S => o_il L st S (fun L st S => o_iast L st S (fun L st S => o_al L st S (fun L st S => o_get L st S (fun L st S => o_al L st S (fun L st S => o_get L st S (fun L st S => o_il L st S (fun L st S => o_iast L st S (fun L st S => o_al L st S (fun L st S => o_dup L st S (fun L st S => o_get L st S (fun L st S => o_c L st S (fun L st S => o_iadd L st S (fun L st S => o_puti L st S (fun L st S => V MX9_add h 40 L st S Q) 9 2)) (nI 1)) 9 2 (0, 0, 0))) 0)) 2) 9 2 (0, 0, 0)) 0) 9 1 (3, 38, 0)) 0)) 1) 9 2 (0, 0, 0)) 0) 9 0 (3, 37, 0)) 0) : V MX9_add h 10 L st S Q :=
  v_aload_n dX9_add_10 rfl (fun L st S k => v_get dX9_add_11 rfl iX9 LY_9 rfl (by decide) rfl fl_X9_9 (fun L st S k => v_aload_n dX9_add_14 rfl (fun L st S k => v_get dX9_add_15 rfl iX9 LY_9 rfl (by decide) rfl fl_X9_18 (fun L st S k => v_iload_n dX9_add_18 rfl (fun L st S k => v_iastore dX9_add_19 (fun L st S k => v_aload_n dX9_add_20 rfl (fun L st S k => v_get dX9_add_21 rfl iX9 LY_9 rfl (by decide) rfl fl_X9_15 (fun L st S k => v_aload_n dX9_add_24 rfl (fun L st S k => v_get dX9_add_25 rfl iX9 LY_9 rfl (by decide) rfl fl_X9_18 (fun L st S k => v_iload_n dX9_add_28 rfl (fun L st S k => v_iastore dX9_add_29 (fun L st S k => v_aload_n dX9_add_30 rfl (fun L st S k => v_dup dX9_add_31 (fun L st S k => v_get dX9_add_32 rfl iX9 LY_9 rfl (by decide) rfl fl_X9_18 (fun L st S k => v_iconst dX9_add_35 (by decide) (fun L st S k => v_iadd dX9_add_36 (fun L st S k => v_puti dX9_add_37 rfl iX9 tyX9_ok nmX9 LY_9 rfl (by decide) rfl fl_X9_18 rfl rfl (fun L st S k => k) k) k) k) k) k) k) k) k) k) k) k) k) k) k) k) k) k) k
theorem b_X9_add_40 {h : Nat} {L : LVs} {st : List AV} {S : ST} {Q : Option AV → ST → Prop} (k : t_vr st S Q) : V MX9_add h 40 L st S Q :=
  w_vr dX9_add_40 rfl k
-- QueryForge$Words.kindOfLetters([CII)I
theorem dX9_kindOfLetters_0 : decode cX9_kindOfLetters 0 = .ok (.iconst 0, 1) := by decide +kernel
theorem dX9_kindOfLetters_1 : decode cX9_kindOfLetters 1 = .ok (.istore_n 3, 1) := by decide +kernel
theorem dX9_kindOfLetters_2 : decode cX9_kindOfLetters 2 = .ok (.iload_n 3, 1) := by decide +kernel
theorem dX9_kindOfLetters_3 : decode cX9_kindOfLetters 3 = .ok (.bipush 22, 2) := by decide +kernel
theorem dX9_kindOfLetters_5 : decode cX9_kindOfLetters 5 = .ok (.if_icmp .ge 28, 3) := by decide +kernel
theorem dX9_kindOfLetters_8 : decode cX9_kindOfLetters 8 = .ok (.aload_n 0, 1) := by decide +kernel
theorem dX9_kindOfLetters_9 : decode cX9_kindOfLetters 9 = .ok (.iload_n 1, 1) := by decide +kernel
theorem dX9_kindOfLetters_10 : decode cX9_kindOfLetters 10 = .ok (.iload_n 2, 1) := by decide +kernel
theorem dX9_kindOfLetters_11 : decode cX9_kindOfLetters 11 = .ok (.iload_n 3, 1) := by decide +kernel
theorem dX9_kindOfLetters_12 : decode cX9_kindOfLetters 12 = .ok (.bipush 7, 2) := by decide +kernel
theorem dX9_kindOfLetters_14 : decode cX9_kindOfLetters 14 = .ok (.imul, 1) := by decide +kernel
theorem dX9_kindOfLetters_15 : decode cX9_kindOfLetters 15 = .ok (.invokestatic 68, 3) := by decide +kernel
theorem dX9_kindOfLetters_18 : decode cX9_kindOfLetters 18 = .ok (.ifCond .eq 9, 3) := by decide +kernel
theorem dX9_kindOfLetters_21 : decode cX9_kindOfLetters 21 = .ok (.sipush 200, 3) := by decide +kernel
theorem dX9_kindOfLetters_24 : decode cX9_kindOfLetters 24 = .ok (.iload_n 3, 1) := by decide +kernel
theorem dX9_kindOfLetters_25 : decode cX9_kindOfLetters 25 = .ok (.iadd, 1) := by decide +kernel
theorem dX9_kindOfLetters_26 : decode cX9_kindOfLetters 26 = .ok (.ireturn, 1) := by decide +kernel
theorem dX9_kindOfLetters_27 : decode cX9_kindOfLetters 27 = .ok (.iinc 3 1, 3) := by decide +kernel
theorem dX9_kindOfLetters_30 : decode cX9_kindOfLetters 30 = .ok (.goto (-28), 3) := by decide +kernel
theorem dX9_kindOfLetters_33 : decode cX9_kindOfLetters 33 = .ok (.iconst 2, 1) := by decide +kernel
theorem dX9_kindOfLetters_34 : decode cX9_kindOfLetters 34 = .ok (.ireturn, 1) := by decide +kernel
theorem b_X9_kindOfLetters_0 {h : Nat} {L : LVs} {st : List AV} {S : ST} {Q : Option AV → ST → Prop} (k : o_c L st S (fun L st S => o_is L st S (fun L st S => V MX9_kindOfLetters h 2 L st S Q) 3) (nI 0)) : V MX9_kindOfLetters h 0 L st S Q :=
  v_iconst dX9_kindOfLetters_0 (by decide) (fun L st S k => v_istore_n dX9_kindOfLetters_1 rfl (by decide) (fun L st S k => k) k) k
theorem b_X9_kindOfLetters_2 {h : Nat} {L : LVs} {st : List AV} {S : ST} {Q : Option AV → ST → Prop} (k : o_il L st S (fun L st S => o_c L st S (fun L st S => t_2 L st S (fun x y => y ≤ x) (fun L st S => V MX9_kindOfLetters h 33 L st S Q) (fun L st S => V MX9_kindOfLetters h 8 L st S Q)) (nI 22)) 3) : V MX9_kindOfLetters h 2 L st S Q :=
  v_iload_n dX9_kindOfLetters_2 rfl (fun L st S k => v_bipush dX9_kindOfLetters_3 (by decide) (fun L st S k => w_icmp_ge dX9_kindOfLetters_5 (by decide) rfl k) k) k
theorem b_X9_kindOfLetters_8 {h : Nat} {L : LVs} {st : List AV} {S : ST} {Q : Option AV → ST → Prop} (k : o_al L st S (fun L st S => o_il L st S (fun L st S => o_il L st S (fun L st S => o_il L st S (fun L st S => o_c L st S (fun L st S => o_imul L st S (fun L st S => V MX9_kindOfLetters h 15 L st S Q)) (nI 7)) 3) 2) 1) 0) : V MX9_kindOfLetters h 8 L st S Q :=
  v_aload_n dX9_kindOfLetters_8 rfl (fun L st S k => v_iload_n dX9_kindOfLetters_9 rfl (fun L st S k => v_iload_n dX9_kindOfLetters_10 rfl (fun L st S k => v_iload_n dX9_kindOfLetters_11 rfl (fun L st S k => v_bipush dX9_kindOfLetters_12 (by decide) (fun L st S k => v_imul dX9_kindOfLetters_14 (fun L st S k => k) k) k) k) k) k) k
theorem k_X9_kindOfLetters_15 {h : Nat} {L : LVs} {st : List AV} {S : ST} {Q Q' : Option AV → ST → Prop} {a0 a1 a2 a3 : AV} (hC : Ct MX9_isReserved h [a0, a1, a2, a3] S Q') (k : ∀ (r : Option AV) (S' : ST), Q' r S' → V MX9_kindOfLetters (h + 1) 18 L (r.toList ++ st) S' Q) (hw : wid st ≤ 8) : V MX9_kindOfLetters (h + 1) 15 L (a3 :: a2 :: a1 :: a0 :: st) S Q :=
  v_callS (M' := MX9_isReserved) (As := [a0, a1, a2, a3]) dX9_kindOfLetters_15 ml_X9_68 sm_X9_isReserved in_X9 cd_X9_isReserved ⟨rfl, np_X9_isReserved⟩ (by decide) hw hC k
theorem b_X9_kindOfLetters_18 {h : Nat} {L : LVs} {st : List AV} {S : ST} {Q : Option AV → ST → Prop} (k : t_1 L st S (fun x => x = nI 0) (fun L st S => V MX9_kindOfLetters h 27 L st S Q) (fun L st S => V MX9_kindOfLetters h 21 L st S Q)) : V MX9_kindOfLetters h 18 L st S Q :=
  w_if_eq dX9_kindOfLetters_18 (by decide) rfl k
theorem b_X9_kindOfLetters_21 {h : Nat} {L : LVs} {st : List AV} {S : ST} {Q : Option AV → ST → Prop} (k : o_c L st S (fun L st S => o_il L st S (fun L st S => o_iadd L st S (fun L st S => t_ir st S Q)) 3) (nI 200)) : V MX9_kindOfLetters h 21 L st S Q :=
  v_sipush dX9_kindOfLetters_21 (by decide) (fun L st S k => v_iload_n dX9_kindOfLetters_24 rfl (fun L st S k => v_iadd dX9_kindOfLetters_25 (fun L st S k => w_ir dX9_kindOfLetters_26 rfl k) k) k) k
theorem b_X9_kindOfLetters_27 {h : Nat} {L : LVs} {st : List AV} {S : ST} {Q : Option AV → ST → Prop} (k : o_inc L st S (fun L st S => V MX9_kindOfLetters h 2 L st S Q) 3 (nI 1)) : V MX9_kindOfLetters h 27 L st S Q :=
  v_iinc dX9_kindOfLetters_27 (by decide) (by decide) (fun L st S k => v_goto dX9_kindOfLetters_30 (by decide) k) k
theorem b_X9_kindOfLetters_33 {h : Nat} {L : LVs} {st : List AV} {S : ST} {Q : Option AV → ST → Prop} (k : o_c L st S (fun L st S => t_ir st S Q) (nI 2)) : V MX9_kindOfLetters h 33 L st S Q :=
  v_iconst dX9_kindOfLetters_33 (by decide) (fun L st S k => w_ir dX9_kindOfLetters_34 rfl k) k
-- QueryForge$Words.isReserved([CIII)Z
theorem dX9_isReserved_0 : decode cX9_isReserved 0 = .ok (.iconst 0, 1) := by decide +kernel
theorem dX9_isReserved_1 : decode cX9_isReserved 1 = .ok (.istore 4, 2) := by decide +kernel
theorem dX9_isReserved_3 : decode cX9_isReserved 3 = .ok (.iload 4, 2) := by decide +kernel
theorem dX9_isReserved_5 : decode cX9_isReserved 5 = .ok (.iload_n 2, 1) := by decide +kernel
theorem dX9_isReserved_6 : decode cX9_isReserved 6 = .ok (.iload_n 1, 1) := by decide +kernel
theorem dX9_isReserved_7 : decode cX9_isReserved 7 = .ok (.isub, 1) := by decide +kernel
theorem dX9_isReserved_8 : decode cX9_isReserved 8 = .ok (.if_icmp .ge 29, 3) := by decide +kernel
theorem dX9_isReserved_11 : decode cX9_isReserved 11 = .ok (.ldc 72, 2) := by decide +kernel
theorem dX9_isReserved_13 : decode cX9_isReserved 13 = .ok (.iload_n 3, 1) := by decide +kernel
theorem dX9_isReserved_14 : decode cX9_isReserved 14 = .ok (.iload 4, 2) := by decide +kernel
theorem dX9_isReserved_16 : decode cX9_isReserved 16 = .ok (.iadd, 1) := by decide +kernel
theorem dX9_isReserved_17 : decode cX9_isReserved 17 = .ok (.invokevirtual 74, 3) := by decide +kernel
theorem dX9_isReserved_20 : decode cX9_isReserved 20 = .ok (.aload_n 0, 1) := by decide +kernel
theorem dX9_isReserved_21 : decode cX9_isReserved 21 = .ok (.iload_n 1, 1) := by decide +kernel
theorem dX9_isReserved_22 : decode cX9_isReserved 22 = .ok (.iload 4, 2) := by decide +kernel
theorem dX9_isReserved_24 : decode cX9_isReserved 24 = .ok (.iadd, 1) := by decide +kernel
theorem dX9_isReserved_25 : decode cX9_isReserved 25 = .ok (.caload, 1) := by decide +kernel
theorem dX9_isReserved_26 : decode cX9_isReserved 26 = .ok (.if_icmp .eq 5, 3) := by decide +kernel
theorem dX9_isReserved_29 : decode cX9_isReserved 29 = .ok (.iconst 0, 1) := by decide +kernel
theorem dX9_isReserved_30 : decode cX9_isReserved 30 = .ok (.ireturn, 1) := by decide +kernel
theorem dX9_isReserved_31 : decode cX9_isReserved 31 = .ok (.iinc 4 1, 3) := by decide +kernel
theorem dX9_isReserved_34 : decode cX9_isReserved 34 = .ok (.goto (-31), 3) := by decide +kernel
theorem dX9_isReserved_37 : decode cX9_isReserved 37 = .ok (.ldc 72, 2) := by decide +kernel
theorem dX9_isReserved_39 : decode cX9_isReserved 39 = .ok (.iload_n 3, 1) := by decide +kernel
theorem dX9_isReserved_40 : decode cX9_isReserved 40 = .ok (.iload_n 2, 1) := by decide +kernel
theorem dX9_isReserved_41 : decode cX9_isReserved 41 = .ok (.iadd, 1) := by decide +kernel
theorem dX9_isReserved_42 : decode cX9_isReserved 42 = .ok (.iload_n 1, 1) := by decide +kernel
theorem dX9_isReserved_43 : decode cX9_isReserved 43 = .ok (.isub, 1) := by decide +kernel
theorem dX9_isReserved_44 : decode cX9_isReserved 44 = .ok (.invokevirtual 74, 3) := by decide +kernel
theorem dX9_isReserved_47 : decode cX9_isReserved 47 = .ok (.bipush 32, 2) := by decide +kernel
theorem dX9_isReserved_49 : decode cX9_isReserved 49 = .ok (.if_icmp .ne 7, 3) := by decide +kernel
theorem dX9_isReserved_52 : decode cX9_isReserved 52 = .ok (.iconst 1, 1) := by decide +kernel
theorem dX9_isReserved_53 : decode cX9_isReserved 53 = .ok (.goto 4, 3) := by decide +kernel
theorem dX9_isReserved_56 : decode cX9_isReserved 56 = .ok (.iconst 0, 1) := by decide +kernel
theorem dX9_isReserved_57 : decode cX9_isReserved 57 = .ok (.ireturn, 1) := by decide +kernel
theorem b_X9_isReserved_0 {h : Nat} {L : LVs} {st : List AV} {S : ST} {Q : Option AV → ST → Prop} (k : o_c L st S (fun L st S => o_is L st S (fun L st S => V MX9_isReserved h 3 L st S Q) 4) (nI 0)) : V MX9_isReserved h 0 L st S Q :=
  v_iconst dX9_isReserved_0 (by decide) (fun L st S k => v_istore dX9_isReserved_1 (by decide) (fun L st S k => k) k) k
theorem b_X9_isReserved_3 {h : Nat} {L : LVs} {st : List AV} {S : ST} {Q : Option AV → ST → Prop} (k : o_il L st S (fun L st S => o_il L st S (fun L st S => o_il L st S (fun L st S => o_isub L st S (fun L st S => t_2 L st S (fun x y => y ≤ x) (fun L st S => V MX9_isReserved h 37 L st S Q) (fun L st S => V MX9_isReserved h 11 L st S Q))) 1) 2) 4) : V MX9_isReserved h 3 L st S Q :=
  v_iload dX9_isReserved_3 (fun L st S k => v_iload_n dX9_isReserved_5 rfl (fun L st S k => v_iload_n dX9_isReserved_6 rfl (fun L st S k => v_isub dX9_isReserved_7 (fun L st S k => w_icmp_ge dX9_isReserved_8 (by decide) rfl k) k) k) k) k
-- by hand: X9_isReserved at 11: a text
theorem b_X9_isReserved_13 {h : Nat} {L : LVs} {st : List AV} {S : ST} {Q : Option AV → ST → Prop} (k : o_il L st S (fun L st S => o_il L st S (fun L st S => o_iadd L st S (fun L st S => V MX9_isReserved h 17 L st S Q)) 4) 3) : V MX9_isReserved h 13 L st S Q :=
  v_iload_n dX9_isReserved_13 rfl (fun L st S k => v_iload dX9_isReserved_14 (fun L st S k => v_iadd dX9_isReserved_16 (fun L st S k => k) k) k) k
-- by hand: X9_isReserved at 17: invokevirtual ('java/lang/String', 'charAt', '(I)C')
theorem b_X9_isReserved_20 {h : Nat} {L : LVs} {st : List AV} {S : ST} {Q : Option AV → ST → Prop} (k : o_al L st S (fun L st S => o_il L st S (fun L st S => o_il L st S (fun L st S => o_iadd L st S (fun L st S => o_cald L st S (fun L st S => t_2 L st S (fun x y => x = y) (fun L st S => V MX9_isReserved h 31 L st S Q) (fun L st S => V MX9_isReserved h 29 L st S Q)))) 4) 1) 0) : V MX9_isReserved h 20 L st S Q :=
  v_aload_n dX9_isReserved_20 rfl (fun L st S k => v_iload_n dX9_isReserved_21 rfl (fun L st S k => v_iload dX9_isReserved_22 (fun L st S k => v_iadd dX9_isReserved_24 (fun L st S k => v_caload dX9_isReserved_25 (fun L st S k => w_icmp_eq dX9_isReserved_26 (by decide) rfl k) k) k) k) k) k
theorem b_X9_isReserved_29 {h : Nat} {L : LVs} {st : List AV} {S : ST} {Q : Option AV → ST → Prop} (k : o_c L st S (fun L st S => t_zr st S Q) (nI 0)) : V MX9_isReserved h 29 L st S Q :=
  v_iconst dX9_isReserved_29 (by decide) (fun L st S k => w_zr dX9_isReserved_30 rfl k) k
theorem b_X9_isReserved_31 {h : Nat} {L : LVs} {st : List AV} {S : ST} {Q : Option AV → ST → Prop} (k : o_inc L st S (fun L st S => V MX9_isReserved h 3 L st S Q) 4 (nI 1)) : V MX9_isReserved h 31 L st S Q :=
  v_iinc dX9_isReserved_31 (by decide) (by decide) (fun L st S k => v_goto dX9_isReserved_34 (by decide) k) k
-- by hand: X9_isReserved at 37: a text
theorem b_X9_isReserved_39 {h : Nat} {L : LVs} {st : List AV} {S : ST} {Q : Option AV → ST → Prop} (k : o_il L st S (fun L st S => o_il L st S (fun L st S => o_iadd L st S (fun L st S => o_il L st S (fun L st S => o_isub L st S (fun L st S => V MX9_isReserved h 44 L st S Q)) 1)) 2) 3) : V MX9_isReserved h 39 L st S Q :=
  v_iload_n dX9_isReserved_39 rfl (fun L st S k => v_iload_n dX9_isReserved_40 rfl (fun L st S k => v_iadd dX9_isReserved_41 (fun L st S k => v_iload_n dX9_isReserved_42 rfl (fun L st S k => v_isub dX9_isReserved_43 (fun L st S k => k) k) k) k) k) k
-- by hand: X9_isReserved at 44: invokevirtual ('java/lang/String', 'charAt', '(I)C')
theorem b_X9_isReserved_47 {h : Nat} {L : LVs} {st : List AV} {S : ST} {Q : Option AV → ST → Prop} (k : o_c L st S (fun L st S => t_2 L st S (fun x y => x = y) (fun L st S => V MX9_isReserved h 52 L st S Q) (fun L st S => V MX9_isReserved h 56 L st S Q)) (nI 32)) : V MX9_isReserved h 47 L st S Q :=
  v_bipush dX9_isReserved_47 (by decide) (fun L st S k => w_icmp_ne dX9_isReserved_49 (by decide) rfl k) k
theorem b_X9_isReserved_52 {h : Nat} {L : LVs} {st : List AV} {S : ST} {Q : Option AV → ST → Prop} (k : o_c L st S (fun L st S => V MX9_isReserved h 57 L st S Q) (nI 1)) : V MX9_isReserved h 52 L st S Q :=
  v_iconst dX9_isReserved_52 (by decide) (fun L st S k => v_goto dX9_isReserved_53 (by decide) k) k
theorem b_X9_isReserved_56 {h : Nat} {L : LVs} {st : List AV} {S : ST} {Q : Option AV → ST → Prop} (k : o_c L st S (fun L st S => V MX9_isReserved h 57 L st S Q) (nI 0)) : V MX9_isReserved h 56 L st S Q :=
  v_iconst dX9_isReserved_56 (by decide) (fun L st S k => k) k
theorem b_X9_isReserved_57 {h : Nat} {L : LVs} {st : List AV} {S : ST} {Q : Option AV → ST → Prop} (k : t_zr st S Q) : V MX9_isReserved h 57 L st S Q :=
  w_zr dX9_isReserved_57 rfl k
-- QueryForge$Words.kindOfPair(CC)I
theorem dX9_kindOfPair_0 : decode cX9_kindOfPair 0 = .ok (.iload_n 0, 1) := by decide +kernel
theorem dX9_kindOfPair_1 : decode cX9_kindOfPair 1 = .ok (.bipush 60, 2) := by decide +kernel
theorem dX9_kindOfPair_3 : decode cX9_kindOfPair 3 = .ok (.if_icmp .ne 12, 3) := by decide +kernel
theorem dX9_kindOfPair_6 : decode cX9_kindOfPair 6 = .ok (.iload_n 1, 1) := by decide +kernel
theorem dX9_kindOfPair_7 : decode cX9_kindOfPair 7 = .ok (.bipush 62, 2) := by decide +kernel
theorem dX9_kindOfPair_9 : decode cX9_kindOfPair 9 = .ok (.if_icmp .ne 6, 3) := by decide +kernel
theorem dX9_kindOfPair_12 : decode cX9_kindOfPair 12 = .ok (.bipush 7, 2) := by decide +kernel
theorem dX9_kindOfPair_14 : decode cX9_kindOfPair 14 = .ok (.ireturn, 1) := by decide +kernel
theorem dX9_kindOfPair_15 : decode cX9_kindOfPair 15 = .ok (.iload_n 1, 1) := by decide +kernel
theorem dX9_kindOfPair_16 : decode cX9_kindOfPair 16 = .ok (.bipush 61, 2) := by decide +kernel
theorem dX9_kindOfPair_18 : decode cX9_kindOfPair 18 = .ok (.if_icmp .eq 5, 3) := by decide +kernel
theorem dX9_kindOfPair_21 : decode cX9_kindOfPair 21 = .ok (.iconst 1, 1) := by decide +kernel
theorem dX9_kindOfPair_22 : decode cX9_kindOfPair 22 = .ok (.ireturn, 1) := by decide +kernel
theorem dX9_kindOfPair_23 : decode cX9_kindOfPair 23 = .ok (.iload_n 0, 1) := by decide +kernel
theorem dX9_kindOfPair_24 : decode cX9_kindOfPair 24 = .ok (.bipush 60, 2) := by decide +kernel
theorem dX9_kindOfPair_26 : decode cX9_kindOfPair 26 = .ok (.if_icmp .ne 7, 3) := by decide +kernel
theorem dX9_kindOfPair_29 : decode cX9_kindOfPair 29 = .ok (.iconst 5, 1) := by decide +kernel
theorem dX9_kindOfPair_30 : decode cX9_kindOfPair 30 = .ok (.goto 15, 3) := by decide +kernel
theorem dX9_kindOfPair_33 : decode cX9_kindOfPair 33 = .ok (.iload_n 0, 1) := by decide +kernel
theorem dX9_kindOfPair_34 : decode cX9_kindOfPair 34 = .ok (.bipush 62, 2) := by decide +kernel
theorem dX9_kindOfPair_36 : decode cX9_kindOfPair 36 = .ok (.if_icmp .ne 8, 3) := by decide +kernel
theorem dX9_kindOfPair_39 : decode cX9_kindOfPair 39 = .ok (.bipush 6, 2) := by decide +kernel
theorem dX9_kindOfPair_41 : decode cX9_kindOfPair 41 = .ok (.goto 4, 3) := by decide +kernel
theorem dX9_kindOfPair_44 : decode cX9_kindOfPair 44 = .ok (.iconst 1, 1) := by decide +kernel
theorem dX9_kindOfPair_45 : decode cX9_kindOfPair 45 = .ok (.ireturn, 1) := by decide +kernel
theorem b_X9_kindOfPair_0 {h : Nat} {L : LVs} {st : List AV} {S : ST} {Q : Option AV → ST → Prop} (k : o_il L st S (fun L st S => o_c L st S (fun L st S => t_2 L st S (fun x y => x = y) (fun L st S => V MX9_kindOfPair h 6 L st S Q) (fun L st S => V MX9_kindOfPair h 15 L st S Q)) (nI 60)) 0) : V MX9_kindOfPair h 0 L st S Q :=
  v_iload_n dX9_kindOfPair_0 rfl (fun L st S k => v_bipush dX9_kindOfPair_1 (by decide) (fun L st S k => w_icmp_ne dX9_kindOfPair_3 (by decide) rfl k) k) k
theorem b_X9_kindOfPair_6 {h : Nat} {L : LVs} {st : List AV} {S : ST} {Q : Option AV → ST → Prop} (k : o_il L st S (fun L st S => o_c L st S (fun L st S => t_2 L st S (fun x y => x = y) (fun L st S => V MX9_kindOfPair h 12 L st S Q) (fun L st S => V MX9_kindOfPair h 15 L st S Q)) (nI 62)) 1) : V MX9_kindOfPair h 6 L st S Q :=
  v_iload_n dX9_kindOfPair_6 rfl (fun L st S k => v_bipush dX9_kindOfPair_7 (by decide) (fun L st S k => w_icmp_ne dX9_kindOfPair_9 (by decide) rfl k) k) k
theorem b_X9_kindOfPair_12 {h : Nat} {L : LVs} {st : List AV} {S : ST} {Q : Option AV → ST → Prop} (k : o_c L st S (fun L st S => t_ir st S Q) (nI 7)) : V MX9_kindOfPair h 12 L st S Q :=
  v_bipush dX9_kindOfPair_12 (by decide) (fun L st S k => w_ir dX9_kindOfPair_14 rfl k) k
theorem b_X9_kindOfPair_15 {h : Nat} {L : LVs} {st : List AV} {S : ST} {Q : Option AV → ST → Prop} (k : o_il L st S (fun L st S => o_c L st S (fun L st S => t_2 L st S (fun x y => x = y) (fun L st S => V MX9_kindOfPair h 23 L st S Q) (fun L st S => V MX9_kindOfPair h 21 L st S Q)) (nI 61)) 1) : V MX9_kindOfPair h 15 L st S Q :=
  v_iload_n dX9_kindOfPair_15 rfl (fun L st S k => v_bipush dX9_kindOfPair_16 (by decide) (fun L st S k => w_icmp_eq dX9_kindOfPair_18 (by decide) rfl k) k) k
theorem b_X9_kindOfPair_21 {h : Nat} {L : LVs} {st : List AV} {S : ST} {Q : Option AV → ST → Prop} (k : o_c L st S (fun L st S => t_ir st S Q) (nI 1)) : V MX9_kindOfPair h 21 L st S Q :=
  v_iconst dX9_kindOfPair_21 (by decide) (fun L st S k => w_ir dX9_kindOfPair_22 rfl k) k
theorem b_X9_kindOfPair_23 {h : Nat} {L : LVs} {st : List AV} {S : ST} {Q : Option AV → ST → Prop} (k : o_il L st S (fun L st S => o_c L st S (fun L st S => t_2 L st S (fun x y => x = y) (fun L st S => V MX9_kindOfPair h 29 L st S Q) (fun L st S => V MX9_kindOfPair h 33 L st S Q)) (nI 60)) 0) : V MX9_kindOfPair h 23 L st S Q :=
  v_iload_n dX9_kindOfPair_23 rfl (fun L st S k => v_bipush dX9_kindOfPair_24 (by decide) (fun L st S k => w_icmp_ne dX9_kindOfPair_26 (by decide) rfl k) k) k
theorem b_X9_kindOfPair_29 {h : Nat} {L : LVs} {st : List AV} {S : ST} {Q : Option AV → ST → Prop} (k : o_c L st S (fun L st S => V MX9_kindOfPair h 45 L st S Q) (nI 5)) : V MX9_kindOfPair h 29 L st S Q :=
  v_iconst dX9_kindOfPair_29 (by decide) (fun L st S k => v_goto dX9_kindOfPair_30 (by decide) k) k
theorem b_X9_kindOfPair_33 {h : Nat} {L : LVs} {st : List AV} {S : ST} {Q : Option AV → ST → Prop} (k : o_il L st S (fun L st S => o_c L st S (fun L st S => t_2 L st S (fun x y => x = y) (fun L st S => V MX9_kindOfPair h 39 L st S Q) (fun L st S => V MX9_kindOfPair h 44 L st S Q)) (nI 62)) 0) : V MX9_kindOfPair h 33 L st S Q :=
  v_iload_n dX9_kindOfPair_33 rfl (fun L st S k => v_bipush dX9_kindOfPair_34 (by decide) (fun L st S k => w_icmp_ne dX9_kindOfPair_36 (by decide) rfl k) k) k
theorem b_X9_kindOfPair_39 {h : Nat} {L : LVs} {st : List AV} {S : ST} {Q : Option AV → ST → Prop} (k : o_c L st S (fun L st S => V MX9_kindOfPair h 45 L st S Q) (nI 6)) : V MX9_kindOfPair h 39 L st S Q :=
  v_bipush dX9_kindOfPair_39 (by decide) (fun L st S k => v_goto dX9_kindOfPair_41 (by decide) k) k
theorem b_X9_kindOfPair_44 {h : Nat} {L : LVs} {st : List AV} {S : ST} {Q : Option AV → ST → Prop} (k : o_c L st S (fun L st S => V MX9_kindOfPair h 45 L st S Q) (nI 1)) : V MX9_kindOfPair h 44 L st S Q :=
  v_iconst dX9_kindOfPair_44 (by decide) (fun L st S k => k) k
theorem b_X9_kindOfPair_45 {h : Nat} {L : LVs} {st : List AV} {S : ST} {Q : Option AV → ST → Prop} (k : t_ir st S Q) : V MX9_kindOfPair h 45 L st S Q :=
  w_ir dX9_kindOfPair_45 rfl k
-- QueryForge$Words.isLetter(C)Z
theorem dX9_isLetter_0 : decode cX9_isLetter 0 = .ok (.iload_n 0, 1) := by decide +kernel
theorem dX9_isLetter_1 : decode cX9_isLetter 1 = .ok (.bipush 97, 2) := by decide +kernel
theorem dX9_isLetter_3 : decode cX9_isLetter 3 = .ok (.if_icmp .lt 13, 3) := by decide +kernel
theorem dX9_isLetter_6 : decode cX9_isLetter 6 = .ok (.iload_n 0, 1) := by decide +kernel
theorem dX9_isLetter_7 : decode cX9_isLetter 7 = .ok (.bipush 122, 2) := by decide +kernel
theorem dX9_isLetter_9 : decode cX9_isLetter 9 = .ok (.if_icmp .gt 7, 3) := by decide +kernel
theorem dX9_isLetter_12 : decode cX9_isLetter 12 = .ok (.iconst 1, 1) := by decide +kernel
theorem dX9_isLetter_13 : decode cX9_isLetter 13 = .ok (.goto 4, 3) := by decide +kernel
theorem dX9_isLetter_16 : decode cX9_isLetter 16 = .ok (.iconst 0, 1) := by decide +kernel
theorem dX9_isLetter_17 : decode cX9_isLetter 17 = .ok (.ireturn, 1) := by decide +kernel
theorem b_X9_isLetter_0 {h : Nat} {L : LVs} {st : List AV} {S : ST} {Q : Option AV → ST → Prop} (k : o_il L st S (fun L st S => o_c L st S (fun L st S => t_2 L st S (fun x y => x < y) (fun L st S => V MX9_isLetter h 16 L st S Q) (fun L st S => V MX9_isLetter h 6 L st S Q)) (nI 97)) 0) : V MX9_isLetter h 0 L st S Q :=
  v_iload_n dX9_isLetter_0 rfl (fun L st S k => v_bipush dX9_isLetter_1 (by decide) (fun L st S k => w_icmp_lt dX9_isLetter_3 (by decide) rfl k) k) k
theorem b_X9_isLetter_6 {h : Nat} {L : LVs} {st : List AV} {S : ST} {Q : Option AV → ST → Prop} (k : o_il L st S (fun L st S => o_c L st S (fun L st S => t_2 L st S (fun x y => y < x) (fun L st S => V MX9_isLetter h 16 L st S Q) (fun L st S => V MX9_isLetter h 12 L st S Q)) (nI 122)) 0) : V MX9_isLetter h 6 L st S Q :=
  v_iload_n dX9_isLetter_6 rfl (fun L st S k => v_bipush dX9_isLetter_7 (by decide) (fun L st S k => w_icmp_gt dX9_isLetter_9 (by decide) rfl k) k) k
theorem b_X9_isLetter_12 {h : Nat} {L : LVs} {st : List AV} {S : ST} {Q : Option AV → ST → Prop} (k : o_c L st S (fun L st S => V MX9_isLetter h 17 L st S Q) (nI 1)) : V MX9_isLetter h 12 L st S Q :=
  v_iconst dX9_isLetter_12 (by decide) (fun L st S k => v_goto dX9_isLetter_13 (by decide) k) k
theorem b_X9_isLetter_16 {h : Nat} {L : LVs} {st : List AV} {S : ST} {Q : Option AV → ST → Prop} (k : o_c L st S (fun L st S => V MX9_isLetter h 17 L st S Q) (nI 0)) : V MX9_isLetter h 16 L st S Q :=
  v_iconst dX9_isLetter_16 (by decide) (fun L st S k => k) k
theorem b_X9_isLetter_17 {h : Nat} {L : LVs} {st : List AV} {S : ST} {Q : Option AV → ST → Prop} (k : t_zr st S Q) : V MX9_isLetter h 17 L st S Q :=
  w_zr dX9_isLetter_17 rfl k
-- QueryForge$Words.isDigit(C)Z
theorem dX9_isDigit_0 : decode cX9_isDigit 0 = .ok (.iload_n 0, 1) := by decide +kernel
theorem dX9_isDigit_1 : decode cX9_isDigit 1 = .ok (.bipush 48, 2) := by decide +kernel
theorem dX9_isDigit_3 : decode cX9_isDigit 3 = .ok (.if_icmp .lt 13, 3) := by decide +kernel
theorem dX9_isDigit_6 : decode cX9_isDigit 6 = .ok (.iload_n 0, 1) := by decide +kernel
theorem dX9_isDigit_7 : decode cX9_isDigit 7 = .ok (.bipush 57, 2) := by decide +kernel
theorem dX9_isDigit_9 : decode cX9_isDigit 9 = .ok (.if_icmp .gt 7, 3) := by decide +kernel
theorem dX9_isDigit_12 : decode cX9_isDigit 12 = .ok (.iconst 1, 1) := by decide +kernel
theorem dX9_isDigit_13 : decode cX9_isDigit 13 = .ok (.goto 4, 3) := by decide +kernel
theorem dX9_isDigit_16 : decode cX9_isDigit 16 = .ok (.iconst 0, 1) := by decide +kernel
theorem dX9_isDigit_17 : decode cX9_isDigit 17 = .ok (.ireturn, 1) := by decide +kernel
theorem b_X9_isDigit_0 {h : Nat} {L : LVs} {st : List AV} {S : ST} {Q : Option AV → ST → Prop} (k : o_il L st S (fun L st S => o_c L st S (fun L st S => t_2 L st S (fun x y => x < y) (fun L st S => V MX9_isDigit h 16 L st S Q) (fun L st S => V MX9_isDigit h 6 L st S Q)) (nI 48)) 0) : V MX9_isDigit h 0 L st S Q :=
  v_iload_n dX9_isDigit_0 rfl (fun L st S k => v_bipush dX9_isDigit_1 (by decide) (fun L st S k => w_icmp_lt dX9_isDigit_3 (by decide) rfl k) k) k
theorem b_X9_isDigit_6 {h : Nat} {L : LVs} {st : List AV} {S : ST} {Q : Option AV → ST → Prop} (k : o_il L st S (fun L st S => o_c L st S (fun L st S => t_2 L st S (fun x y => y < x) (fun L st S => V MX9_isDigit h 16 L st S Q) (fun L st S => V MX9_isDigit h 12 L st S Q)) (nI 57)) 0) : V MX9_isDigit h 6 L st S Q :=
  v_iload_n dX9_isDigit_6 rfl (fun L st S k => v_bipush dX9_isDigit_7 (by decide) (fun L st S k => w_icmp_gt dX9_isDigit_9 (by decide) rfl k) k) k
theorem b_X9_isDigit_12 {h : Nat} {L : LVs} {st : List AV} {S : ST} {Q : Option AV → ST → Prop} (k : o_c L st S (fun L st S => V MX9_isDigit h 17 L st S Q) (nI 1)) : V MX9_isDigit h 12 L st S Q :=
  v_iconst dX9_isDigit_12 (by decide) (fun L st S k => v_goto dX9_isDigit_13 (by decide) k) k
theorem b_X9_isDigit_16 {h : Nat} {L : LVs} {st : List AV} {S : ST} {Q : Option AV → ST → Prop} (k : o_c L st S (fun L st S => V MX9_isDigit h 17 L st S Q) (nI 0)) : V MX9_isDigit h 16 L st S Q :=
  v_iconst dX9_isDigit_16 (by decide) (fun L st S k => k) k
theorem b_X9_isDigit_17 {h : Nat} {L : LVs} {st : List AV} {S : ST} {Q : Option AV → ST → Prop} (k : t_zr st S Q) : V MX9_isDigit h 17 L st S Q :=
  w_zr dX9_isDigit_17 rfl k
