-- QueryForge$Maker.make()V
theorem dX3_make_0 : decode cX3_make 0 = .ok (.aload_n 0, 1) := by decide +kernel
theorem dX3_make_1 : decode cX3_make 1 = .ok (.getfield 15, 3) := by decide +kernel
theorem dX3_make_4 : decode cX3_make 4 = .ok (.invokevirtual 19, 3) := by decide +kernel
theorem dX3_make_7 : decode cX3_make 7 = .ok (.aload_n 0, 1) := by decide +kernel
theorem dX3_make_8 : decode cX3_make 8 = .ok (.getfield 9, 3) := by decide +kernel
theorem dX3_make_11 : decode cX3_make 11 = .ok (.getfield 24, 3) := by decide +kernel
theorem dX3_make_14 : decode cX3_make 14 = .ok (.tableswitch 58 200 203 #[30, 37, 44, 51], 30) := by decide +kernel
theorem dX3_make_44 : decode cX3_make 44 = .ok (.aload_n 0, 1) := by decide +kernel
theorem dX3_make_45 : decode cX3_make 45 = .ok (.invokevirtual 30, 3) := by decide +kernel
theorem dX3_make_48 : decode cX3_make 48 = .ok (.goto 28, 3) := by decide +kernel
theorem dX3_make_51 : decode cX3_make 51 = .ok (.aload_n 0, 1) := by decide +kernel
theorem dX3_make_52 : decode cX3_make 52 = .ok (.invokevirtual 33, 3) := by decide +kernel
theorem dX3_make_55 : decode cX3_make 55 = .ok (.goto 21, 3) := by decide +kernel
theorem dX3_make_58 : decode cX3_make 58 = .ok (.aload_n 0, 1) := by decide +kernel
theorem dX3_make_59 : decode cX3_make 59 = .ok (.invokevirtual 36, 3) := by decide +kernel
theorem dX3_make_62 : decode cX3_make 62 = .ok (.goto 14, 3) := by decide +kernel
theorem dX3_make_65 : decode cX3_make 65 = .ok (.aload_n 0, 1) := by decide +kernel
theorem dX3_make_66 : decode cX3_make 66 = .ok (.invokevirtual 39, 3) := by decide +kernel
theorem dX3_make_69 : decode cX3_make 69 = .ok (.goto 7, 3) := by decide +kernel
theorem dX3_make_72 : decode cX3_make 72 = .ok (.aload_n 0, 1) := by decide +kernel
theorem dX3_make_73 : decode cX3_make 73 = .ok (.invokevirtual 42, 3) := by decide +kernel
theorem dX3_make_76 : decode cX3_make 76 = .ok (.aload_n 0, 1) := by decide +kernel
theorem dX3_make_77 : decode cX3_make 77 = .ok (.getfield 15, 3) := by decide +kernel
theorem dX3_make_80 : decode cX3_make 80 = .ok (.bipush 27, 2) := by decide +kernel
theorem dX3_make_82 : decode cX3_make 82 = .ok (.iconst 0, 1) := by decide +kernel
theorem dX3_make_83 : decode cX3_make 83 = .ok (.invokevirtual 47, 3) := by decide +kernel
theorem dX3_make_86 : decode cX3_make 86 = .ok (.return_, 1) := by decide +kernel
theorem b_X3_make_0 {h : Nat} {L : LVs} {st : List AV} {S : ST} {Q : Option AV → ST → Prop} (k : o_al L st S (fun L st S => o_get L st S (fun L st S => V MX3_make h 4 L st S Q) 3 1 (4, 1, 1)) 0) : V MX3_make h 0 L st S Q :=
  v_aload_n dX3_make_0 rfl (fun L st S k => v_get dX3_make_1 rfl iX3 LY_3 rfl (by decide) rfl fl_X3_15 (fun L st S k => k) k) k
theorem k_X3_make_4 {h : Nat} {L : LVs} {st : List AV} {S : ST} {Q Q' : Option AV → ST → Prop} {j : Nat} (hC : Ct MX1_clear h [vR 1 j] S Q') (k : ∀ (r : Option AV) (S' : ST), Q' r S' → V MX3_make (h + 1) 7 L (r.toList ++ st) S' Q) (hj : j < NI 1) (hw : wid st ≤ 8) : V MX3_make (h + 1) 4 L (vR 1 j :: st) S Q :=
  v_callV (M' := MX1_clear) (c := 1) (As := []) dX3_make_4 ml_X3_19 im_X1_clear se_X1_clear in_X1 cd_X1_clear rfl LY_1 np_X1_clear (by decide) hw hj hC k
theorem b_X3_make_7 {h : Nat} {L : LVs} {st : List AV} {S : ST} {Q : Option AV → ST → Prop} (k : o_al L st S (fun L st S => o_get L st S (fun L st S => o_get L st S (fun L st S => t_sw L st S [((nI 200), fun L st S => V MX3_make h 44 L st S Q), ((nI 201), fun L st S => V MX3_make h 51 L st S Q), ((nI 202), fun L st S => V MX3_make h 58 L st S Q), ((nI 203), fun L st S => V MX3_make h 65 L st S Q)] (fun L st S => V MX3_make h 72 L st S Q)) 6 8 (0, 0, 0)) 3 0 (4, 6, 0)) 0) : V MX3_make h 7 L st S Q :=
  v_aload_n dX3_make_7 rfl (fun L st S k => v_get dX3_make_8 rfl iX3 LY_3 rfl (by decide) rfl fl_X3_9 (fun L st S k => v_get dX3_make_11 rfl iX6 LY_6 rfl (by decide) rfl fl_X3_24 (fun L st S k => w_tsw [((nI 200), 44), ((nI 201), 51), ((nI 202), 58), ((nI 203), 65)] dX3_make_14 (n := 4) (by decide) rfl (by decide) (by decide) (by decide) k) k) k) k
theorem b_X3_make_44 {h : Nat} {L : LVs} {st : List AV} {S : ST} {Q : Option AV → ST → Prop} (k : o_al L st S (fun L st S => V MX3_make h 45 L st S Q) 0) : V MX3_make h 44 L st S Q :=
  v_aload_n dX3_make_44 rfl (fun L st S k => k) k
theorem k_X3_make_45 {h : Nat} {L : LVs} {st : List AV} {S : ST} {Q Q' : Option AV → ST → Prop} {j : Nat} (hC : Ct MX3_makeCreate h [vR 3 j] S Q') (k : ∀ (r : Option AV) (S' : ST), Q' r S' → V MX3_make (h + 1) 48 L (r.toList ++ st) S' Q) (hj : j < NI 3) (hw : wid st ≤ 8) : V MX3_make (h + 1) 45 L (vR 3 j :: st) S Q :=
  v_callV (M' := MX3_makeCreate) (c := 3) (As := []) dX3_make_45 ml_X3_30 im_X3_makeCreate se_X3_makeCreate in_X3 cd_X3_makeCreate rfl LY_3 np_X3_makeCreate (by decide) hw hj hC k
theorem b_X3_make_48 {h : Nat} {L : LVs} {st : List AV} {S : ST} {Q : Option AV → ST → Prop} (k : V MX3_make h 76 L st S Q) : V MX3_make h 48 L st S Q :=
  v_goto dX3_make_48 (by decide) k
theorem b_X3_make_51 {h : Nat} {L : LVs} {st : List AV} {S : ST} {Q : Option AV → ST → Prop} (k : o_al L st S (fun L st S => V MX3_make h 52 L st S Q) 0) : V MX3_make h 51 L st S Q :=
  v_aload_n dX3_make_51 rfl (fun L st S k => k) k
theorem k_X3_make_52 {h : Nat} {L : LVs} {st : List AV} {S : ST} {Q Q' : Option AV → ST → Prop} {j : Nat} (hC : Ct MX3_makeInsert h [vR 3 j] S Q') (k : ∀ (r : Option AV) (S' : ST), Q' r S' → V MX3_make (h + 1) 55 L (r.toList ++ st) S' Q) (hj : j < NI 3) (hw : wid st ≤ 8) : V MX3_make (h + 1) 52 L (vR 3 j :: st) S Q :=
  v_callV (M' := MX3_makeInsert) (c := 3) (As := []) dX3_make_52 ml_X3_33 im_X3_makeInsert se_X3_makeInsert in_X3 cd_X3_makeInsert rfl LY_3 np_X3_makeInsert (by decide) hw hj hC k
theorem b_X3_make_55 {h : Nat} {L : LVs} {st : List AV} {S : ST} {Q : Option AV → ST → Prop} (k : V MX3_make h 76 L st S Q) : V MX3_make h 55 L st S Q :=
  v_goto dX3_make_55 (by decide) k
theorem b_X3_make_58 {h : Nat} {L : LVs} {st : List AV} {S : ST} {Q : Option AV → ST → Prop} (k : o_al L st S (fun L st S => V MX3_make h 59 L st S Q) 0) : V MX3_make h 58 L st S Q :=
  v_aload_n dX3_make_58 rfl (fun L st S k => k) k
theorem k_X3_make_59 {h : Nat} {L : LVs} {st : List AV} {S : ST} {Q Q' : Option AV → ST → Prop} {j : Nat} (hC : Ct MX3_makeDelete h [vR 3 j] S Q') (k : ∀ (r : Option AV) (S' : ST), Q' r S' → V MX3_make (h + 1) 62 L (r.toList ++ st) S' Q) (hj : j < NI 3) (hw : wid st ≤ 8) : V MX3_make (h + 1) 59 L (vR 3 j :: st) S Q :=
  v_callV (M' := MX3_makeDelete) (c := 3) (As := []) dX3_make_59 ml_X3_36 im_X3_makeDelete se_X3_makeDelete in_X3 cd_X3_makeDelete rfl LY_3 np_X3_makeDelete (by decide) hw hj hC k
theorem b_X3_make_62 {h : Nat} {L : LVs} {st : List AV} {S : ST} {Q : Option AV → ST → Prop} (k : V MX3_make h 76 L st S Q) : V MX3_make h 62 L st S Q :=
  v_goto dX3_make_62 (by decide) k
theorem b_X3_make_65 {h : Nat} {L : LVs} {st : List AV} {S : ST} {Q : Option AV → ST → Prop} (k : o_al L st S (fun L st S => V MX3_make h 66 L st S Q) 0) : V MX3_make h 65 L st S Q :=
  v_aload_n dX3_make_65 rfl (fun L st S k => k) k
theorem k_X3_make_66 {h : Nat} {L : LVs} {st : List AV} {S : ST} {Q Q' : Option AV → ST → Prop} {j : Nat} (hC : Ct MX3_makeUpdate h [vR 3 j] S Q') (k : ∀ (r : Option AV) (S' : ST), Q' r S' → V MX3_make (h + 1) 69 L (r.toList ++ st) S' Q) (hj : j < NI 3) (hw : wid st ≤ 8) : V MX3_make (h + 1) 66 L (vR 3 j :: st) S Q :=
  v_callV (M' := MX3_makeUpdate) (c := 3) (As := []) dX3_make_66 ml_X3_39 im_X3_makeUpdate se_X3_makeUpdate in_X3 cd_X3_makeUpdate rfl LY_3 np_X3_makeUpdate (by decide) hw hj hC k
theorem b_X3_make_69 {h : Nat} {L : LVs} {st : List AV} {S : ST} {Q : Option AV → ST → Prop} (k : V MX3_make h 76 L st S Q) : V MX3_make h 69 L st S Q :=
  v_goto dX3_make_69 (by decide) k
theorem b_X3_make_72 {h : Nat} {L : LVs} {st : List AV} {S : ST} {Q : Option AV → ST → Prop} (k : o_al L st S (fun L st S => V MX3_make h 73 L st S Q) 0) : V MX3_make h 72 L st S Q :=
  v_aload_n dX3_make_72 rfl (fun L st S k => k) k
theorem k_X3_make_73 {h : Nat} {L : LVs} {st : List AV} {S : ST} {Q Q' : Option AV → ST → Prop} {j : Nat} (hC : Ct MX3_makeSelect h [vR 3 j] S Q') (k : ∀ (r : Option AV) (S' : ST), Q' r S' → V MX3_make (h + 1) 76 L (r.toList ++ st) S' Q) (hj : j < NI 3) (hw : wid st ≤ 8) : V MX3_make (h + 1) 73 L (vR 3 j :: st) S Q :=
  v_callV (M' := MX3_makeSelect) (c := 3) (As := []) dX3_make_73 ml_X3_42 im_X3_makeSelect se_X3_makeSelect in_X3 cd_X3_makeSelect rfl LY_3 np_X3_makeSelect (by decide) hw hj hC k
theorem b_X3_make_76 {h : Nat} {L : LVs} {st : List AV} {S : ST} {Q : Option AV → ST → Prop} (k : o_al L st S (fun L st S => o_get L st S (fun L st S => o_c L st S (fun L st S => o_c L st S (fun L st S => V MX3_make h 83 L st S Q) (nI 0)) (nI 27)) 3 1 (4, 1, 1)) 0) : V MX3_make h 76 L st S Q :=
  v_aload_n dX3_make_76 rfl (fun L st S k => v_get dX3_make_77 rfl iX3 LY_3 rfl (by decide) rfl fl_X3_15 (fun L st S k => v_bipush dX3_make_80 (by decide) (fun L st S k => v_iconst dX3_make_82 (by decide) (fun L st S k => k) k) k) k) k
theorem k_X3_make_83 {h : Nat} {L : LVs} {st : List AV} {S : ST} {Q Q' : Option AV → ST → Prop} {j : Nat} {a0 a1 : AV} (hC : Ct MX1_add h [vR 1 j, a0, a1] S Q') (k : ∀ (r : Option AV) (S' : ST), Q' r S' → V MX3_make (h + 1) 86 L (r.toList ++ st) S' Q) (hj : j < NI 1) (hw : wid st ≤ 8) : V MX3_make (h + 1) 83 L (a1 :: a0 :: vR 1 j :: st) S Q :=
  v_callV (M' := MX1_add) (c := 1) (As := [a0, a1]) dX3_make_83 ml_X3_47 im_X1_add se_X1_add in_X1 cd_X1_add rfl LY_1 np_X1_add (by decide) hw hj hC k
theorem b_X3_make_86 {h : Nat} {L : LVs} {st : List AV} {S : ST} {Q : Option AV → ST → Prop} (k : t_vr st S Q) : V MX3_make h 86 L st S Q :=
  w_vr dX3_make_86 rfl k
-- QueryForge$Maker.makeCreate()V
theorem dX3_makeCreate_0 : decode cX3_makeCreate 0 = .ok (.iconst 0, 1) := by decide +kernel
theorem dX3_makeCreate_1 : decode cX3_makeCreate 1 = .ok (.istore_n 1, 1) := by decide +kernel
theorem dX3_makeCreate_2 : decode cX3_makeCreate 2 = .ok (.iload_n 1, 1) := by decide +kernel
theorem dX3_makeCreate_3 : decode cX3_makeCreate 3 = .ok (.aload_n 0, 1) := by decide +kernel
theorem dX3_makeCreate_4 : decode cX3_makeCreate 4 = .ok (.getfield 9, 3) := by decide +kernel
theorem dX3_makeCreate_7 : decode cX3_makeCreate 7 = .ok (.getfield 51, 3) := by decide +kernel
theorem dX3_makeCreate_10 : decode cX3_makeCreate 10 = .ok (.if_icmp .ge 55, 3) := by decide +kernel
theorem dX3_makeCreate_13 : decode cX3_makeCreate 13 = .ok (.aload_n 0, 1) := by decide +kernel
theorem dX3_makeCreate_14 : decode cX3_makeCreate 14 = .ok (.getfield 9, 3) := by decide +kernel
theorem dX3_makeCreate_17 : decode cX3_makeCreate 17 = .ok (.getfield 54, 3) := by decide +kernel
theorem dX3_makeCreate_20 : decode cX3_makeCreate 20 = .ok (.iload_n 1, 1) := by decide +kernel
theorem dX3_makeCreate_21 : decode cX3_makeCreate 21 = .ok (.iaload, 1) := by decide +kernel
theorem dX3_makeCreate_22 : decode cX3_makeCreate 22 = .ok (.iconst 1, 1) := by decide +kernel
theorem dX3_makeCreate_23 : decode cX3_makeCreate 23 = .ok (.if_icmp .ne 7, 3) := by decide +kernel
theorem dX3_makeCreate_26 : decode cX3_makeCreate 26 = .ok (.iconst 1, 1) := by decide +kernel
theorem dX3_makeCreate_27 : decode cX3_makeCreate 27 = .ok (.goto 4, 3) := by decide +kernel
theorem dX3_makeCreate_30 : decode cX3_makeCreate 30 = .ok (.iconst 0, 1) := by decide +kernel
theorem dX3_makeCreate_31 : decode cX3_makeCreate 31 = .ok (.istore_n 2, 1) := by decide +kernel
theorem dX3_makeCreate_32 : decode cX3_makeCreate 32 = .ok (.aload_n 0, 1) := by decide +kernel
theorem dX3_makeCreate_33 : decode cX3_makeCreate 33 = .ok (.getfield 15, 3) := by decide +kernel
theorem dX3_makeCreate_36 : decode cX3_makeCreate 36 = .ok (.iload_n 2, 1) := by decide +kernel
theorem dX3_makeCreate_37 : decode cX3_makeCreate 37 = .ok (.ifCond .eq 8, 3) := by decide +kernel
theorem dX3_makeCreate_40 : decode cX3_makeCreate 40 = .ok (.bipush 47, 2) := by decide +kernel
theorem dX3_makeCreate_42 : decode cX3_makeCreate 42 = .ok (.goto 5, 3) := by decide +kernel
theorem dX3_makeCreate_45 : decode cX3_makeCreate 45 = .ok (.bipush 48, 2) := by decide +kernel
theorem dX3_makeCreate_47 : decode cX3_makeCreate 47 = .ok (.aload_n 0, 1) := by decide +kernel
theorem dX3_makeCreate_48 : decode cX3_makeCreate 48 = .ok (.getfield 9, 3) := by decide +kernel
theorem dX3_makeCreate_51 : decode cX3_makeCreate 51 = .ok (.getfield 58, 3) := by decide +kernel
theorem dX3_makeCreate_54 : decode cX3_makeCreate 54 = .ok (.iload_n 1, 1) := by decide +kernel
theorem dX3_makeCreate_55 : decode cX3_makeCreate 55 = .ok (.iaload, 1) := by decide +kernel
theorem dX3_makeCreate_56 : decode cX3_makeCreate 56 = .ok (.invokevirtual 47, 3) := by decide +kernel
theorem dX3_makeCreate_59 : decode cX3_makeCreate 59 = .ok (.iinc 1 1, 3) := by decide +kernel
theorem dX3_makeCreate_62 : decode cX3_makeCreate 62 = .ok (.goto (-60), 3) := by decide +kernel
theorem dX3_makeCreate_65 : decode cX3_makeCreate 65 = .ok (.aload_n 0, 1) := by decide +kernel
theorem dX3_makeCreate_66 : decode cX3_makeCreate 66 = .ok (.getfield 15, 3) := by decide +kernel
theorem dX3_makeCreate_69 : decode cX3_makeCreate 69 = .ok (.bipush 49, 2) := by decide +kernel
theorem dX3_makeCreate_71 : decode cX3_makeCreate 71 = .ok (.aload_n 0, 1) := by decide +kernel
theorem dX3_makeCreate_72 : decode cX3_makeCreate 72 = .ok (.getfield 9, 3) := by decide +kernel
theorem dX3_makeCreate_75 : decode cX3_makeCreate 75 = .ok (.getfield 61, 3) := by decide +kernel
theorem dX3_makeCreate_78 : decode cX3_makeCreate 78 = .ok (.iconst 0, 1) := by decide +kernel
theorem dX3_makeCreate_79 : decode cX3_makeCreate 79 = .ok (.iaload, 1) := by decide +kernel
theorem dX3_makeCreate_80 : decode cX3_makeCreate 80 = .ok (.invokevirtual 47, 3) := by decide +kernel
theorem dX3_makeCreate_83 : decode cX3_makeCreate 83 = .ok (.return_, 1) := by decide +kernel
theorem b_X3_makeCreate_0 {h : Nat} {L : LVs} {st : List AV} {S : ST} {Q : Option AV → ST → Prop} (k : o_c L st S (fun L st S => o_is L st S (fun L st S => V MX3_makeCreate h 2 L st S Q) 1) (nI 0)) : V MX3_makeCreate h 0 L st S Q :=
  v_iconst dX3_makeCreate_0 (by decide) (fun L st S k => v_istore_n dX3_makeCreate_1 rfl (by decide) (fun L st S k => k) k) k
theorem b_X3_makeCreate_2 {h : Nat} {L : LVs} {st : List AV} {S : ST} {Q : Option AV → ST → Prop} (k : o_il L st S (fun L st S => o_al L st S (fun L st S => o_get L st S (fun L st S => o_get L st S (fun L st S => t_2 L st S (fun x y => y ≤ x) (fun L st S => V MX3_makeCreate h 65 L st S Q) (fun L st S => V MX3_makeCreate h 13 L st S Q)) 6 10 (0, 0, 0)) 3 0 (4, 6, 0)) 0) 1) : V MX3_makeCreate h 2 L st S Q :=
  v_iload_n dX3_makeCreate_2 rfl (fun L st S k => v_aload_n dX3_makeCreate_3 rfl (fun L st S k => v_get dX3_makeCreate_4 rfl iX3 LY_3 rfl (by decide) rfl fl_X3_9 (fun L st S k => v_get dX3_makeCreate_7 rfl iX6 LY_6 rfl (by decide) rfl fl_X3_51 (fun L st S k => w_icmp_ge dX3_makeCreate_10 (by decide) rfl k) k) k) k) k
theorem b_X3_makeCreate_13 {h : Nat} {L : LVs} {st : List AV} {S : ST} {Q : Option AV → ST → Prop} (k : o_al L st S (fun L st S => o_get L st S (fun L st S => o_get L st S (fun L st S => o_il L st S (fun L st S => o_iald L st S (fun L st S => o_c L st S (fun L st S => t_2 L st S (fun x y => x = y) (fun L st S => V MX3_makeCreate h 26 L st S Q) (fun L st S => V MX3_makeCreate h 30 L st S Q)) (nI 1))) 1) 6 4 (3, 25, 0)) 3 0 (4, 6, 0)) 0) : V MX3_makeCreate h 13 L st S Q :=
  v_aload_n dX3_makeCreate_13 rfl (fun L st S k => v_get dX3_makeCreate_14 rfl iX3 LY_3 rfl (by decide) rfl fl_X3_9 (fun L st S k => v_get dX3_makeCreate_17 rfl iX6 LY_6 rfl (by decide) rfl fl_X3_54 (fun L st S k => v_iload_n dX3_makeCreate_20 rfl (fun L st S k => v_iaload dX3_makeCreate_21 (fun L st S k => v_iconst dX3_makeCreate_22 (by decide) (fun L st S k => w_icmp_ne dX3_makeCreate_23 (by decide) rfl k) k) k) k) k) k) k
theorem b_X3_makeCreate_26 {h : Nat} {L : LVs} {st : List AV} {S : ST} {Q : Option AV → ST → Prop} (k : o_c L st S (fun L st S => V MX3_makeCreate h 31 L st S Q) (nI 1)) : V MX3_makeCreate h 26 L st S Q :=
  v_iconst dX3_makeCreate_26 (by decide) (fun L st S k => v_goto dX3_makeCreate_27 (by decide) k) k
theorem b_X3_makeCreate_30 {h : Nat} {L : LVs} {st : List AV} {S : ST} {Q : Option AV → ST → Prop} (k : o_c L st S (fun L st S => V MX3_makeCreate h 31 L st S Q) (nI 0)) : V MX3_makeCreate h 30 L st S Q :=
  v_iconst dX3_makeCreate_30 (by decide) (fun L st S k => k) k
theorem b_X3_makeCreate_31 {h : Nat} {L : LVs} {st : List AV} {S : ST} {Q : Option AV → ST → Prop} (k : o_is L st S (fun L st S => o_al L st S (fun L st S => o_get L st S (fun L st S => o_il L st S (fun L st S => t_1 L st S (fun x => x = nI 0) (fun L st S => V MX3_makeCreate h 45 L st S Q) (fun L st S => V MX3_makeCreate h 40 L st S Q)) 2) 3 1 (4, 1, 1)) 0) 2) : V MX3_makeCreate h 31 L st S Q :=
  v_istore_n dX3_makeCreate_31 rfl (by decide) (fun L st S k => v_aload_n dX3_makeCreate_32 rfl (fun L st S k => v_get dX3_makeCreate_33 rfl iX3 LY_3 rfl (by decide) rfl fl_X3_15 (fun L st S k => v_iload_n dX3_makeCreate_36 rfl (fun L st S k => w_if_eq dX3_makeCreate_37 (by decide) rfl k) k) k) k) k
theorem b_X3_makeCreate_40 {h : Nat} {L : LVs} {st : List AV} {S : ST} {Q : Option AV → ST → Prop} (k : o_c L st S (fun L st S => V MX3_makeCreate h 47 L st S Q) (nI 47)) : V MX3_makeCreate h 40 L st S Q :=
  v_bipush dX3_makeCreate_40 (by decide) (fun L st S k => v_goto dX3_makeCreate_42 (by decide) k) k
theorem b_X3_makeCreate_45 {h : Nat} {L : LVs} {st : List AV} {S : ST} {Q : Option AV → ST → Prop} (k : o_c L st S (fun L st S => V MX3_makeCreate h 47 L st S Q) (nI 48)) : V MX3_makeCreate h 45 L st S Q :=
  v_bipush dX3_makeCreate_45 (by decide) (fun L st S k => k) k
theorem b_X3_makeCreate_47 {h : Nat} {L : LVs} {st : List AV} {S : ST} {Q : Option AV → ST → Prop} (k : o_al L st S (fun L st S => o_get L st S (fun L st S => o_get L st S (fun L st S => o_il L st S (fun L st S => o_iald L st S (fun L st S => V MX3_makeCreate h 56 L st S Q)) 1) 6 3 (3, 24, 0)) 3 0 (4, 6, 0)) 0) : V MX3_makeCreate h 47 L st S Q :=
  v_aload_n dX3_makeCreate_47 rfl (fun L st S k => v_get dX3_makeCreate_48 rfl iX3 LY_3 rfl (by decide) rfl fl_X3_9 (fun L st S k => v_get dX3_makeCreate_51 rfl iX6 LY_6 rfl (by decide) rfl fl_X3_58 (fun L st S k => v_iload_n dX3_makeCreate_54 rfl (fun L st S k => v_iaload dX3_makeCreate_55 (fun L st S k => k) k) k) k) k) k
theorem k_X3_makeCreate_56 {h : Nat} {L : LVs} {st : List AV} {S : ST} {Q Q' : Option AV → ST → Prop} {j : Nat} {a0 a1 : AV} (hC : Ct MX1_add h [vR 1 j, a0, a1] S Q') (k : ∀ (r : Option AV) (S' : ST), Q' r S' → V MX3_makeCreate (h + 1) 59 L (r.toList ++ st) S' Q) (hj : j < NI 1) (hw : wid st ≤ 8) : V MX3_makeCreate (h + 1) 56 L (a1 :: a0 :: vR 1 j :: st) S Q :=
  v_callV (M' := MX1_add) (c := 1) (As := [a0, a1]) dX3_makeCreate_56 ml_X3_47 im_X1_add se_X1_add in_X1 cd_X1_add rfl LY_1 np_X1_add (by decide) hw hj hC k
theorem b_X3_makeCreate_59 {h : Nat} {L : LVs} {st : List AV} {S : ST} {Q : Option AV → ST → Prop} (k : o_inc L st S (fun L st S => V MX3_makeCreate h 2 L st S Q) 1 (nI 1)) : V MX3_makeCreate h 59 L st S Q :=
  v_iinc dX3_makeCreate_59 (by decide) (by decide) (fun L st S k => v_goto dX3_makeCreate_62 (by decide) k) k
theorem b_X3_makeCreate_65 {h : Nat} {L : LVs} {st : List AV} {S : ST} {Q : Option AV → ST → Prop} (k : o_al L st S (fun L st S => o_get L st S (fun L st S => o_c L st S (fun L st S => o_al L st S (fun L st S => o_get L st S (fun L st S => o_get L st S (fun L st S => o_c L st S (fun L st S => o_iald L st S (fun L st S => V MX3_makeCreate h 80 L st S Q)) (nI 0)) 6 1 (3, 22, 0)) 3 0 (4, 6, 0)) 0) (nI 49)) 3 1 (4, 1, 1)) 0) : V MX3_makeCreate h 65 L st S Q :=
  v_aload_n dX3_makeCreate_65 rfl (fun L st S k => v_get dX3_makeCreate_66 rfl iX3 LY_3 rfl (by decide) rfl fl_X3_15 (fun L st S k => v_bipush dX3_makeCreate_69 (by decide) (fun L st S k => v_aload_n dX3_makeCreate_71 rfl (fun L st S k => v_get dX3_makeCreate_72 rfl iX3 LY_3 rfl (by decide) rfl fl_X3_9 (fun L st S k => v_get dX3_makeCreate_75 rfl iX6 LY_6 rfl (by decide) rfl fl_X3_61 (fun L st S k => v_iconst dX3_makeCreate_78 (by decide) (fun L st S k => v_iaload dX3_makeCreate_79 (fun L st S k => k) k) k) k) k) k) k) k) k
theorem k_X3_makeCreate_80 {h : Nat} {L : LVs} {st : List AV} {S : ST} {Q Q' : Option AV → ST → Prop} {j : Nat} {a0 a1 : AV} (hC : Ct MX1_add h [vR 1 j, a0, a1] S Q') (k : ∀ (r : Option AV) (S' : ST), Q' r S' → V MX3_makeCreate (h + 1) 83 L (r.toList ++ st) S' Q) (hj : j < NI 1) (hw : wid st ≤ 8) : V MX3_makeCreate (h + 1) 80 L (a1 :: a0 :: vR 1 j :: st) S Q :=
  v_callV (M' := MX1_add) (c := 1) (As := [a0, a1]) dX3_makeCreate_80 ml_X3_47 im_X1_add se_X1_add in_X1 cd_X1_add rfl LY_1 np_X1_add (by decide) hw hj hC k
theorem b_X3_makeCreate_83 {h : Nat} {L : LVs} {st : List AV} {S : ST} {Q : Option AV → ST → Prop} (k : t_vr st S Q) : V MX3_makeCreate h 83 L st S Q :=
  w_vr dX3_makeCreate_83 rfl k
-- QueryForge$Maker.makeInsert()V
theorem dX3_makeInsert_0 : decode cX3_makeInsert 0 = .ok (.aload_n 0, 1) := by decide +kernel
theorem dX3_makeInsert_1 : decode cX3_makeInsert 1 = .ok (.getfield 15, 3) := by decide +kernel
theorem dX3_makeInsert_4 : decode cX3_makeInsert 4 = .ok (.bipush 21, 2) := by decide +kernel
theorem dX3_makeInsert_6 : decode cX3_makeInsert 6 = .ok (.aload_n 0, 1) := by decide +kernel
theorem dX3_makeInsert_7 : decode cX3_makeInsert 7 = .ok (.getfield 9, 3) := by decide +kernel
theorem dX3_makeInsert_10 : decode cX3_makeInsert 10 = .ok (.getfield 64, 3) := by decide +kernel
theorem dX3_makeInsert_13 : decode cX3_makeInsert 13 = .ok (.iconst 0, 1) := by decide +kernel
theorem dX3_makeInsert_14 : decode cX3_makeInsert 14 = .ok (.iaload, 1) := by decide +kernel
theorem dX3_makeInsert_15 : decode cX3_makeInsert 15 = .ok (.invokevirtual 47, 3) := by decide +kernel
theorem dX3_makeInsert_18 : decode cX3_makeInsert 18 = .ok (.iconst 0, 1) := by decide +kernel
theorem dX3_makeInsert_19 : decode cX3_makeInsert 19 = .ok (.istore_n 1, 1) := by decide +kernel
theorem dX3_makeInsert_20 : decode cX3_makeInsert 20 = .ok (.iload_n 1, 1) := by decide +kernel
theorem dX3_makeInsert_21 : decode cX3_makeInsert 21 = .ok (.aload_n 0, 1) := by decide +kernel
theorem dX3_makeInsert_22 : decode cX3_makeInsert 22 = .ok (.getfield 9, 3) := by decide +kernel
theorem dX3_makeInsert_25 : decode cX3_makeInsert 25 = .ok (.getfield 51, 3) := by decide +kernel
theorem dX3_makeInsert_28 : decode cX3_makeInsert 28 = .ok (.if_icmp .ge 66, 3) := by decide +kernel
theorem dX3_makeInsert_31 : decode cX3_makeInsert 31 = .ok (.aload_n 0, 1) := by decide +kernel
theorem dX3_makeInsert_32 : decode cX3_makeInsert 32 = .ok (.getfield 9, 3) := by decide +kernel
theorem dX3_makeInsert_35 : decode cX3_makeInsert 35 = .ok (.getfield 54, 3) := by decide +kernel
theorem dX3_makeInsert_38 : decode cX3_makeInsert 38 = .ok (.iload_n 1, 1) := by decide +kernel
theorem dX3_makeInsert_39 : decode cX3_makeInsert 39 = .ok (.iaload, 1) := by decide +kernel
theorem dX3_makeInsert_40 : decode cX3_makeInsert 40 = .ok (.istore_n 2, 1) := by decide +kernel
theorem dX3_makeInsert_41 : decode cX3_makeInsert 41 = .ok (.iload_n 2, 1) := by decide +kernel
theorem dX3_makeInsert_42 : decode cX3_makeInsert 42 = .ok (.iconst 1, 1) := by decide +kernel
theorem dX3_makeInsert_43 : decode cX3_makeInsert 43 = .ok (.if_icmp .ne 7, 3) := by decide +kernel
theorem dX3_makeInsert_46 : decode cX3_makeInsert 46 = .ok (.iconst 1, 1) := by decide +kernel
theorem dX3_makeInsert_47 : decode cX3_makeInsert 47 = .ok (.goto 13, 3) := by decide +kernel
theorem dX3_makeInsert_50 : decode cX3_makeInsert 50 = .ok (.iload_n 2, 1) := by decide +kernel
theorem dX3_makeInsert_51 : decode cX3_makeInsert 51 = .ok (.iconst 2, 1) := by decide +kernel
theorem dX3_makeInsert_52 : decode cX3_makeInsert 52 = .ok (.if_icmp .ne 7, 3) := by decide +kernel
theorem dX3_makeInsert_55 : decode cX3_makeInsert 55 = .ok (.iconst 2, 1) := by decide +kernel
theorem dX3_makeInsert_56 : decode cX3_makeInsert 56 = .ok (.goto 4, 3) := by decide +kernel
theorem dX3_makeInsert_59 : decode cX3_makeInsert 59 = .ok (.iconst 3, 1) := by decide +kernel
theorem dX3_makeInsert_60 : decode cX3_makeInsert 60 = .ok (.istore_n 3, 1) := by decide +kernel
theorem dX3_makeInsert_61 : decode cX3_makeInsert 61 = .ok (.aload_n 0, 1) := by decide +kernel
theorem dX3_makeInsert_62 : decode cX3_makeInsert 62 = .ok (.getfield 15, 3) := by decide +kernel
theorem dX3_makeInsert_65 : decode cX3_makeInsert 65 = .ok (.iload_n 3, 1) := by decide +kernel
theorem dX3_makeInsert_66 : decode cX3_makeInsert 66 = .ok (.aload_n 0, 1) := by decide +kernel
theorem dX3_makeInsert_67 : decode cX3_makeInsert 67 = .ok (.getfield 9, 3) := by decide +kernel
theorem dX3_makeInsert_70 : decode cX3_makeInsert 70 = .ok (.getfield 67, 3) := by decide +kernel
theorem dX3_makeInsert_73 : decode cX3_makeInsert 73 = .ok (.iload_n 1, 1) := by decide +kernel
theorem dX3_makeInsert_74 : decode cX3_makeInsert 74 = .ok (.iaload, 1) := by decide +kernel
theorem dX3_makeInsert_75 : decode cX3_makeInsert 75 = .ok (.invokevirtual 47, 3) := by decide +kernel
theorem dX3_makeInsert_78 : decode cX3_makeInsert 78 = .ok (.aload_n 0, 1) := by decide +kernel
theorem dX3_makeInsert_79 : decode cX3_makeInsert 79 = .ok (.getfield 15, 3) := by decide +kernel
theorem dX3_makeInsert_82 : decode cX3_makeInsert 82 = .ok (.bipush 45, 2) := by decide +kernel
theorem dX3_makeInsert_84 : decode cX3_makeInsert 84 = .ok (.iload_n 1, 1) := by decide +kernel
theorem dX3_makeInsert_85 : decode cX3_makeInsert 85 = .ok (.invokevirtual 47, 3) := by decide +kernel
theorem dX3_makeInsert_88 : decode cX3_makeInsert 88 = .ok (.iinc 1 1, 3) := by decide +kernel
theorem dX3_makeInsert_91 : decode cX3_makeInsert 91 = .ok (.goto (-71), 3) := by decide +kernel
theorem dX3_makeInsert_94 : decode cX3_makeInsert 94 = .ok (.aload_n 0, 1) := by decide +kernel
theorem dX3_makeInsert_95 : decode cX3_makeInsert 95 = .ok (.getfield 15, 3) := by decide +kernel
theorem dX3_makeInsert_98 : decode cX3_makeInsert 98 = .ok (.bipush 46, 2) := by decide +kernel
theorem dX3_makeInsert_100 : decode cX3_makeInsert 100 = .ok (.iconst 0, 1) := by decide +kernel
theorem dX3_makeInsert_101 : decode cX3_makeInsert 101 = .ok (.invokevirtual 47, 3) := by decide +kernel
theorem dX3_makeInsert_104 : decode cX3_makeInsert 104 = .ok (.return_, 1) := by decide +kernel
theorem b_X3_makeInsert_0 {h : Nat} {L : LVs} {st : List AV} {S : ST} {Q : Option AV → ST → Prop} (k : o_al L st S (fun L st S => o_get L st S (fun L st S => o_c L st S (fun L st S => o_al L st S (fun L st S => o_get L st S (fun L st S => o_get L st S (fun L st S => o_c L st S (fun L st S => o_iald L st S (fun L st S => V MX3_makeInsert h 15 L st S Q)) (nI 0)) 6 2 (3, 23, 0)) 3 0 (4, 6, 0)) 0) (nI 21)) 3 1 (4, 1, 1)) 0) : V MX3_makeInsert h 0 L st S Q :=
  v_aload_n dX3_makeInsert_0 rfl (fun L st S k => v_get dX3_makeInsert_1 rfl iX3 LY_3 rfl (by decide) rfl fl_X3_15 (fun L st S k => v_bipush dX3_makeInsert_4 (by decide) (fun L st S k => v_aload_n dX3_makeInsert_6 rfl (fun L st S k => v_get dX3_makeInsert_7 rfl iX3 LY_3 rfl (by decide) rfl fl_X3_9 (fun L st S k => v_get dX3_makeInsert_10 rfl iX6 LY_6 rfl (by decide) rfl fl_X3_64 (fun L st S k => v_iconst dX3_makeInsert_13 (by decide) (fun L st S k => v_iaload dX3_makeInsert_14 (fun L st S k => k) k) k) k) k) k) k) k) k
theorem k_X3_makeInsert_15 {h : Nat} {L : LVs} {st : List AV} {S : ST} {Q Q' : Option AV → ST → Prop} {j : Nat} {a0 a1 : AV} (hC : Ct MX1_add h [vR 1 j, a0, a1] S Q') (k : ∀ (r : Option AV) (S' : ST), Q' r S' → V MX3_makeInsert (h + 1) 18 L (r.toList ++ st) S' Q) (hj : j < NI 1) (hw : wid st ≤ 8) : V MX3_makeInsert (h + 1) 15 L (a1 :: a0 :: vR 1 j :: st) S Q :=
  v_callV (M' := MX1_add) (c := 1) (As := [a0, a1]) dX3_makeInsert_15 ml_X3_47 im_X1_add se_X1_add in_X1 cd_X1_add rfl LY_1 np_X1_add (by decide) hw hj hC k
theorem b_X3_makeInsert_18 {h : Nat} {L : LVs} {st : List AV} {S : ST} {Q : Option AV → ST → Prop} (k : o_c L st S (fun L st S => o_is L st S (fun L st S => V MX3_makeInsert h 20 L st S Q) 1) (nI 0)) : V MX3_makeInsert h 18 L st S Q :=
  v_iconst dX3_makeInsert_18 (by decide) (fun L st S k => v_istore_n dX3_makeInsert_19 rfl (by decide) (fun L st S k => k) k) k
theorem b_X3_makeInsert_20 {h : Nat} {L : LVs} {st : List AV} {S : ST} {Q : Option AV → ST → Prop} (k : o_il L st S (fun L st S => o_al L st S (fun L st S => o_get L st S (fun L st S => o_get L st S (fun L st S => t_2 L st S (fun x y => y ≤ x) (fun L st S => V MX3_makeInsert h 94 L st S Q) (fun L st S => V MX3_makeInsert h 31 L st S Q)) 6 10 (0, 0, 0)) 3 0 (4, 6, 0)) 0) 1) : V MX3_makeInsert h 20 L st S Q :=
  v_iload_n dX3_makeInsert_20 rfl (fun L st S k => v_aload_n dX3_makeInsert_21 rfl (fun L st S k => v_get dX3_makeInsert_22 rfl iX3 LY_3 rfl (by decide) rfl fl_X3_9 (fun L st S k => v_get dX3_makeInsert_25 rfl iX6 LY_6 rfl (by decide) rfl fl_X3_51 (fun L st S k => w_icmp_ge dX3_makeInsert_28 (by decide) rfl k) k) k) k) k
theorem b_X3_makeInsert_31 {h : Nat} {L : LVs} {st : List AV} {S : ST} {Q : Option AV → ST → Prop} (k : o_al L st S (fun L st S => o_get L st S (fun L st S => o_get L st S (fun L st S => o_il L st S (fun L st S => o_iald L st S (fun L st S => o_is L st S (fun L st S => o_il L st S (fun L st S => o_c L st S (fun L st S => t_2 L st S (fun x y => x = y) (fun L st S => V MX3_makeInsert h 46 L st S Q) (fun L st S => V MX3_makeInsert h 50 L st S Q)) (nI 1)) 2) 2)) 1) 6 4 (3, 25, 0)) 3 0 (4, 6, 0)) 0) : V MX3_makeInsert h 31 L st S Q :=
  v_aload_n dX3_makeInsert_31 rfl (fun L st S k => v_get dX3_makeInsert_32 rfl iX3 LY_3 rfl (by decide) rfl fl_X3_9 (fun L st S k => v_get dX3_makeInsert_35 rfl iX6 LY_6 rfl (by decide) rfl fl_X3_54 (fun L st S k => v_iload_n dX3_makeInsert_38 rfl (fun L st S k => v_iaload dX3_makeInsert_39 (fun L st S k => v_istore_n dX3_makeInsert_40 rfl (by decide) (fun L st S k => v_iload_n dX3_makeInsert_41 rfl (fun L st S k => v_iconst dX3_makeInsert_42 (by decide) (fun L st S k => w_icmp_ne dX3_makeInsert_43 (by decide) rfl k) k) k) k) k) k) k) k) k
theorem b_X3_makeInsert_46 {h : Nat} {L : LVs} {st : List AV} {S : ST} {Q : Option AV → ST → Prop} (k : o_c L st S (fun L st S => V MX3_makeInsert h 60 L st S Q) (nI 1)) : V MX3_makeInsert h 46 L st S Q :=
  v_iconst dX3_makeInsert_46 (by decide) (fun L st S k => v_goto dX3_makeInsert_47 (by decide) k) k
theorem b_X3_makeInsert_50 {h : Nat} {L : LVs} {st : List AV} {S : ST} {Q : Option AV → ST → Prop} (k : o_il L st S (fun L st S => o_c L st S (fun L st S => t_2 L st S (fun x y => x = y) (fun L st S => V MX3_makeInsert h 55 L st S Q) (fun L st S => V MX3_makeInsert h 59 L st S Q)) (nI 2)) 2) : V MX3_makeInsert h 50 L st S Q :=
  v_iload_n dX3_makeInsert_50 rfl (fun L st S k => v_iconst dX3_makeInsert_51 (by decide) (fun L st S k => w_icmp_ne dX3_makeInsert_52 (by decide) rfl k) k) k
theorem b_X3_makeInsert_55 {h : Nat} {L : LVs} {st : List AV} {S : ST} {Q : Option AV → ST → Prop} (k : o_c L st S (fun L st S => V MX3_makeInsert h 60 L st S Q) (nI 2)) : V MX3_makeInsert h 55 L st S Q :=
  v_iconst dX3_makeInsert_55 (by decide) (fun L st S k => v_goto dX3_makeInsert_56 (by decide) k) k
theorem b_X3_makeInsert_59 {h : Nat} {L : LVs} {st : List AV} {S : ST} {Q : Option AV → ST → Prop} (k : o_c L st S (fun L st S => V MX3_makeInsert h 60 L st S Q) (nI 3)) : V MX3_makeInsert h 59 L st S Q :=
  v_iconst dX3_makeInsert_59 (by decide) (fun L st S k => k) k
theorem b_X3_makeInsert_60 {h : Nat} {L : LVs} {st : List AV} {S : ST} {Q : Option AV → ST → Prop} (k : o_is L st S (fun L st S => o_al L st S (fun L st S => o_get L st S (fun L st S => o_il L st S (fun L st S => o_al L st S (fun L st S => o_get L st S (fun L st S => o_get L st S (fun L st S => o_il L st S (fun L st S => o_iald L st S (fun L st S => V MX3_makeInsert h 75 L st S Q)) 1) 6 5 (3, 26, 0)) 3 0 (4, 6, 0)) 0) 3) 3 1 (4, 1, 1)) 0) 3) : V MX3_makeInsert h 60 L st S Q :=
  v_istore_n dX3_makeInsert_60 rfl (by decide) (fun L st S k => v_aload_n dX3_makeInsert_61 rfl (fun L st S k => v_get dX3_makeInsert_62 rfl iX3 LY_3 rfl (by decide) rfl fl_X3_15 (fun L st S k => v_iload_n dX3_makeInsert_65 rfl (fun L st S k => v_aload_n dX3_makeInsert_66 rfl (fun L st S k => v_get dX3_makeInsert_67 rfl iX3 LY_3 rfl (by decide) rfl fl_X3_9 (fun L st S k => v_get dX3_makeInsert_70 rfl iX6 LY_6 rfl (by decide) rfl fl_X3_67 (fun L st S k => v_iload_n dX3_makeInsert_73 rfl (fun L st S k => v_iaload dX3_makeInsert_74 (fun L st S k => k) k) k) k) k) k) k) k) k) k
theorem k_X3_makeInsert_75 {h : Nat} {L : LVs} {st : List AV} {S : ST} {Q Q' : Option AV → ST → Prop} {j : Nat} {a0 a1 : AV} (hC : Ct MX1_add h [vR 1 j, a0, a1] S Q') (k : ∀ (r : Option AV) (S' : ST), Q' r S' → V MX3_makeInsert (h + 1) 78 L (r.toList ++ st) S' Q) (hj : j < NI 1) (hw : wid st ≤ 8) : V MX3_makeInsert (h + 1) 75 L (a1 :: a0 :: vR 1 j :: st) S Q :=
  v_callV (M' := MX1_add) (c := 1) (As := [a0, a1]) dX3_makeInsert_75 ml_X3_47 im_X1_add se_X1_add in_X1 cd_X1_add rfl LY_1 np_X1_add (by decide) hw hj hC k
theorem b_X3_makeInsert_78 {h : Nat} {L : LVs} {st : List AV} {S : ST} {Q : Option AV → ST → Prop} (k : o_al L st S (fun L st S => o_get L st S (fun L st S => o_c L st S (fun L st S => o_il L st S (fun L st S => V MX3_makeInsert h 85 L st S Q) 1) (nI 45)) 3 1 (4, 1, 1)) 0) : V MX3_makeInsert h 78 L st S Q :=
  v_aload_n dX3_makeInsert_78 rfl (fun L st S k => v_get dX3_makeInsert_79 rfl iX3 LY_3 rfl (by decide) rfl fl_X3_15 (fun L st S k => v_bipush dX3_makeInsert_82 (by decide) (fun L st S k => v_iload_n dX3_makeInsert_84 rfl (fun L st S k => k) k) k) k) k
theorem k_X3_makeInsert_85 {h : Nat} {L : LVs} {st : List AV} {S : ST} {Q Q' : Option AV → ST → Prop} {j : Nat} {a0 a1 : AV} (hC : Ct MX1_add h [vR 1 j, a0, a1] S Q') (k : ∀ (r : Option AV) (S' : ST), Q' r S' → V MX3_makeInsert (h + 1) 88 L (r.toList ++ st) S' Q) (hj : j < NI 1) (hw : wid st ≤ 8) : V MX3_makeInsert (h + 1) 85 L (a1 :: a0 :: vR 1 j :: st) S Q :=
  v_callV (M' := MX1_add) (c := 1) (As := [a0, a1]) dX3_makeInsert_85 ml_X3_47 im_X1_add se_X1_add in_X1 cd_X1_add rfl LY_1 np_X1_add (by decide) hw hj hC k
theorem b_X3_makeInsert_88 {h : Nat} {L : LVs} {st : List AV} {S : ST} {Q : Option AV → ST → Prop} (k : o_inc L st S (fun L st S => V MX3_makeInsert h 20 L st S Q) 1 (nI 1)) : V MX3_makeInsert h 88 L st S Q :=
  v_iinc dX3_makeInsert_88 (by decide) (by decide) (fun L st S k => v_goto dX3_makeInsert_91 (by decide) k) k
theorem b_X3_makeInsert_94 {h : Nat} {L : LVs} {st : List AV} {S : ST} {Q : Option AV → ST → Prop} (k : o_al L st S (fun L st S => o_get L st S (fun L st S => o_c L st S (fun L st S => o_c L st S (fun L st S => V MX3_makeInsert h 101 L st S Q) (nI 0)) (nI 46)) 3 1 (4, 1, 1)) 0) : V MX3_makeInsert h 94 L st S Q :=
  v_aload_n dX3_makeInsert_94 rfl (fun L st S k => v_get dX3_makeInsert_95 rfl iX3 LY_3 rfl (by decide) rfl fl_X3_15 (fun L st S k => v_bipush dX3_makeInsert_98 (by decide) (fun L st S k => v_iconst dX3_makeInsert_100 (by decide) (fun L st S k => k) k) k) k) k
theorem k_X3_makeInsert_101 {h : Nat} {L : LVs} {st : List AV} {S : ST} {Q Q' : Option AV → ST → Prop} {j : Nat} {a0 a1 : AV} (hC : Ct MX1_add h [vR 1 j, a0, a1] S Q') (k : ∀ (r : Option AV) (S' : ST), Q' r S' → V MX3_makeInsert (h + 1) 104 L (r.toList ++ st) S' Q) (hj : j < NI 1) (hw : wid st ≤ 8) : V MX3_makeInsert (h + 1) 101 L (a1 :: a0 :: vR 1 j :: st) S Q :=
  v_callV (M' := MX1_add) (c := 1) (As := [a0, a1]) dX3_makeInsert_101 ml_X3_47 im_X1_add se_X1_add in_X1 cd_X1_add rfl LY_1 np_X1_add (by decide) hw hj hC k
theorem b_X3_makeInsert_104 {h : Nat} {L : LVs} {st : List AV} {S : ST} {Q : Option AV → ST → Prop} (k : t_vr st S Q) : V MX3_makeInsert h 104 L st S Q :=
  w_vr dX3_makeInsert_104 rfl k
-- QueryForge$Maker.makeDelete()V
theorem dX3_makeDelete_0 : decode cX3_makeDelete 0 = .ok (.aload_n 0, 1) := by decide +kernel
theorem dX3_makeDelete_1 : decode cX3_makeDelete 1 = .ok (.invokevirtual 70, 3) := by decide +kernel
theorem dX3_makeDelete_4 : decode cX3_makeDelete 4 = .ok (.istore_n 1, 1) := by decide +kernel
theorem dX3_makeDelete_5 : decode cX3_makeDelete 5 = .ok (.aload_n 0, 1) := by decide +kernel
theorem dX3_makeDelete_6 : decode cX3_makeDelete 6 = .ok (.getfield 15, 3) := by decide +kernel
theorem dX3_makeDelete_9 : decode cX3_makeDelete 9 = .ok (.bipush 41, 2) := by decide +kernel
theorem dX3_makeDelete_11 : decode cX3_makeDelete 11 = .ok (.iconst 0, 1) := by decide +kernel
theorem dX3_makeDelete_12 : decode cX3_makeDelete 12 = .ok (.invokevirtual 47, 3) := by decide +kernel
theorem dX3_makeDelete_15 : decode cX3_makeDelete 15 = .ok (.aload_n 0, 1) := by decide +kernel
theorem dX3_makeDelete_16 : decode cX3_makeDelete 16 = .ok (.iload_n 1, 1) := by decide +kernel
theorem dX3_makeDelete_17 : decode cX3_makeDelete 17 = .ok (.invokevirtual 74, 3) := by decide +kernel
theorem dX3_makeDelete_20 : decode cX3_makeDelete 20 = .ok (.aload_n 0, 1) := by decide +kernel
theorem dX3_makeDelete_21 : decode cX3_makeDelete 21 = .ok (.getfield 15, 3) := by decide +kernel
theorem dX3_makeDelete_24 : decode cX3_makeDelete 24 = .ok (.bipush 43, 2) := by decide +kernel
theorem dX3_makeDelete_26 : decode cX3_makeDelete 26 = .ok (.iconst 0, 1) := by decide +kernel
theorem dX3_makeDelete_27 : decode cX3_makeDelete 27 = .ok (.invokevirtual 47, 3) := by decide +kernel
theorem dX3_makeDelete_30 : decode cX3_makeDelete 30 = .ok (.return_, 1) := by decide +kernel
theorem b_X3_makeDelete_0 {h : Nat} {L : LVs} {st : List AV} {S : ST} {Q : Option AV → ST → Prop} (k : o_al L st S (fun L st S => V MX3_makeDelete h 1 L st S Q) 0) : V MX3_makeDelete h 0 L st S Q :=
  v_aload_n dX3_makeDelete_0 rfl (fun L st S k => k) k
theorem k_X3_makeDelete_1 {h : Nat} {L : LVs} {st : List AV} {S : ST} {Q Q' : Option AV → ST → Prop} {j : Nat} (hC : Ct MX3_startRows h [vR 3 j] S Q') (k : ∀ (r : Option AV) (S' : ST), Q' r S' → V MX3_makeDelete (h + 1) 4 L (r.toList ++ st) S' Q) (hj : j < NI 3) (hw : wid st ≤ 8) : V MX3_makeDelete (h + 1) 1 L (vR 3 j :: st) S Q :=
  v_callV (M' := MX3_startRows) (c := 3) (As := []) dX3_makeDelete_1 ml_X3_70 im_X3_startRows se_X3_startRows in_X3 cd_X3_startRows rfl LY_3 np_X3_startRows (by decide) hw hj hC k
theorem b_X3_makeDelete_4 {h : Nat} {L : LVs} {st : List AV} {S : ST} {Q : Option AV → ST → Prop} (k : o_is L st S (fun L st S => o_al L st S (fun L st S => o_get L st S (fun L st S => o_c L st S (fun L st S => o_c L st S (fun L st S => V MX3_makeDelete h 12 L st S Q) (nI 0)) (nI 41)) 3 1 (4, 1, 1)) 0) 1) : V MX3_makeDelete h 4 L st S Q :=
  v_istore_n dX3_makeDelete_4 rfl (by decide) (fun L st S k => v_aload_n dX3_makeDelete_5 rfl (fun L st S k => v_get dX3_makeDelete_6 rfl iX3 LY_3 rfl (by decide) rfl fl_X3_15 (fun L st S k => v_bipush dX3_makeDelete_9 (by decide) (fun L st S k => v_iconst dX3_makeDelete_11 (by decide) (fun L st S k => k) k) k) k) k) k
theorem k_X3_makeDelete_12 {h : Nat} {L : LVs} {st : List AV} {S : ST} {Q Q' : Option AV → ST → Prop} {j : Nat} {a0 a1 : AV} (hC : Ct MX1_add h [vR 1 j, a0, a1] S Q') (k : ∀ (r : Option AV) (S' : ST), Q' r S' → V MX3_makeDelete (h + 1) 15 L (r.toList ++ st) S' Q) (hj : j < NI 1) (hw : wid st ≤ 8) : V MX3_makeDelete (h + 1) 12 L (a1 :: a0 :: vR 1 j :: st) S Q :=
  v_callV (M' := MX1_add) (c := 1) (As := [a0, a1]) dX3_makeDelete_12 ml_X3_47 im_X1_add se_X1_add in_X1 cd_X1_add rfl LY_1 np_X1_add (by decide) hw hj hC k
theorem b_X3_makeDelete_15 {h : Nat} {L : LVs} {st : List AV} {S : ST} {Q : Option AV → ST → Prop} (k : o_al L st S (fun L st S => o_il L st S (fun L st S => V MX3_makeDelete h 17 L st S Q) 1) 0) : V MX3_makeDelete h 15 L st S Q :=
  v_aload_n dX3_makeDelete_15 rfl (fun L st S k => v_iload_n dX3_makeDelete_16 rfl (fun L st S k => k) k) k
theorem k_X3_makeDelete_17 {h : Nat} {L : LVs} {st : List AV} {S : ST} {Q Q' : Option AV → ST → Prop} {j : Nat} {a0 : AV} (hC : Ct MX3_endRows h [vR 3 j, a0] S Q') (k : ∀ (r : Option AV) (S' : ST), Q' r S' → V MX3_makeDelete (h + 1) 20 L (r.toList ++ st) S' Q) (hj : j < NI 3) (hw : wid st ≤ 8) : V MX3_makeDelete (h + 1) 17 L (a0 :: vR 3 j :: st) S Q :=
  v_callV (M' := MX3_endRows) (c := 3) (As := [a0]) dX3_makeDelete_17 ml_X3_74 im_X3_endRows se_X3_endRows in_X3 cd_X3_endRows rfl LY_3 np_X3_endRows (by decide) hw hj hC k
theorem b_X3_makeDelete_20 {h : Nat} {L : LVs} {st : List AV} {S : ST} {Q : Option AV → ST → Prop} (k : o_al L st S (fun L st S => o_get L st S (fun L st S => o_c L st S (fun L st S => o_c L st S (fun L st S => V MX3_makeDelete h 27 L st S Q) (nI 0)) (nI 43)) 3 1 (4, 1, 1)) 0) : V MX3_makeDelete h 20 L st S Q :=
  v_aload_n dX3_makeDelete_20 rfl (fun L st S k => v_get dX3_makeDelete_21 rfl iX3 LY_3 rfl (by decide) rfl fl_X3_15 (fun L st S k => v_bipush dX3_makeDelete_24 (by decide) (fun L st S k => v_iconst dX3_makeDelete_26 (by decide) (fun L st S k => k) k) k) k) k
theorem k_X3_makeDelete_27 {h : Nat} {L : LVs} {st : List AV} {S : ST} {Q Q' : Option AV → ST → Prop} {j : Nat} {a0 a1 : AV} (hC : Ct MX1_add h [vR 1 j, a0, a1] S Q') (k : ∀ (r : Option AV) (S' : ST), Q' r S' → V MX3_makeDelete (h + 1) 30 L (r.toList ++ st) S' Q) (hj : j < NI 1) (hw : wid st ≤ 8) : V MX3_makeDelete (h + 1) 27 L (a1 :: a0 :: vR 1 j :: st) S Q :=
  v_callV (M' := MX1_add) (c := 1) (As := [a0, a1]) dX3_makeDelete_27 ml_X3_47 im_X1_add se_X1_add in_X1 cd_X1_add rfl LY_1 np_X1_add (by decide) hw hj hC k
theorem b_X3_makeDelete_30 {h : Nat} {L : LVs} {st : List AV} {S : ST} {Q : Option AV → ST → Prop} (k : t_vr st S Q) : V MX3_makeDelete h 30 L st S Q :=
  w_vr dX3_makeDelete_30 rfl k
-- QueryForge$Maker.makeUpdate()V
theorem dX3_makeUpdate_0 : decode cX3_makeUpdate 0 = .ok (.aload_n 0, 1) := by decide +kernel
theorem dX3_makeUpdate_1 : decode cX3_makeUpdate 1 = .ok (.invokevirtual 70, 3) := by decide +kernel
theorem dX3_makeUpdate_4 : decode cX3_makeUpdate 4 = .ok (.istore_n 1, 1) := by decide +kernel
theorem dX3_makeUpdate_5 : decode cX3_makeUpdate 5 = .ok (.aload_n 0, 1) := by decide +kernel
theorem dX3_makeUpdate_6 : decode cX3_makeUpdate 6 = .ok (.iconst 0, 1) := by decide +kernel
theorem dX3_makeUpdate_7 : decode cX3_makeUpdate 7 = .ok (.aload_n 0, 1) := by decide +kernel
theorem dX3_makeUpdate_8 : decode cX3_makeUpdate 8 = .ok (.getfield 9, 3) := by decide +kernel
theorem dX3_makeUpdate_11 : decode cX3_makeUpdate 11 = .ok (.getfield 78, 3) := by decide +kernel
theorem dX3_makeUpdate_14 : decode cX3_makeUpdate 14 = .ok (.iconst 0, 1) := by decide +kernel
theorem dX3_makeUpdate_15 : decode cX3_makeUpdate 15 = .ok (.iaload, 1) := by decide +kernel
theorem dX3_makeUpdate_16 : decode cX3_makeUpdate 16 = .ok (.invokevirtual 81, 3) := by decide +kernel
theorem dX3_makeUpdate_19 : decode cX3_makeUpdate 19 = .ok (.aload_n 0, 1) := by decide +kernel
theorem dX3_makeUpdate_20 : decode cX3_makeUpdate 20 = .ok (.getfield 15, 3) := by decide +kernel
theorem dX3_makeUpdate_23 : decode cX3_makeUpdate 23 = .ok (.bipush 42, 2) := by decide +kernel
theorem dX3_makeUpdate_25 : decode cX3_makeUpdate 25 = .ok (.iconst 0, 1) := by decide +kernel
theorem dX3_makeUpdate_26 : decode cX3_makeUpdate 26 = .ok (.invokevirtual 47, 3) := by decide +kernel
theorem dX3_makeUpdate_29 : decode cX3_makeUpdate 29 = .ok (.aload_n 0, 1) := by decide +kernel
theorem dX3_makeUpdate_30 : decode cX3_makeUpdate 30 = .ok (.iload_n 1, 1) := by decide +kernel
theorem dX3_makeUpdate_31 : decode cX3_makeUpdate 31 = .ok (.invokevirtual 74, 3) := by decide +kernel
theorem dX3_makeUpdate_34 : decode cX3_makeUpdate 34 = .ok (.aload_n 0, 1) := by decide +kernel
theorem dX3_makeUpdate_35 : decode cX3_makeUpdate 35 = .ok (.getfield 15, 3) := by decide +kernel
theorem dX3_makeUpdate_38 : decode cX3_makeUpdate 38 = .ok (.bipush 44, 2) := by decide +kernel
theorem dX3_makeUpdate_40 : decode cX3_makeUpdate 40 = .ok (.aload_n 0, 1) := by decide +kernel
theorem dX3_makeUpdate_41 : decode cX3_makeUpdate 41 = .ok (.getfield 9, 3) := by decide +kernel
theorem dX3_makeUpdate_44 : decode cX3_makeUpdate 44 = .ok (.getfield 84, 3) := by decide +kernel
theorem dX3_makeUpdate_47 : decode cX3_makeUpdate 47 = .ok (.invokevirtual 47, 3) := by decide +kernel
theorem dX3_makeUpdate_50 : decode cX3_makeUpdate 50 = .ok (.return_, 1) := by decide +kernel
theorem b_X3_makeUpdate_0 {h : Nat} {L : LVs} {st : List AV} {S : ST} {Q : Option AV → ST → Prop} (k : o_al L st S (fun L st S => V MX3_makeUpdate h 1 L st S Q) 0) : V MX3_makeUpdate h 0 L st S Q :=
  v_aload_n dX3_makeUpdate_0 rfl (fun L st S k => k) k
theorem k_X3_makeUpdate_1 {h : Nat} {L : LVs} {st : List AV} {S : ST} {Q Q' : Option AV → ST → Prop} {j : Nat} (hC : Ct MX3_startRows h [vR 3 j] S Q') (k : ∀ (r : Option AV) (S' : ST), Q' r S' → V MX3_makeUpdate (h + 1) 4 L (r.toList ++ st) S' Q) (hj : j < NI 3) (hw : wid st ≤ 8) : V MX3_makeUpdate (h + 1) 1 L (vR 3 j :: st) S Q :=
  v_callV (M' := MX3_startRows) (c := 3) (As := []) dX3_makeUpdate_1 ml_X3_70 im_X3_startRows se_X3_startRows in_X3 cd_X3_startRows rfl LY_3 np_X3_startRows (by decide) hw hj hC k
theorem b_X3_makeUpdate_4 {h : Nat} {L : LVs} {st : List AV} {S : ST} {Q : Option AV → ST → Prop} (k : o_is L st S (fun L st S => o_al L st S (fun L st S => o_c L st S (fun L st S => o_al L st S (fun L st S => o_get L st S (fun L st S => o_get L st S (fun L st S => o_c L st S (fun L st S => o_iald L st S (fun L st S => V MX3_makeUpdate h 16 L st S Q)) (nI 0)) 6 7 (3, 28, 0)) 3 0 (4, 6, 0)) 0) (nI 0)) 0) 1) : V MX3_makeUpdate h 4 L st S Q :=
  v_istore_n dX3_makeUpdate_4 rfl (by decide) (fun L st S k => v_aload_n dX3_makeUpdate_5 rfl (fun L st S k => v_iconst dX3_makeUpdate_6 (by decide) (fun L st S k => v_aload_n dX3_makeUpdate_7 rfl (fun L st S k => v_get dX3_makeUpdate_8 rfl iX3 LY_3 rfl (by decide) rfl fl_X3_9 (fun L st S k => v_get dX3_makeUpdate_11 rfl iX6 LY_6 rfl (by decide) rfl fl_X3_78 (fun L st S k => v_iconst dX3_makeUpdate_14 (by decide) (fun L st S k => v_iaload dX3_makeUpdate_15 (fun L st S k => k) k) k) k) k) k) k) k) k
theorem k_X3_makeUpdate_16 {h : Nat} {L : LVs} {st : List AV} {S : ST} {Q Q' : Option AV → ST → Prop} {j : Nat} {a0 a1 : AV} (hC : Ct MX3_copyDraft h [vR 3 j, a0, a1] S Q') (k : ∀ (r : Option AV) (S' : ST), Q' r S' → V MX3_makeUpdate (h + 1) 19 L (r.toList ++ st) S' Q) (hj : j < NI 3) (hw : wid st ≤ 8) : V MX3_makeUpdate (h + 1) 16 L (a1 :: a0 :: vR 3 j :: st) S Q :=
  v_callV (M' := MX3_copyDraft) (c := 3) (As := [a0, a1]) dX3_makeUpdate_16 ml_X3_81 im_X3_copyDraft se_X3_copyDraft in_X3 cd_X3_copyDraft rfl LY_3 np_X3_copyDraft (by decide) hw hj hC k
theorem b_X3_makeUpdate_19 {h : Nat} {L : LVs} {st : List AV} {S : ST} {Q : Option AV → ST → Prop} (k : o_al L st S (fun L st S => o_get L st S (fun L st S => o_c L st S (fun L st S => o_c L st S (fun L st S => V MX3_makeUpdate h 26 L st S Q) (nI 0)) (nI 42)) 3 1 (4, 1, 1)) 0) : V MX3_makeUpdate h 19 L st S Q :=
  v_aload_n dX3_makeUpdate_19 rfl (fun L st S k => v_get dX3_makeUpdate_20 rfl iX3 LY_3 rfl (by decide) rfl fl_X3_15 (fun L st S k => v_bipush dX3_makeUpdate_23 (by decide) (fun L st S k => v_iconst dX3_makeUpdate_25 (by decide) (fun L st S k => k) k) k) k) k
theorem k_X3_makeUpdate_26 {h : Nat} {L : LVs} {st : List AV} {S : ST} {Q Q' : Option AV → ST → Prop} {j : Nat} {a0 a1 : AV} (hC : Ct MX1_add h [vR 1 j, a0, a1] S Q') (k : ∀ (r : Option AV) (S' : ST), Q' r S' → V MX3_makeUpdate (h + 1) 29 L (r.toList ++ st) S' Q) (hj : j < NI 1) (hw : wid st ≤ 8) : V MX3_makeUpdate (h + 1) 26 L (a1 :: a0 :: vR 1 j :: st) S Q :=
  v_callV (M' := MX1_add) (c := 1) (As := [a0, a1]) dX3_makeUpdate_26 ml_X3_47 im_X1_add se_X1_add in_X1 cd_X1_add rfl LY_1 np_X1_add (by decide) hw hj hC k
theorem b_X3_makeUpdate_29 {h : Nat} {L : LVs} {st : List AV} {S : ST} {Q : Option AV → ST → Prop} (k : o_al L st S (fun L st S => o_il L st S (fun L st S => V MX3_makeUpdate h 31 L st S Q) 1) 0) : V MX3_makeUpdate h 29 L st S Q :=
  v_aload_n dX3_makeUpdate_29 rfl (fun L st S k => v_iload_n dX3_makeUpdate_30 rfl (fun L st S k => k) k) k
theorem k_X3_makeUpdate_31 {h : Nat} {L : LVs} {st : List AV} {S : ST} {Q Q' : Option AV → ST → Prop} {j : Nat} {a0 : AV} (hC : Ct MX3_endRows h [vR 3 j, a0] S Q') (k : ∀ (r : Option AV) (S' : ST), Q' r S' → V MX3_makeUpdate (h + 1) 34 L (r.toList ++ st) S' Q) (hj : j < NI 3) (hw : wid st ≤ 8) : V MX3_makeUpdate (h + 1) 31 L (a0 :: vR 3 j :: st) S Q :=
  v_callV (M' := MX3_endRows) (c := 3) (As := [a0]) dX3_makeUpdate_31 ml_X3_74 im_X3_endRows se_X3_endRows in_X3 cd_X3_endRows rfl LY_3 np_X3_endRows (by decide) hw hj hC k
theorem b_X3_makeUpdate_34 {h : Nat} {L : LVs} {st : List AV} {S : ST} {Q : Option AV → ST → Prop} (k : o_al L st S (fun L st S => o_get L st S (fun L st S => o_c L st S (fun L st S => o_al L st S (fun L st S => o_get L st S (fun L st S => o_get L st S (fun L st S => V MX3_makeUpdate h 47 L st S Q) 6 12 (0, 0, 0)) 3 0 (4, 6, 0)) 0) (nI 44)) 3 1 (4, 1, 1)) 0) : V MX3_makeUpdate h 34 L st S Q :=
  v_aload_n dX3_makeUpdate_34 rfl (fun L st S k => v_get dX3_makeUpdate_35 rfl iX3 LY_3 rfl (by decide) rfl fl_X3_15 (fun L st S k => v_bipush dX3_makeUpdate_38 (by decide) (fun L st S k => v_aload_n dX3_makeUpdate_40 rfl (fun L st S k => v_get dX3_makeUpdate_41 rfl iX3 LY_3 rfl (by decide) rfl fl_X3_9 (fun L st S k => v_get dX3_makeUpdate_44 rfl iX6 LY_6 rfl (by decide) rfl fl_X3_84 (fun L st S k => k) k) k) k) k) k) k
theorem k_X3_makeUpdate_47 {h : Nat} {L : LVs} {st : List AV} {S : ST} {Q Q' : Option AV → ST → Prop} {j : Nat} {a0 a1 : AV} (hC : Ct MX1_add h [vR 1 j, a0, a1] S Q') (k : ∀ (r : Option AV) (S' : ST), Q' r S' → V MX3_makeUpdate (h + 1) 50 L (r.toList ++ st) S' Q) (hj : j < NI 1) (hw : wid st ≤ 8) : V MX3_makeUpdate (h + 1) 47 L (a1 :: a0 :: vR 1 j :: st) S Q :=
  v_callV (M' := MX1_add) (c := 1) (As := [a0, a1]) dX3_makeUpdate_47 ml_X3_47 im_X1_add se_X1_add in_X1 cd_X1_add rfl LY_1 np_X1_add (by decide) hw hj hC k
theorem b_X3_makeUpdate_50 {h : Nat} {L : LVs} {st : List AV} {S : ST} {Q : Option AV → ST → Prop} (k : t_vr st S Q) : V MX3_makeUpdate h 50 L st S Q :=
  w_vr dX3_makeUpdate_50 rfl k
-- QueryForge$Maker.makeSelect()V
theorem dX3_makeSelect_0 : decode cX3_makeSelect 0 = .ok (.aload_n 0, 1) := by decide +kernel
theorem dX3_makeSelect_1 : decode cX3_makeSelect 1 = .ok (.getfield 9, 3) := by decide +kernel
theorem dX3_makeSelect_4 : decode cX3_makeSelect 4 = .ok (.invokevirtual 87, 3) := by decide +kernel
theorem dX3_makeSelect_7 : decode cX3_makeSelect 7 = .ok (.ifCond .gt 13, 3) := by decide +kernel
theorem dX3_makeSelect_10 : decode cX3_makeSelect 10 = .ok (.aload_n 0, 1) := by decide +kernel
theorem dX3_makeSelect_11 : decode cX3_makeSelect 11 = .ok (.getfield 9, 3) := by decide +kernel
theorem dX3_makeSelect_14 : decode cX3_makeSelect 14 = .ok (.invokevirtual 90, 3) := by decide +kernel
theorem dX3_makeSelect_17 : decode cX3_makeSelect 17 = .ok (.ifCond .eq 7, 3) := by decide +kernel
theorem dX3_makeSelect_20 : decode cX3_makeSelect 20 = .ok (.iconst 1, 1) := by decide +kernel
theorem dX3_makeSelect_21 : decode cX3_makeSelect 21 = .ok (.goto 4, 3) := by decide +kernel
theorem dX3_makeSelect_24 : decode cX3_makeSelect 24 = .ok (.iconst 0, 1) := by decide +kernel
theorem dX3_makeSelect_25 : decode cX3_makeSelect 25 = .ok (.istore_n 1, 1) := by decide +kernel
theorem dX3_makeSelect_26 : decode cX3_makeSelect 26 = .ok (.iload_n 1, 1) := by decide +kernel
theorem dX3_makeSelect_27 : decode cX3_makeSelect 27 = .ok (.ifCond .eq 23, 3) := by decide +kernel
theorem dX3_makeSelect_30 : decode cX3_makeSelect 30 = .ok (.aload_n 0, 1) := by decide +kernel
theorem dX3_makeSelect_31 : decode cX3_makeSelect 31 = .ok (.getfield 9, 3) := by decide +kernel
theorem dX3_makeSelect_34 : decode cX3_makeSelect 34 = .ok (.invokevirtual 90, 3) := by decide +kernel
theorem dX3_makeSelect_37 : decode cX3_makeSelect 37 = .ok (.ifCond .ne 13, 3) := by decide +kernel
theorem dX3_makeSelect_40 : decode cX3_makeSelect 40 = .ok (.aload_n 0, 1) := by decide +kernel
theorem dX3_makeSelect_41 : decode cX3_makeSelect 41 = .ok (.getfield 15, 3) := by decide +kernel
theorem dX3_makeSelect_44 : decode cX3_makeSelect 44 = .ok (.bipush 30, 2) := by decide +kernel
theorem dX3_makeSelect_46 : decode cX3_makeSelect 46 = .ok (.iconst 0, 1) := by decide +kernel
theorem dX3_makeSelect_47 : decode cX3_makeSelect 47 = .ok (.invokevirtual 47, 3) := by decide +kernel
theorem dX3_makeSelect_50 : decode cX3_makeSelect 50 = .ok (.aload_n 0, 1) := by decide +kernel
theorem dX3_makeSelect_51 : decode cX3_makeSelect 51 = .ok (.invokevirtual 70, 3) := by decide +kernel
theorem dX3_makeSelect_54 : decode cX3_makeSelect 54 = .ok (.istore_n 2, 1) := by decide +kernel
theorem dX3_makeSelect_55 : decode cX3_makeSelect 55 = .ok (.iconst 0, 1) := by decide +kernel
theorem dX3_makeSelect_56 : decode cX3_makeSelect 56 = .ok (.istore_n 3, 1) := by decide +kernel
theorem dX3_makeSelect_57 : decode cX3_makeSelect 57 = .ok (.iload_n 3, 1) := by decide +kernel
theorem dX3_makeSelect_58 : decode cX3_makeSelect 58 = .ok (.aload_n 0, 1) := by decide +kernel
theorem dX3_makeSelect_59 : decode cX3_makeSelect 59 = .ok (.getfield 9, 3) := by decide +kernel
theorem dX3_makeSelect_62 : decode cX3_makeSelect 62 = .ok (.getfield 51, 3) := by decide +kernel
theorem dX3_makeSelect_65 : decode cX3_makeSelect 65 = .ok (.if_icmp .ge 43, 3) := by decide +kernel
theorem dX3_makeSelect_68 : decode cX3_makeSelect 68 = .ok (.aload_n 0, 1) := by decide +kernel
theorem dX3_makeSelect_69 : decode cX3_makeSelect 69 = .ok (.aload_n 0, 1) := by decide +kernel
theorem dX3_makeSelect_70 : decode cX3_makeSelect 70 = .ok (.getfield 9, 3) := by decide +kernel
theorem dX3_makeSelect_73 : decode cX3_makeSelect 73 = .ok (.iload_n 3, 1) := by decide +kernel
theorem dX3_makeSelect_74 : decode cX3_makeSelect 74 = .ok (.invokevirtual 94, 3) := by decide +kernel
theorem dX3_makeSelect_77 : decode cX3_makeSelect 77 = .ok (.aload_n 0, 1) := by decide +kernel
theorem dX3_makeSelect_78 : decode cX3_makeSelect 78 = .ok (.getfield 9, 3) := by decide +kernel
theorem dX3_makeSelect_81 : decode cX3_makeSelect 81 = .ok (.getfield 78, 3) := by decide +kernel
theorem dX3_makeSelect_84 : decode cX3_makeSelect 84 = .ok (.iload_n 3, 1) := by decide +kernel
theorem dX3_makeSelect_85 : decode cX3_makeSelect 85 = .ok (.iaload, 1) := by decide +kernel
theorem dX3_makeSelect_86 : decode cX3_makeSelect 86 = .ok (.invokevirtual 81, 3) := by decide +kernel
theorem dX3_makeSelect_89 : decode cX3_makeSelect 89 = .ok (.aload_n 0, 1) := by decide +kernel
theorem dX3_makeSelect_90 : decode cX3_makeSelect 90 = .ok (.getfield 15, 3) := by decide +kernel
theorem dX3_makeSelect_93 : decode cX3_makeSelect 93 = .ok (.aload_n 0, 1) := by decide +kernel
theorem dX3_makeSelect_94 : decode cX3_makeSelect 94 = .ok (.iload_n 3, 1) := by decide +kernel
theorem dX3_makeSelect_95 : decode cX3_makeSelect 95 = .ok (.invokevirtual 98, 3) := by decide +kernel
theorem dX3_makeSelect_98 : decode cX3_makeSelect 98 = .ok (.iload_n 3, 1) := by decide +kernel
theorem dX3_makeSelect_99 : decode cX3_makeSelect 99 = .ok (.invokevirtual 47, 3) := by decide +kernel
theorem dX3_makeSelect_102 : decode cX3_makeSelect 102 = .ok (.iinc 3 1, 3) := by decide +kernel
theorem dX3_makeSelect_105 : decode cX3_makeSelect 105 = .ok (.goto (-48), 3) := by decide +kernel
theorem dX3_makeSelect_108 : decode cX3_makeSelect 108 = .ok (.iload_n 1, 1) := by decide +kernel
theorem dX3_makeSelect_109 : decode cX3_makeSelect 109 = .ok (.ifCond .ne 13, 3) := by decide +kernel
theorem dX3_makeSelect_112 : decode cX3_makeSelect 112 = .ok (.aload_n 0, 1) := by decide +kernel
theorem dX3_makeSelect_113 : decode cX3_makeSelect 113 = .ok (.getfield 15, 3) := by decide +kernel
theorem dX3_makeSelect_116 : decode cX3_makeSelect 116 = .ok (.bipush 29, 2) := by decide +kernel
theorem dX3_makeSelect_118 : decode cX3_makeSelect 118 = .ok (.iconst 0, 1) := by decide +kernel
theorem dX3_makeSelect_119 : decode cX3_makeSelect 119 = .ok (.invokevirtual 47, 3) := by decide +kernel
theorem dX3_makeSelect_122 : decode cX3_makeSelect 122 = .ok (.aload_n 0, 1) := by decide +kernel
theorem dX3_makeSelect_123 : decode cX3_makeSelect 123 = .ok (.iload_n 2, 1) := by decide +kernel
theorem dX3_makeSelect_124 : decode cX3_makeSelect 124 = .ok (.invokevirtual 74, 3) := by decide +kernel
theorem dX3_makeSelect_127 : decode cX3_makeSelect 127 = .ok (.iconst 0, 1) := by decide +kernel
theorem dX3_makeSelect_128 : decode cX3_makeSelect 128 = .ok (.istore_n 3, 1) := by decide +kernel
theorem dX3_makeSelect_129 : decode cX3_makeSelect 129 = .ok (.iload_n 3, 1) := by decide +kernel
theorem dX3_makeSelect_130 : decode cX3_makeSelect 130 = .ok (.aload_n 0, 1) := by decide +kernel
theorem dX3_makeSelect_131 : decode cX3_makeSelect 131 = .ok (.getfield 9, 3) := by decide +kernel
theorem dX3_makeSelect_134 : decode cX3_makeSelect 134 = .ok (.getfield 51, 3) := by decide +kernel
theorem dX3_makeSelect_137 : decode cX3_makeSelect 137 = .ok (.if_icmp .ge 62, 3) := by decide +kernel
theorem dX3_makeSelect_140 : decode cX3_makeSelect 140 = .ok (.aload_n 0, 1) := by decide +kernel
theorem dX3_makeSelect_141 : decode cX3_makeSelect 141 = .ok (.getfield 9, 3) := by decide +kernel
theorem dX3_makeSelect_144 : decode cX3_makeSelect 144 = .ok (.getfield 101, 3) := by decide +kernel
theorem dX3_makeSelect_147 : decode cX3_makeSelect 147 = .ok (.iload_n 3, 1) := by decide +kernel
theorem dX3_makeSelect_148 : decode cX3_makeSelect 148 = .ok (.iaload, 1) := by decide +kernel
theorem dX3_makeSelect_149 : decode cX3_makeSelect 149 = .ok (.sipush 219, 3) := by decide +kernel
theorem dX3_makeSelect_152 : decode cX3_makeSelect 152 = .ok (.if_icmp .ne 16, 3) := by decide +kernel
theorem dX3_makeSelect_155 : decode cX3_makeSelect 155 = .ok (.aload_n 0, 1) := by decide +kernel
theorem dX3_makeSelect_156 : decode cX3_makeSelect 156 = .ok (.getfield 15, 3) := by decide +kernel
theorem dX3_makeSelect_159 : decode cX3_makeSelect 159 = .ok (.bipush 36, 2) := by decide +kernel
theorem dX3_makeSelect_161 : decode cX3_makeSelect 161 = .ok (.iload_n 3, 1) := by decide +kernel
theorem dX3_makeSelect_162 : decode cX3_makeSelect 162 = .ok (.invokevirtual 47, 3) := by decide +kernel
theorem dX3_makeSelect_165 : decode cX3_makeSelect 165 = .ok (.goto 28, 3) := by decide +kernel
theorem dX3_makeSelect_168 : decode cX3_makeSelect 168 = .ok (.aload_n 0, 1) := by decide +kernel
theorem dX3_makeSelect_169 : decode cX3_makeSelect 169 = .ok (.getfield 9, 3) := by decide +kernel
theorem dX3_makeSelect_172 : decode cX3_makeSelect 172 = .ok (.getfield 101, 3) := by decide +kernel
theorem dX3_makeSelect_175 : decode cX3_makeSelect 175 = .ok (.iload_n 3, 1) := by decide +kernel
theorem dX3_makeSelect_176 : decode cX3_makeSelect 176 = .ok (.iaload, 1) := by decide +kernel
theorem dX3_makeSelect_177 : decode cX3_makeSelect 177 = .ok (.sipush 218, 3) := by decide +kernel
theorem dX3_makeSelect_180 : decode cX3_makeSelect 180 = .ok (.if_icmp .ne 13, 3) := by decide +kernel
theorem dX3_makeSelect_183 : decode cX3_makeSelect 183 = .ok (.aload_n 0, 1) := by decide +kernel
theorem dX3_makeSelect_184 : decode cX3_makeSelect 184 = .ok (.getfield 15, 3) := by decide +kernel
theorem dX3_makeSelect_187 : decode cX3_makeSelect 187 = .ok (.bipush 37, 2) := by decide +kernel
theorem dX3_makeSelect_189 : decode cX3_makeSelect 189 = .ok (.iload_n 3, 1) := by decide +kernel
theorem dX3_makeSelect_190 : decode cX3_makeSelect 190 = .ok (.invokevirtual 47, 3) := by decide +kernel
theorem dX3_makeSelect_193 : decode cX3_makeSelect 193 = .ok (.iinc 3 1, 3) := by decide +kernel
theorem dX3_makeSelect_196 : decode cX3_makeSelect 196 = .ok (.goto (-67), 3) := by decide +kernel
theorem dX3_makeSelect_199 : decode cX3_makeSelect 199 = .ok (.aload_n 0, 1) := by decide +kernel
theorem dX3_makeSelect_200 : decode cX3_makeSelect 200 = .ok (.getfield 9, 3) := by decide +kernel
theorem dX3_makeSelect_203 : decode cX3_makeSelect 203 = .ok (.getfield 106, 3) := by decide +kernel
theorem dX3_makeSelect_206 : decode cX3_makeSelect 206 = .ok (.iconst (-1), 1) := by decide +kernel
theorem dX3_makeSelect_207 : decode cX3_makeSelect 207 = .ok (.if_icmp .eq 38, 3) := by decide +kernel
theorem dX3_makeSelect_210 : decode cX3_makeSelect 210 = .ok (.aload_n 0, 1) := by decide +kernel
theorem dX3_makeSelect_211 : decode cX3_makeSelect 211 = .ok (.getfield 9, 3) := by decide +kernel
theorem dX3_makeSelect_214 : decode cX3_makeSelect 214 = .ok (.getfield 109, 3) := by decide +kernel
theorem dX3_makeSelect_217 : decode cX3_makeSelect 217 = .ok (.ifCond .eq 8, 3) := by decide +kernel
theorem dX3_makeSelect_220 : decode cX3_makeSelect 220 = .ok (.bipush 39, 2) := by decide +kernel
theorem dX3_makeSelect_222 : decode cX3_makeSelect 222 = .ok (.goto 5, 3) := by decide +kernel
theorem dX3_makeSelect_225 : decode cX3_makeSelect 225 = .ok (.bipush 38, 2) := by decide +kernel
theorem dX3_makeSelect_227 : decode cX3_makeSelect 227 = .ok (.istore_n 3, 1) := by decide +kernel
theorem dX3_makeSelect_228 : decode cX3_makeSelect 228 = .ok (.aload_n 0, 1) := by decide +kernel
theorem dX3_makeSelect_229 : decode cX3_makeSelect 229 = .ok (.getfield 15, 3) := by decide +kernel
theorem dX3_makeSelect_232 : decode cX3_makeSelect 232 = .ok (.iload_n 3, 1) := by decide +kernel
theorem dX3_makeSelect_233 : decode cX3_makeSelect 233 = .ok (.aload_n 0, 1) := by decide +kernel
theorem dX3_makeSelect_234 : decode cX3_makeSelect 234 = .ok (.getfield 9, 3) := by decide +kernel
theorem dX3_makeSelect_237 : decode cX3_makeSelect 237 = .ok (.getfield 106, 3) := by decide +kernel
theorem dX3_makeSelect_240 : decode cX3_makeSelect 240 = .ok (.iconst 1, 1) := by decide +kernel
theorem dX3_makeSelect_241 : decode cX3_makeSelect 241 = .ok (.isub, 1) := by decide +kernel
theorem dX3_makeSelect_242 : decode cX3_makeSelect 242 = .ok (.invokevirtual 47, 3) := by decide +kernel
theorem dX3_makeSelect_245 : decode cX3_makeSelect 245 = .ok (.aload_n 0, 1) := by decide +kernel
theorem dX3_makeSelect_246 : decode cX3_makeSelect 246 = .ok (.getfield 15, 3) := by decide +kernel
theorem dX3_makeSelect_249 : decode cX3_makeSelect 249 = .ok (.bipush 40, 2) := by decide +kernel
theorem dX3_makeSelect_251 : decode cX3_makeSelect 251 = .ok (.aload_n 0, 1) := by decide +kernel
theorem dX3_makeSelect_252 : decode cX3_makeSelect 252 = .ok (.getfield 9, 3) := by decide +kernel
theorem dX3_makeSelect_255 : decode cX3_makeSelect 255 = .ok (.getfield 51, 3) := by decide +kernel
theorem dX3_makeSelect_258 : decode cX3_makeSelect 258 = .ok (.invokevirtual 47, 3) := by decide +kernel
theorem dX3_makeSelect_261 : decode cX3_makeSelect 261 = .ok (.return_, 1) := by decide +kernel
theorem b_X3_makeSelect_0 {h : Nat} {L : LVs} {st : List AV} {S : ST} {Q : Option AV → ST → Prop} (k : o_al L st S (fun L st S => o_get L st S (fun L st S => V MX3_makeSelect h 4 L st S Q) 3 0 (4, 6, 0)) 0) : V MX3_makeSelect h 0 L st S Q :=
  v_aload_n dX3_makeSelect_0 rfl (fun L st S k => v_get dX3_makeSelect_1 rfl iX3 LY_3 rfl (by decide) rfl fl_X3_9 (fun L st S k => k) k) k
theorem k_X3_makeSelect_4 {h : Nat} {L : LVs} {st : List AV} {S : ST} {Q Q' : Option AV → ST → Prop} {j : Nat} (hC : Ct MX6_aggregateCount h [vR 6 j] S Q') (k : ∀ (r : Option AV) (S' : ST), Q' r S' → V MX3_makeSelect (h + 1) 7 L (r.toList ++ st) S' Q) (hj : j < NI 6) (hw : wid st ≤ 8) : V MX3_makeSelect (h + 1) 4 L (vR 6 j :: st) S Q :=
  v_callV (M' := MX6_aggregateCount) (c := 6) (As := []) dX3_makeSelect_4 ml_X3_87 im_X6_aggregateCount se_X6_aggregateCount in_X6 cd_X6_aggregateCount rfl LY_6 np_X6_aggregateCount (by decide) hw hj hC k
theorem b_X3_makeSelect_7 {h : Nat} {L : LVs} {st : List AV} {S : ST} {Q : Option AV → ST → Prop} (k : t_1 L st S (fun x => nI 0 < x) (fun L st S => V MX3_makeSelect h 20 L st S Q) (fun L st S => V MX3_makeSelect h 10 L st S Q)) : V MX3_makeSelect h 7 L st S Q :=
  w_if_gt dX3_makeSelect_7 (by decide) rfl k
theorem b_X3_makeSelect_10 {h : Nat} {L : LVs} {st : List AV} {S : ST} {Q : Option AV → ST → Prop} (k : o_al L st S (fun L st S => o_get L st S (fun L st S => V MX3_makeSelect h 14 L st S Q) 3 0 (4, 6, 0)) 0) : V MX3_makeSelect h 10 L st S Q :=
  v_aload_n dX3_makeSelect_10 rfl (fun L st S k => v_get dX3_makeSelect_11 rfl iX3 LY_3 rfl (by decide) rfl fl_X3_9 (fun L st S k => k) k) k
theorem k_X3_makeSelect_14 {h : Nat} {L : LVs} {st : List AV} {S : ST} {Q Q' : Option AV → ST → Prop} {j : Nat} (hC : Ct MX6_isGrouped h [vR 6 j] S Q') (k : ∀ (r : Option AV) (S' : ST), Q' r S' → V MX3_makeSelect (h + 1) 17 L (r.toList ++ st) S' Q) (hj : j < NI 6) (hw : wid st ≤ 8) : V MX3_makeSelect (h + 1) 14 L (vR 6 j :: st) S Q :=
  v_callV (M' := MX6_isGrouped) (c := 6) (As := []) dX3_makeSelect_14 ml_X3_90 im_X6_isGrouped se_X6_isGrouped in_X6 cd_X6_isGrouped rfl LY_6 np_X6_isGrouped (by decide) hw hj hC k
theorem b_X3_makeSelect_17 {h : Nat} {L : LVs} {st : List AV} {S : ST} {Q : Option AV → ST → Prop} (k : t_1 L st S (fun x => x = nI 0) (fun L st S => V MX3_makeSelect h 24 L st S Q) (fun L st S => V MX3_makeSelect h 20 L st S Q)) : V MX3_makeSelect h 17 L st S Q :=
  w_if_eq dX3_makeSelect_17 (by decide) rfl k
theorem b_X3_makeSelect_20 {h : Nat} {L : LVs} {st : List AV} {S : ST} {Q : Option AV → ST → Prop} (k : o_c L st S (fun L st S => V MX3_makeSelect h 25 L st S Q) (nI 1)) : V MX3_makeSelect h 20 L st S Q :=
  v_iconst dX3_makeSelect_20 (by decide) (fun L st S k => v_goto dX3_makeSelect_21 (by decide) k) k
theorem b_X3_makeSelect_24 {h : Nat} {L : LVs} {st : List AV} {S : ST} {Q : Option AV → ST → Prop} (k : o_c L st S (fun L st S => V MX3_makeSelect h 25 L st S Q) (nI 0)) : V MX3_makeSelect h 24 L st S Q :=
  v_iconst dX3_makeSelect_24 (by decide) (fun L st S k => k) k
theorem b_X3_makeSelect_25 {h : Nat} {L : LVs} {st : List AV} {S : ST} {Q : Option AV → ST → Prop} (k : o_is L st S (fun L st S => o_il L st S (fun L st S => t_1 L st S (fun x => x = nI 0) (fun L st S => V MX3_makeSelect h 50 L st S Q) (fun L st S => V MX3_makeSelect h 30 L st S Q)) 1) 1) : V MX3_makeSelect h 25 L st S Q :=
  v_istore_n dX3_makeSelect_25 rfl (by decide) (fun L st S k => v_iload_n dX3_makeSelect_26 rfl (fun L st S k => w_if_eq dX3_makeSelect_27 (by decide) rfl k) k) k
theorem b_X3_makeSelect_30 {h : Nat} {L : LVs} {st : List AV} {S : ST} {Q : Option AV → ST → Prop} (k : o_al L st S (fun L st S => o_get L st S (fun L st S => V MX3_makeSelect h 34 L st S Q) 3 0 (4, 6, 0)) 0) : V MX3_makeSelect h 30 L st S Q :=
  v_aload_n dX3_makeSelect_30 rfl (fun L st S k => v_get dX3_makeSelect_31 rfl iX3 LY_3 rfl (by decide) rfl fl_X3_9 (fun L st S k => k) k) k
theorem k_X3_makeSelect_34 {h : Nat} {L : LVs} {st : List AV} {S : ST} {Q Q' : Option AV → ST → Prop} {j : Nat} (hC : Ct MX6_isGrouped h [vR 6 j] S Q') (k : ∀ (r : Option AV) (S' : ST), Q' r S' → V MX3_makeSelect (h + 1) 37 L (r.toList ++ st) S' Q) (hj : j < NI 6) (hw : wid st ≤ 8) : V MX3_makeSelect (h + 1) 34 L (vR 6 j :: st) S Q :=
  v_callV (M' := MX6_isGrouped) (c := 6) (As := []) dX3_makeSelect_34 ml_X3_90 im_X6_isGrouped se_X6_isGrouped in_X6 cd_X6_isGrouped rfl LY_6 np_X6_isGrouped (by decide) hw hj hC k
theorem b_X3_makeSelect_37 {h : Nat} {L : LVs} {st : List AV} {S : ST} {Q : Option AV → ST → Prop} (k : t_1 L st S (fun x => x = nI 0) (fun L st S => V MX3_makeSelect h 40 L st S Q) (fun L st S => V MX3_makeSelect h 50 L st S Q)) : V MX3_makeSelect h 37 L st S Q :=
  w_if_ne dX3_makeSelect_37 (by decide) rfl k
theorem b_X3_makeSelect_40 {h : Nat} {L : LVs} {st : List AV} {S : ST} {Q : Option AV → ST → Prop} (k : o_al L st S (fun L st S => o_get L st S (fun L st S => o_c L st S (fun L st S => o_c L st S (fun L st S => V MX3_makeSelect h 47 L st S Q) (nI 0)) (nI 30)) 3 1 (4, 1, 1)) 0) : V MX3_makeSelect h 40 L st S Q :=
  v_aload_n dX3_makeSelect_40 rfl (fun L st S k => v_get dX3_makeSelect_41 rfl iX3 LY_3 rfl (by decide) rfl fl_X3_15 (fun L st S k => v_bipush dX3_makeSelect_44 (by decide) (fun L st S k => v_iconst dX3_makeSelect_46 (by decide) (fun L st S k => k) k) k) k) k
theorem k_X3_makeSelect_47 {h : Nat} {L : LVs} {st : List AV} {S : ST} {Q Q' : Option AV → ST → Prop} {j : Nat} {a0 a1 : AV} (hC : Ct MX1_add h [vR 1 j, a0, a1] S Q') (k : ∀ (r : Option AV) (S' : ST), Q' r S' → V MX3_makeSelect (h + 1) 50 L (r.toList ++ st) S' Q) (hj : j < NI 1) (hw : wid st ≤ 8) : V MX3_makeSelect (h + 1) 47 L (a1 :: a0 :: vR 1 j :: st) S Q :=
  v_callV (M' := MX1_add) (c := 1) (As := [a0, a1]) dX3_makeSelect_47 ml_X3_47 im_X1_add se_X1_add in_X1 cd_X1_add rfl LY_1 np_X1_add (by decide) hw hj hC k
theorem b_X3_makeSelect_50 {h : Nat} {L : LVs} {st : List AV} {S : ST} {Q : Option AV → ST → Prop} (k : o_al L st S (fun L st S => V MX3_makeSelect h 51 L st S Q) 0) : V MX3_makeSelect h 50 L st S Q :=
  v_aload_n dX3_makeSelect_50 rfl (fun L st S k => k) k
theorem k_X3_makeSelect_51 {h : Nat} {L : LVs} {st : List AV} {S : ST} {Q Q' : Option AV → ST → Prop} {j : Nat} (hC : Ct MX3_startRows h [vR 3 j] S Q') (k : ∀ (r : Option AV) (S' : ST), Q' r S' → V MX3_makeSelect (h + 1) 54 L (r.toList ++ st) S' Q) (hj : j < NI 3) (hw : wid st ≤ 8) : V MX3_makeSelect (h + 1) 51 L (vR 3 j :: st) S Q :=
  v_callV (M' := MX3_startRows) (c := 3) (As := []) dX3_makeSelect_51 ml_X3_70 im_X3_startRows se_X3_startRows in_X3 cd_X3_startRows rfl LY_3 np_X3_startRows (by decide) hw hj hC k
theorem b_X3_makeSelect_54 {h : Nat} {L : LVs} {st : List AV} {S : ST} {Q : Option AV → ST → Prop} (k : o_is L st S (fun L st S => o_c L st S (fun L st S => o_is L st S (fun L st S => V MX3_makeSelect h 57 L st S Q) 3) (nI 0)) 2) : V MX3_makeSelect h 54 L st S Q :=
  v_istore_n dX3_makeSelect_54 rfl (by decide) (fun L st S k => v_iconst dX3_makeSelect_55 (by decide) (fun L st S k => v_istore_n dX3_makeSelect_56 rfl (by decide) (fun L st S k => k) k) k) k
theorem b_X3_makeSelect_57 {h : Nat} {L : LVs} {st : List AV} {S : ST} {Q : Option AV → ST → Prop} (k : o_il L st S (fun L st S => o_al L st S (fun L st S => o_get L st S (fun L st S => o_get L st S (fun L st S => t_2 L st S (fun x y => y ≤ x) (fun L st S => V MX3_makeSelect h 108 L st S Q) (fun L st S => V MX3_makeSelect h 68 L st S Q)) 6 10 (0, 0, 0)) 3 0 (4, 6, 0)) 0) 3) : V MX3_makeSelect h 57 L st S Q :=
  v_iload_n dX3_makeSelect_57 rfl (fun L st S k => v_aload_n dX3_makeSelect_58 rfl (fun L st S k => v_get dX3_makeSelect_59 rfl iX3 LY_3 rfl (by decide) rfl fl_X3_9 (fun L st S k => v_get dX3_makeSelect_62 rfl iX6 LY_6 rfl (by decide) rfl fl_X3_51 (fun L st S k => w_icmp_ge dX3_makeSelect_65 (by decide) rfl k) k) k) k) k
theorem b_X3_makeSelect_68 {h : Nat} {L : LVs} {st : List AV} {S : ST} {Q : Option AV → ST → Prop} (k : o_al L st S (fun L st S => o_al L st S (fun L st S => o_get L st S (fun L st S => o_il L st S (fun L st S => V MX3_makeSelect h 74 L st S Q) 3) 3 0 (4, 6, 0)) 0) 0) : V MX3_makeSelect h 68 L st S Q :=
  v_aload_n dX3_makeSelect_68 rfl (fun L st S k => v_aload_n dX3_makeSelect_69 rfl (fun L st S k => v_get dX3_makeSelect_70 rfl iX3 LY_3 rfl (by decide) rfl fl_X3_9 (fun L st S k => v_iload_n dX3_makeSelect_73 rfl (fun L st S k => k) k) k) k) k
theorem k_X3_makeSelect_74 {h : Nat} {L : LVs} {st : List AV} {S : ST} {Q Q' : Option AV → ST → Prop} {j : Nat} {a0 : AV} (hC : Ct MX6_itemStart h [vR 6 j, a0] S Q') (k : ∀ (r : Option AV) (S' : ST), Q' r S' → V MX3_makeSelect (h + 1) 77 L (r.toList ++ st) S' Q) (hj : j < NI 6) (hw : wid st ≤ 8) : V MX3_makeSelect (h + 1) 74 L (a0 :: vR 6 j :: st) S Q :=
  v_callV (M' := MX6_itemStart) (c := 6) (As := [a0]) dX3_makeSelect_74 ml_X3_94 im_X6_itemStart se_X6_itemStart in_X6 cd_X6_itemStart rfl LY_6 np_X6_itemStart (by decide) hw hj hC k
theorem b_X3_makeSelect_77 {h : Nat} {L : LVs} {st : List AV} {S : ST} {Q : Option AV → ST → Prop} (k : o_al L st S (fun L st S => o_get L st S (fun L st S => o_get L st S (fun L st S => o_il L st S (fun L st S => o_iald L st S (fun L st S => V MX3_makeSelect h 86 L st S Q)) 3) 6 7 (3, 28, 0)) 3 0 (4, 6, 0)) 0) : V MX3_makeSelect h 77 L st S Q :=
  v_aload_n dX3_makeSelect_77 rfl (fun L st S k => v_get dX3_makeSelect_78 rfl iX3 LY_3 rfl (by decide) rfl fl_X3_9 (fun L st S k => v_get dX3_makeSelect_81 rfl iX6 LY_6 rfl (by decide) rfl fl_X3_78 (fun L st S k => v_iload_n dX3_makeSelect_84 rfl (fun L st S k => v_iaload dX3_makeSelect_85 (fun L st S k => k) k) k) k) k) k
theorem k_X3_makeSelect_86 {h : Nat} {L : LVs} {st : List AV} {S : ST} {Q Q' : Option AV → ST → Prop} {j : Nat} {a0 a1 : AV} (hC : Ct MX3_copyDraft h [vR 3 j, a0, a1] S Q') (k : ∀ (r : Option AV) (S' : ST), Q' r S' → V MX3_makeSelect (h + 1) 89 L (r.toList ++ st) S' Q) (hj : j < NI 3) (hw : wid st ≤ 8) : V MX3_makeSelect (h + 1) 86 L (a1 :: a0 :: vR 3 j :: st) S Q :=
  v_callV (M' := MX3_copyDraft) (c := 3) (As := [a0, a1]) dX3_makeSelect_86 ml_X3_81 im_X3_copyDraft se_X3_copyDraft in_X3 cd_X3_copyDraft rfl LY_3 np_X3_copyDraft (by decide) hw hj hC k
theorem b_X3_makeSelect_89 {h : Nat} {L : LVs} {st : List AV} {S : ST} {Q : Option AV → ST → Prop} (k : o_al L st S (fun L st S => o_get L st S (fun L st S => o_al L st S (fun L st S => o_il L st S (fun L st S => V MX3_makeSelect h 95 L st S Q) 3) 0) 3 1 (4, 1, 1)) 0) : V MX3_makeSelect h 89 L st S Q :=
  v_aload_n dX3_makeSelect_89 rfl (fun L st S k => v_get dX3_makeSelect_90 rfl iX3 LY_3 rfl (by decide) rfl fl_X3_15 (fun L st S k => v_aload_n dX3_makeSelect_93 rfl (fun L st S k => v_iload_n dX3_makeSelect_94 rfl (fun L st S k => k) k) k) k) k
theorem k_X3_makeSelect_95 {h : Nat} {L : LVs} {st : List AV} {S : ST} {Q Q' : Option AV → ST → Prop} {j : Nat} {a0 : AV} (hC : Ct MX3_collectorOf h [vR 3 j, a0] S Q') (k : ∀ (r : Option AV) (S' : ST), Q' r S' → V MX3_makeSelect (h + 1) 98 L (r.toList ++ st) S' Q) (hj : j < NI 3) (hw : wid st ≤ 8) : V MX3_makeSelect (h + 1) 95 L (a0 :: vR 3 j :: st) S Q :=
  v_callV (M' := MX3_collectorOf) (c := 3) (As := [a0]) dX3_makeSelect_95 ml_X3_98 im_X3_collectorOf se_X3_collectorOf in_X3 cd_X3_collectorOf rfl LY_3 np_X3_collectorOf (by decide) hw hj hC k
theorem b_X3_makeSelect_98 {h : Nat} {L : LVs} {st : List AV} {S : ST} {Q : Option AV → ST → Prop} (k : o_il L st S (fun L st S => V MX3_makeSelect h 99 L st S Q) 3) : V MX3_makeSelect h 98 L st S Q :=
  v_iload_n dX3_makeSelect_98 rfl (fun L st S k => k) k
theorem k_X3_makeSelect_99 {h : Nat} {L : LVs} {st : List AV} {S : ST} {Q Q' : Option AV → ST → Prop} {j : Nat} {a0 a1 : AV} (hC : Ct MX1_add h [vR 1 j, a0, a1] S Q') (k : ∀ (r : Option AV) (S' : ST), Q' r S' → V MX3_makeSelect (h + 1) 102 L (r.toList ++ st) S' Q) (hj : j < NI 1) (hw : wid st ≤ 8) : V MX3_makeSelect (h + 1) 99 L (a1 :: a0 :: vR 1 j :: st) S Q :=
  v_callV (M' := MX1_add) (c := 1) (As := [a0, a1]) dX3_makeSelect_99 ml_X3_47 im_X1_add se_X1_add in_X1 cd_X1_add rfl LY_1 np_X1_add (by decide) hw hj hC k
theorem b_X3_makeSelect_102 {h : Nat} {L : LVs} {st : List AV} {S : ST} {Q : Option AV → ST → Prop} (k : o_inc L st S (fun L st S => V MX3_makeSelect h 57 L st S Q) 3 (nI 1)) : V MX3_makeSelect h 102 L st S Q :=
  v_iinc dX3_makeSelect_102 (by decide) (by decide) (fun L st S k => v_goto dX3_makeSelect_105 (by decide) k) k
theorem b_X3_makeSelect_108 {h : Nat} {L : LVs} {st : List AV} {S : ST} {Q : Option AV → ST → Prop} (k : o_il L st S (fun L st S => t_1 L st S (fun x => x = nI 0) (fun L st S => V MX3_makeSelect h 112 L st S Q) (fun L st S => V MX3_makeSelect h 122 L st S Q)) 1) : V MX3_makeSelect h 108 L st S Q :=
  v_iload_n dX3_makeSelect_108 rfl (fun L st S k => w_if_ne dX3_makeSelect_109 (by decide) rfl k) k
theorem b_X3_makeSelect_112 {h : Nat} {L : LVs} {st : List AV} {S : ST} {Q : Option AV → ST → Prop} (k : o_al L st S (fun L st S => o_get L st S (fun L st S => o_c L st S (fun L st S => o_c L st S (fun L st S => V MX3_makeSelect h 119 L st S Q) (nI 0)) (nI 29)) 3 1 (4, 1, 1)) 0) : V MX3_makeSelect h 112 L st S Q :=
  v_aload_n dX3_makeSelect_112 rfl (fun L st S k => v_get dX3_makeSelect_113 rfl iX3 LY_3 rfl (by decide) rfl fl_X3_15 (fun L st S k => v_bipush dX3_makeSelect_116 (by decide) (fun L st S k => v_iconst dX3_makeSelect_118 (by decide) (fun L st S k => k) k) k) k) k
theorem k_X3_makeSelect_119 {h : Nat} {L : LVs} {st : List AV} {S : ST} {Q Q' : Option AV → ST → Prop} {j : Nat} {a0 a1 : AV} (hC : Ct MX1_add h [vR 1 j, a0, a1] S Q') (k : ∀ (r : Option AV) (S' : ST), Q' r S' → V MX3_makeSelect (h + 1) 122 L (r.toList ++ st) S' Q) (hj : j < NI 1) (hw : wid st ≤ 8) : V MX3_makeSelect (h + 1) 119 L (a1 :: a0 :: vR 1 j :: st) S Q :=
  v_callV (M' := MX1_add) (c := 1) (As := [a0, a1]) dX3_makeSelect_119 ml_X3_47 im_X1_add se_X1_add in_X1 cd_X1_add rfl LY_1 np_X1_add (by decide) hw hj hC k
theorem b_X3_makeSelect_122 {h : Nat} {L : LVs} {st : List AV} {S : ST} {Q : Option AV → ST → Prop} (k : o_al L st S (fun L st S => o_il L st S (fun L st S => V MX3_makeSelect h 124 L st S Q) 2) 0) : V MX3_makeSelect h 122 L st S Q :=
  v_aload_n dX3_makeSelect_122 rfl (fun L st S k => v_iload_n dX3_makeSelect_123 rfl (fun L st S k => k) k) k
theorem k_X3_makeSelect_124 {h : Nat} {L : LVs} {st : List AV} {S : ST} {Q Q' : Option AV → ST → Prop} {j : Nat} {a0 : AV} (hC : Ct MX3_endRows h [vR 3 j, a0] S Q') (k : ∀ (r : Option AV) (S' : ST), Q' r S' → V MX3_makeSelect (h + 1) 127 L (r.toList ++ st) S' Q) (hj : j < NI 3) (hw : wid st ≤ 8) : V MX3_makeSelect (h + 1) 124 L (a0 :: vR 3 j :: st) S Q :=
  v_callV (M' := MX3_endRows) (c := 3) (As := [a0]) dX3_makeSelect_124 ml_X3_74 im_X3_endRows se_X3_endRows in_X3 cd_X3_endRows rfl LY_3 np_X3_endRows (by decide) hw hj hC k
theorem b_X3_makeSelect_127 {h : Nat} {L : LVs} {st : List AV} {S : ST} {Q : Option AV → ST → Prop} (k : o_c L st S (fun L st S => o_is L st S (fun L st S => V MX3_makeSelect h 129 L st S Q) 3) (nI 0)) : V MX3_makeSelect h 127 L st S Q :=
  v_iconst dX3_makeSelect_127 (by decide) (fun L st S k => v_istore_n dX3_makeSelect_128 rfl (by decide) (fun L st S k => k) k) k
theorem b_X3_makeSelect_129 {h : Nat} {L : LVs} {st : List AV} {S : ST} {Q : Option AV → ST → Prop} (k : o_il L st S (fun L st S => o_al L st S (fun L st S => o_get L st S (fun L st S => o_get L st S (fun L st S => t_2 L st S (fun x y => y ≤ x) (fun L st S => V MX3_makeSelect h 199 L st S Q) (fun L st S => V MX3_makeSelect h 140 L st S Q)) 6 10 (0, 0, 0)) 3 0 (4, 6, 0)) 0) 3) : V MX3_makeSelect h 129 L st S Q :=
  v_iload_n dX3_makeSelect_129 rfl (fun L st S k => v_aload_n dX3_makeSelect_130 rfl (fun L st S k => v_get dX3_makeSelect_131 rfl iX3 LY_3 rfl (by decide) rfl fl_X3_9 (fun L st S k => v_get dX3_makeSelect_134 rfl iX6 LY_6 rfl (by decide) rfl fl_X3_51 (fun L st S k => w_icmp_ge dX3_makeSelect_137 (by decide) rfl k) k) k) k) k
theorem b_X3_makeSelect_140 {h : Nat} {L : LVs} {st : List AV} {S : ST} {Q : Option AV → ST → Prop} (k : o_al L st S (fun L st S => o_get L st S (fun L st S => o_get L st S (fun L st S => o_il L st S (fun L st S => o_iald L st S (fun L st S => o_c L st S (fun L st S => t_2 L st S (fun x y => x = y) (fun L st S => V MX3_makeSelect h 155 L st S Q) (fun L st S => V MX3_makeSelect h 168 L st S Q)) (nI 219))) 3) 6 6 (3, 27, 0)) 3 0 (4, 6, 0)) 0) : V MX3_makeSelect h 140 L st S Q :=
  v_aload_n dX3_makeSelect_140 rfl (fun L st S k => v_get dX3_makeSelect_141 rfl iX3 LY_3 rfl (by decide) rfl fl_X3_9 (fun L st S k => v_get dX3_makeSelect_144 rfl iX6 LY_6 rfl (by decide) rfl fl_X3_101 (fun L st S k => v_iload_n dX3_makeSelect_147 rfl (fun L st S k => v_iaload dX3_makeSelect_148 (fun L st S k => v_sipush dX3_makeSelect_149 (by decide) (fun L st S k => w_icmp_ne dX3_makeSelect_152 (by decide) rfl k) k) k) k) k) k) k
theorem b_X3_makeSelect_155 {h : Nat} {L : LVs} {st : List AV} {S : ST} {Q : Option AV → ST → Prop} (k : o_al L st S (fun L st S => o_get L st S (fun L st S => o_c L st S (fun L st S => o_il L st S (fun L st S => V MX3_makeSelect h 162 L st S Q) 3) (nI 36)) 3 1 (4, 1, 1)) 0) : V MX3_makeSelect h 155 L st S Q :=
  v_aload_n dX3_makeSelect_155 rfl (fun L st S k => v_get dX3_makeSelect_156 rfl iX3 LY_3 rfl (by decide) rfl fl_X3_15 (fun L st S k => v_bipush dX3_makeSelect_159 (by decide) (fun L st S k => v_iload_n dX3_makeSelect_161 rfl (fun L st S k => k) k) k) k) k
theorem k_X3_makeSelect_162 {h : Nat} {L : LVs} {st : List AV} {S : ST} {Q Q' : Option AV → ST → Prop} {j : Nat} {a0 a1 : AV} (hC : Ct MX1_add h [vR 1 j, a0, a1] S Q') (k : ∀ (r : Option AV) (S' : ST), Q' r S' → V MX3_makeSelect (h + 1) 165 L (r.toList ++ st) S' Q) (hj : j < NI 1) (hw : wid st ≤ 8) : V MX3_makeSelect (h + 1) 162 L (a1 :: a0 :: vR 1 j :: st) S Q :=
  v_callV (M' := MX1_add) (c := 1) (As := [a0, a1]) dX3_makeSelect_162 ml_X3_47 im_X1_add se_X1_add in_X1 cd_X1_add rfl LY_1 np_X1_add (by decide) hw hj hC k
theorem b_X3_makeSelect_165 {h : Nat} {L : LVs} {st : List AV} {S : ST} {Q : Option AV → ST → Prop} (k : V MX3_makeSelect h 193 L st S Q) : V MX3_makeSelect h 165 L st S Q :=
  v_goto dX3_makeSelect_165 (by decide) k
theorem b_X3_makeSelect_168 {h : Nat} {L : LVs} {st : List AV} {S : ST} {Q : Option AV → ST → Prop} (k : o_al L st S (fun L st S => o_get L st S (fun L st S => o_get L st S (fun L st S => o_il L st S (fun L st S => o_iald L st S (fun L st S => o_c L st S (fun L st S => t_2 L st S (fun x y => x = y) (fun L st S => V MX3_makeSelect h 183 L st S Q) (fun L st S => V MX3_makeSelect h 193 L st S Q)) (nI 218))) 3) 6 6 (3, 27, 0)) 3 0 (4, 6, 0)) 0) : V MX3_makeSelect h 168 L st S Q :=
  v_aload_n dX3_makeSelect_168 rfl (fun L st S k => v_get dX3_makeSelect_169 rfl iX3 LY_3 rfl (by decide) rfl fl_X3_9 (fun L st S k => v_get dX3_makeSelect_172 rfl iX6 LY_6 rfl (by decide) rfl fl_X3_101 (fun L st S k => v_iload_n dX3_makeSelect_175 rfl (fun L st S k => v_iaload dX3_makeSelect_176 (fun L st S k => v_sipush dX3_makeSelect_177 (by decide) (fun L st S k => w_icmp_ne dX3_makeSelect_180 (by decide) rfl k) k) k) k) k) k) k
theorem b_X3_makeSelect_183 {h : Nat} {L : LVs} {st : List AV} {S : ST} {Q : Option AV → ST → Prop} (k : o_al L st S (fun L st S => o_get L st S (fun L st S => o_c L st S (fun L st S => o_il L st S (fun L st S => V MX3_makeSelect h 190 L st S Q) 3) (nI 37)) 3 1 (4, 1, 1)) 0) : V MX3_makeSelect h 183 L st S Q :=
  v_aload_n dX3_makeSelect_183 rfl (fun L st S k => v_get dX3_makeSelect_184 rfl iX3 LY_3 rfl (by decide) rfl fl_X3_15 (fun L st S k => v_bipush dX3_makeSelect_187 (by decide) (fun L st S k => v_iload_n dX3_makeSelect_189 rfl (fun L st S k => k) k) k) k) k
theorem k_X3_makeSelect_190 {h : Nat} {L : LVs} {st : List AV} {S : ST} {Q Q' : Option AV → ST → Prop} {j : Nat} {a0 a1 : AV} (hC : Ct MX1_add h [vR 1 j, a0, a1] S Q') (k : ∀ (r : Option AV) (S' : ST), Q' r S' → V MX3_makeSelect (h + 1) 193 L (r.toList ++ st) S' Q) (hj : j < NI 1) (hw : wid st ≤ 8) : V MX3_makeSelect (h + 1) 190 L (a1 :: a0 :: vR 1 j :: st) S Q :=
  v_callV (M' := MX1_add) (c := 1) (As := [a0, a1]) dX3_makeSelect_190 ml_X3_47 im_X1_add se_X1_add in_X1 cd_X1_add rfl LY_1 np_X1_add (by decide) hw hj hC k
theorem b_X3_makeSelect_193 {h : Nat} {L : LVs} {st : List AV} {S : ST} {Q : Option AV → ST → Prop} (k : o_inc L st S (fun L st S => V MX3_makeSelect h 129 L st S Q) 3 (nI 1)) : V MX3_makeSelect h 193 L st S Q :=
  v_iinc dX3_makeSelect_193 (by decide) (by decide) (fun L st S k => v_goto dX3_makeSelect_196 (by decide) k) k
theorem b_X3_makeSelect_199 {h : Nat} {L : LVs} {st : List AV} {S : ST} {Q : Option AV → ST → Prop} (k : o_al L st S (fun L st S => o_get L st S (fun L st S => o_get L st S (fun L st S => o_c L st S (fun L st S => t_2 L st S (fun x y => x = y) (fun L st S => V MX3_makeSelect h 245 L st S Q) (fun L st S => V MX3_makeSelect h 210 L st S Q)) (-1)) 6 15 (0, 0, 0)) 3 0 (4, 6, 0)) 0) : V MX3_makeSelect h 199 L st S Q :=
  v_aload_n dX3_makeSelect_199 rfl (fun L st S k => v_get dX3_makeSelect_200 rfl iX3 LY_3 rfl (by decide) rfl fl_X3_9 (fun L st S k => v_get dX3_makeSelect_203 rfl iX6 LY_6 rfl (by decide) rfl fl_X3_106 (fun L st S k => v_iconst dX3_makeSelect_206 (by decide) (fun L st S k => w_icmp_eq dX3_makeSelect_207 (by decide) rfl k) k) k) k) k
theorem b_X3_makeSelect_210 {h : Nat} {L : LVs} {st : List AV} {S : ST} {Q : Option AV → ST → Prop} (k : o_al L st S (fun L st S => o_get L st S (fun L st S => o_get L st S (fun L st S => t_1 L st S (fun x => x = nI 0) (fun L st S => V MX3_makeSelect h 225 L st S Q) (fun L st S => V MX3_makeSelect h 220 L st S Q)) 6 16 (2, 0, 0)) 3 0 (4, 6, 0)) 0) : V MX3_makeSelect h 210 L st S Q :=
  v_aload_n dX3_makeSelect_210 rfl (fun L st S k => v_get dX3_makeSelect_211 rfl iX3 LY_3 rfl (by decide) rfl fl_X3_9 (fun L st S k => v_get dX3_makeSelect_214 rfl iX6 LY_6 rfl (by decide) rfl fl_X3_109 (fun L st S k => w_if_eq dX3_makeSelect_217 (by decide) rfl k) k) k) k
theorem b_X3_makeSelect_220 {h : Nat} {L : LVs} {st : List AV} {S : ST} {Q : Option AV → ST → Prop} (k : o_c L st S (fun L st S => V MX3_makeSelect h 227 L st S Q) (nI 39)) : V MX3_makeSelect h 220 L st S Q :=
  v_bipush dX3_makeSelect_220 (by decide) (fun L st S k => v_goto dX3_makeSelect_222 (by decide) k) k
theorem b_X3_makeSelect_225 {h : Nat} {L : LVs} {st : List AV} {S : ST} {Q : Option AV → ST → Prop} (k : o_c L st S (fun L st S => V MX3_makeSelect h 227 L st S Q) (nI 38)) : V MX3_makeSelect h 225 L st S Q :=
  v_bipush dX3_makeSelect_225 (by decide) (fun L st S k => k) k
theorem b_X3_makeSelect_227 {h : Nat} {L : LVs} {st : List AV} {S : ST} {Q : Option AV → ST → Prop} (k : o_is L st S (fun L st S => o_al L st S (fun L st S => o_get L st S (fun L st S => o_il L st S (fun L st S => o_al L st S (fun L st S => o_get L st S (fun L st S => o_get L st S (fun L st S => o_c L st S (fun L st S => o_isub L st S (fun L st S => V MX3_makeSelect h 242 L st S Q)) (nI 1)) 6 15 (0, 0, 0)) 3 0 (4, 6, 0)) 0) 3) 3 1 (4, 1, 1)) 0) 3) : V MX3_makeSelect h 227 L st S Q :=
  v_istore_n dX3_makeSelect_227 rfl (by decide) (fun L st S k => v_aload_n dX3_makeSelect_228 rfl (fun L st S k => v_get dX3_makeSelect_229 rfl iX3 LY_3 rfl (by decide) rfl fl_X3_15 (fun L st S k => v_iload_n dX3_makeSelect_232 rfl (fun L st S k => v_aload_n dX3_makeSelect_233 rfl (fun L st S k => v_get dX3_makeSelect_234 rfl iX3 LY_3 rfl (by decide) rfl fl_X3_9 (fun L st S k => v_get dX3_makeSelect_237 rfl iX6 LY_6 rfl (by decide) rfl fl_X3_106 (fun L st S k => v_iconst dX3_makeSelect_240 (by decide) (fun L st S k => v_isub dX3_makeSelect_241 (fun L st S k => k) k) k) k) k) k) k) k) k) k
theorem k_X3_makeSelect_242 {h : Nat} {L : LVs} {st : List AV} {S : ST} {Q Q' : Option AV → ST → Prop} {j : Nat} {a0 a1 : AV} (hC : Ct MX1_add h [vR 1 j, a0, a1] S Q') (k : ∀ (r : Option AV) (S' : ST), Q' r S' → V MX3_makeSelect (h + 1) 245 L (r.toList ++ st) S' Q) (hj : j < NI 1) (hw : wid st ≤ 8) : V MX3_makeSelect (h + 1) 242 L (a1 :: a0 :: vR 1 j :: st) S Q :=
  v_callV (M' := MX1_add) (c := 1) (As := [a0, a1]) dX3_makeSelect_242 ml_X3_47 im_X1_add se_X1_add in_X1 cd_X1_add rfl LY_1 np_X1_add (by decide) hw hj hC k
theorem b_X3_makeSelect_245 {h : Nat} {L : LVs} {st : List AV} {S : ST} {Q : Option AV → ST → Prop} (k : o_al L st S (fun L st S => o_get L st S (fun L st S => o_c L st S (fun L st S => o_al L st S (fun L st S => o_get L st S (fun L st S => o_get L st S (fun L st S => V MX3_makeSelect h 258 L st S Q) 6 10 (0, 0, 0)) 3 0 (4, 6, 0)) 0) (nI 40)) 3 1 (4, 1, 1)) 0) : V MX3_makeSelect h 245 L st S Q :=
  v_aload_n dX3_makeSelect_245 rfl (fun L st S k => v_get dX3_makeSelect_246 rfl iX3 LY_3 rfl (by decide) rfl fl_X3_15 (fun L st S k => v_bipush dX3_makeSelect_249 (by decide) (fun L st S k => v_aload_n dX3_makeSelect_251 rfl (fun L st S k => v_get dX3_makeSelect_252 rfl iX3 LY_3 rfl (by decide) rfl fl_X3_9 (fun L st S k => v_get dX3_makeSelect_255 rfl iX6 LY_6 rfl (by decide) rfl fl_X3_51 (fun L st S k => k) k) k) k) k) k) k
theorem k_X3_makeSelect_258 {h : Nat} {L : LVs} {st : List AV} {S : ST} {Q Q' : Option AV → ST → Prop} {j : Nat} {a0 a1 : AV} (hC : Ct MX1_add h [vR 1 j, a0, a1] S Q') (k : ∀ (r : Option AV) (S' : ST), Q' r S' → V MX3_makeSelect (h + 1) 261 L (r.toList ++ st) S' Q) (hj : j < NI 1) (hw : wid st ≤ 8) : V MX3_makeSelect (h + 1) 258 L (a1 :: a0 :: vR 1 j :: st) S Q :=
  v_callV (M' := MX1_add) (c := 1) (As := [a0, a1]) dX3_makeSelect_258 ml_X3_47 im_X1_add se_X1_add in_X1 cd_X1_add rfl LY_1 np_X1_add (by decide) hw hj hC k
theorem b_X3_makeSelect_261 {h : Nat} {L : LVs} {st : List AV} {S : ST} {Q : Option AV → ST → Prop} (k : t_vr st S Q) : V MX3_makeSelect h 261 L st S Q :=
  w_vr dX3_makeSelect_261 rfl k
-- QueryForge$Maker.collectorOf(I)I
theorem dX3_collectorOf_0 : decode cX3_collectorOf 0 = .ok (.aload_n 0, 1) := by decide +kernel
theorem dX3_collectorOf_1 : decode cX3_collectorOf 1 = .ok (.getfield 9, 3) := by decide +kernel
theorem dX3_collectorOf_4 : decode cX3_collectorOf 4 = .ok (.getfield 101, 3) := by decide +kernel
theorem dX3_collectorOf_7 : decode cX3_collectorOf 7 = .ok (.iload_n 1, 1) := by decide +kernel
theorem dX3_collectorOf_8 : decode cX3_collectorOf 8 = .ok (.iaload, 1) := by decide +kernel
theorem dX3_collectorOf_9 : decode cX3_collectorOf 9 = .ok (.tableswitch 43 218 221 #[34, 31, 37, 40], 31) := by decide +kernel
theorem dX3_collectorOf_40 : decode cX3_collectorOf 40 = .ok (.bipush 32, 2) := by decide +kernel
theorem dX3_collectorOf_42 : decode cX3_collectorOf 42 = .ok (.ireturn, 1) := by decide +kernel
theorem dX3_collectorOf_43 : decode cX3_collectorOf 43 = .ok (.bipush 33, 2) := by decide +kernel
theorem dX3_collectorOf_45 : decode cX3_collectorOf 45 = .ok (.ireturn, 1) := by decide +kernel
theorem dX3_collectorOf_46 : decode cX3_collectorOf 46 = .ok (.bipush 34, 2) := by decide +kernel
theorem dX3_collectorOf_48 : decode cX3_collectorOf 48 = .ok (.ireturn, 1) := by decide +kernel
theorem dX3_collectorOf_49 : decode cX3_collectorOf 49 = .ok (.bipush 35, 2) := by decide +kernel
theorem dX3_collectorOf_51 : decode cX3_collectorOf 51 = .ok (.ireturn, 1) := by decide +kernel
theorem dX3_collectorOf_52 : decode cX3_collectorOf 52 = .ok (.aload_n 0, 1) := by decide +kernel
theorem dX3_collectorOf_53 : decode cX3_collectorOf 53 = .ok (.getfield 9, 3) := by decide +kernel
theorem dX3_collectorOf_56 : decode cX3_collectorOf 56 = .ok (.invokevirtual 90, 3) := by decide +kernel
theorem dX3_collectorOf_59 : decode cX3_collectorOf 59 = .ok (.ifCond .eq 8, 3) := by decide +kernel
theorem dX3_collectorOf_62 : decode cX3_collectorOf 62 = .ok (.bipush 31, 2) := by decide +kernel
theorem dX3_collectorOf_64 : decode cX3_collectorOf 64 = .ok (.goto 5, 3) := by decide +kernel
theorem dX3_collectorOf_67 : decode cX3_collectorOf 67 = .ok (.bipush 28, 2) := by decide +kernel
theorem dX3_collectorOf_69 : decode cX3_collectorOf 69 = .ok (.ireturn, 1) := by decide +kernel
theorem b_X3_collectorOf_0 {h : Nat} {L : LVs} {st : List AV} {S : ST} {Q : Option AV → ST → Prop} (k : o_al L st S (fun L st S => o_get L st S (fun L st S => o_get L st S (fun L st S => o_il L st S (fun L st S => o_iald L st S (fun L st S => t_sw L st S [((nI 218), fun L st S => V MX3_collectorOf h 43 L st S Q), ((nI 219), fun L st S => V MX3_collectorOf h 40 L st S Q), ((nI 220), fun L st S => V MX3_collectorOf h 46 L st S Q), ((nI 221), fun L st S => V MX3_collectorOf h 49 L st S Q)] (fun L st S => V MX3_collectorOf h 52 L st S Q))) 1) 6 6 (3, 27, 0)) 3 0 (4, 6, 0)) 0) : V MX3_collectorOf h 0 L st S Q :=
  v_aload_n dX3_collectorOf_0 rfl (fun L st S k => v_get dX3_collectorOf_1 rfl iX3 LY_3 rfl (by decide) rfl fl_X3_9 (fun L st S k => v_get dX3_collectorOf_4 rfl iX6 LY_6 rfl (by decide) rfl fl_X3_101 (fun L st S k => v_iload_n dX3_collectorOf_7 rfl (fun L st S k => v_iaload dX3_collectorOf_8 (fun L st S k => w_tsw [((nI 218), 43), ((nI 219), 40), ((nI 220), 46), ((nI 221), 49)] dX3_collectorOf_9 (n := 4) (by decide) rfl (by decide) (by decide) (by decide) k) k) k) k) k) k
theorem b_X3_collectorOf_40 {h : Nat} {L : LVs} {st : List AV} {S : ST} {Q : Option AV → ST → Prop} (k : o_c L st S (fun L st S => t_ir st S Q) (nI 32)) : V MX3_collectorOf h 40 L st S Q :=
  v_bipush dX3_collectorOf_40 (by decide) (fun L st S k => w_ir dX3_collectorOf_42 rfl k) k
theorem b_X3_collectorOf_43 {h : Nat} {L : LVs} {st : List AV} {S : ST} {Q : Option AV → ST → Prop} (k : o_c L st S (fun L st S => t_ir st S Q) (nI 33)) : V MX3_collectorOf h 43 L st S Q :=
  v_bipush dX3_collectorOf_43 (by decide) (fun L st S k => w_ir dX3_collectorOf_45 rfl k) k
theorem b_X3_collectorOf_46 {h : Nat} {L : LVs} {st : List AV} {S : ST} {Q : Option AV → ST → Prop} (k : o_c L st S (fun L st S => t_ir st S Q) (nI 34)) : V MX3_collectorOf h 46 L st S Q :=
  v_bipush dX3_collectorOf_46 (by decide) (fun L st S k => w_ir dX3_collectorOf_48 rfl k) k
theorem b_X3_collectorOf_49 {h : Nat} {L : LVs} {st : List AV} {S : ST} {Q : Option AV → ST → Prop} (k : o_c L st S (fun L st S => t_ir st S Q) (nI 35)) : V MX3_collectorOf h 49 L st S Q :=
  v_bipush dX3_collectorOf_49 (by decide) (fun L st S k => w_ir dX3_collectorOf_51 rfl k) k
theorem b_X3_collectorOf_52 {h : Nat} {L : LVs} {st : List AV} {S : ST} {Q : Option AV → ST → Prop} (k : o_al L st S (fun L st S => o_get L st S (fun L st S => V MX3_collectorOf h 56 L st S Q) 3 0 (4, 6, 0)) 0) : V MX3_collectorOf h 52 L st S Q :=
  v_aload_n dX3_collectorOf_52 rfl (fun L st S k => v_get dX3_collectorOf_53 rfl iX3 LY_3 rfl (by decide) rfl fl_X3_9 (fun L st S k => k) k) k
theorem k_X3_collectorOf_56 {h : Nat} {L : LVs} {st : List AV} {S : ST} {Q Q' : Option AV → ST → Prop} {j : Nat} (hC : Ct MX6_isGrouped h [vR 6 j] S Q') (k : ∀ (r : Option AV) (S' : ST), Q' r S' → V MX3_collectorOf (h + 1) 59 L (r.toList ++ st) S' Q) (hj : j < NI 6) (hw : wid st ≤ 8) : V MX3_collectorOf (h + 1) 56 L (vR 6 j :: st) S Q :=
  v_callV (M' := MX6_isGrouped) (c := 6) (As := []) dX3_collectorOf_56 ml_X3_90 im_X6_isGrouped se_X6_isGrouped in_X6 cd_X6_isGrouped rfl LY_6 np_X6_isGrouped (by decide) hw hj hC k
theorem b_X3_collectorOf_59 {h : Nat} {L : LVs} {st : List AV} {S : ST} {Q : Option AV → ST → Prop} (k : t_1 L st S (fun x => x = nI 0) (fun L st S => V MX3_collectorOf h 67 L st S Q) (fun L st S => V MX3_collectorOf h 62 L st S Q)) : V MX3_collectorOf h 59 L st S Q :=
  w_if_eq dX3_collectorOf_59 (by decide) rfl k
theorem b_X3_collectorOf_62 {h : Nat} {L : LVs} {st : List AV} {S : ST} {Q : Option AV → ST → Prop} (k : o_c L st S (fun L st S => V MX3_collectorOf h 69 L st S Q) (nI 31)) : V MX3_collectorOf h 62 L st S Q :=
  v_bipush dX3_collectorOf_62 (by decide) (fun L st S k => v_goto dX3_collectorOf_64 (by decide) k) k
theorem b_X3_collectorOf_67 {h : Nat} {L : LVs} {st : List AV} {S : ST} {Q : Option AV → ST → Prop} (k : o_c L st S (fun L st S => V MX3_collectorOf h 69 L st S Q) (nI 28)) : V MX3_collectorOf h 67 L st S Q :=
  v_bipush dX3_collectorOf_67 (by decide) (fun L st S k => k) k
theorem b_X3_collectorOf_69 {h : Nat} {L : LVs} {st : List AV} {S : ST} {Q : Option AV → ST → Prop} (k : t_ir st S Q) : V MX3_collectorOf h 69 L st S Q :=
  w_ir dX3_collectorOf_69 rfl k
-- QueryForge$Maker.startRows()I
theorem dX3_startRows_0 : decode cX3_startRows 0 = .ok (.aload_n 0, 1) := by decide +kernel
theorem dX3_startRows_1 : decode cX3_startRows 1 = .ok (.getfield 15, 3) := by decide +kernel
theorem dX3_startRows_4 : decode cX3_startRows 4 = .ok (.bipush 21, 2) := by decide +kernel
theorem dX3_startRows_6 : decode cX3_startRows 6 = .ok (.aload_n 0, 1) := by decide +kernel
theorem dX3_startRows_7 : decode cX3_startRows 7 = .ok (.getfield 9, 3) := by decide +kernel
theorem dX3_startRows_10 : decode cX3_startRows 10 = .ok (.getfield 64, 3) := by decide +kernel
theorem dX3_startRows_13 : decode cX3_startRows 13 = .ok (.iconst 0, 1) := by decide +kernel
theorem dX3_startRows_14 : decode cX3_startRows 14 = .ok (.iaload, 1) := by decide +kernel
theorem dX3_startRows_15 : decode cX3_startRows 15 = .ok (.invokevirtual 47, 3) := by decide +kernel
theorem dX3_startRows_18 : decode cX3_startRows 18 = .ok (.aload_n 0, 1) := by decide +kernel
theorem dX3_startRows_19 : decode cX3_startRows 19 = .ok (.getfield 9, 3) := by decide +kernel
theorem dX3_startRows_22 : decode cX3_startRows 22 = .ok (.getfield 113, 3) := by decide +kernel
theorem dX3_startRows_25 : decode cX3_startRows 25 = .ok (.iconst 1, 1) := by decide +kernel
theorem dX3_startRows_26 : decode cX3_startRows 26 = .ok (.if_icmp .le 7, 3) := by decide +kernel
theorem dX3_startRows_29 : decode cX3_startRows 29 = .ok (.iconst 1, 1) := by decide +kernel
theorem dX3_startRows_30 : decode cX3_startRows 30 = .ok (.goto 4, 3) := by decide +kernel
theorem dX3_startRows_33 : decode cX3_startRows 33 = .ok (.iconst 0, 1) := by decide +kernel
theorem dX3_startRows_34 : decode cX3_startRows 34 = .ok (.istore_n 1, 1) := by decide +kernel
theorem dX3_startRows_35 : decode cX3_startRows 35 = .ok (.iload_n 1, 1) := by decide +kernel
theorem dX3_startRows_36 : decode cX3_startRows 36 = .ok (.ifCond .eq 21, 3) := by decide +kernel
theorem dX3_startRows_39 : decode cX3_startRows 39 = .ok (.aload_n 0, 1) := by decide +kernel
theorem dX3_startRows_40 : decode cX3_startRows 40 = .ok (.getfield 15, 3) := by decide +kernel
theorem dX3_startRows_43 : decode cX3_startRows 43 = .ok (.bipush 22, 2) := by decide +kernel
theorem dX3_startRows_45 : decode cX3_startRows 45 = .ok (.aload_n 0, 1) := by decide +kernel
theorem dX3_startRows_46 : decode cX3_startRows 46 = .ok (.getfield 9, 3) := by decide +kernel
theorem dX3_startRows_49 : decode cX3_startRows 49 = .ok (.getfield 64, 3) := by decide +kernel
theorem dX3_startRows_52 : decode cX3_startRows 52 = .ok (.iconst 1, 1) := by decide +kernel
theorem dX3_startRows_53 : decode cX3_startRows 53 = .ok (.iaload, 1) := by decide +kernel
theorem dX3_startRows_54 : decode cX3_startRows 54 = .ok (.invokevirtual 47, 3) := by decide +kernel
theorem dX3_startRows_57 : decode cX3_startRows 57 = .ok (.aload_n 0, 1) := by decide +kernel
theorem dX3_startRows_58 : decode cX3_startRows 58 = .ok (.getfield 15, 3) := by decide +kernel
theorem dX3_startRows_61 : decode cX3_startRows 61 = .ok (.invokevirtual 116, 3) := by decide +kernel
theorem dX3_startRows_64 : decode cX3_startRows 64 = .ok (.istore_n 2, 1) := by decide +kernel
theorem dX3_startRows_65 : decode cX3_startRows 65 = .ok (.aload_n 0, 1) := by decide +kernel
theorem dX3_startRows_66 : decode cX3_startRows 66 = .ok (.getfield 15, 3) := by decide +kernel
theorem dX3_startRows_69 : decode cX3_startRows 69 = .ok (.bipush 23, 2) := by decide +kernel
theorem dX3_startRows_71 : decode cX3_startRows 71 = .ok (.iconst 0, 1) := by decide +kernel
theorem dX3_startRows_72 : decode cX3_startRows 72 = .ok (.invokevirtual 47, 3) := by decide +kernel
theorem dX3_startRows_75 : decode cX3_startRows 75 = .ok (.iload_n 1, 1) := by decide +kernel
theorem dX3_startRows_76 : decode cX3_startRows 76 = .ok (.ifCond .eq 23, 3) := by decide +kernel
theorem dX3_startRows_79 : decode cX3_startRows 79 = .ok (.aload_n 0, 1) := by decide +kernel
theorem dX3_startRows_80 : decode cX3_startRows 80 = .ok (.getfield 15, 3) := by decide +kernel
theorem dX3_startRows_83 : decode cX3_startRows 83 = .ok (.invokevirtual 116, 3) := by decide +kernel
theorem dX3_startRows_86 : decode cX3_startRows 86 = .ok (.istore_n 2, 1) := by decide +kernel
theorem dX3_startRows_87 : decode cX3_startRows 87 = .ok (.aload_n 0, 1) := by decide +kernel
theorem dX3_startRows_88 : decode cX3_startRows 88 = .ok (.getfield 15, 3) := by decide +kernel
theorem dX3_startRows_91 : decode cX3_startRows 91 = .ok (.bipush 24, 2) := by decide +kernel
theorem dX3_startRows_93 : decode cX3_startRows 93 = .ok (.iload_n 2, 1) := by decide +kernel
theorem dX3_startRows_94 : decode cX3_startRows 94 = .ok (.iconst 1, 1) := by decide +kernel
theorem dX3_startRows_95 : decode cX3_startRows 95 = .ok (.isub, 1) := by decide +kernel
theorem dX3_startRows_96 : decode cX3_startRows 96 = .ok (.invokevirtual 47, 3) := by decide +kernel
theorem dX3_startRows_99 : decode cX3_startRows 99 = .ok (.aload_n 0, 1) := by decide +kernel
theorem dX3_startRows_100 : decode cX3_startRows 100 = .ok (.getfield 9, 3) := by decide +kernel
theorem dX3_startRows_103 : decode cX3_startRows 103 = .ok (.getfield 119, 3) := by decide +kernel
theorem dX3_startRows_106 : decode cX3_startRows 106 = .ok (.iconst (-1), 1) := by decide +kernel
theorem dX3_startRows_107 : decode cX3_startRows 107 = .ok (.if_icmp .eq 34, 3) := by decide +kernel
theorem dX3_startRows_110 : decode cX3_startRows 110 = .ok (.aload_n 0, 1) := by decide +kernel
theorem dX3_startRows_111 : decode cX3_startRows 111 = .ok (.aload_n 0, 1) := by decide +kernel
theorem dX3_startRows_112 : decode cX3_startRows 112 = .ok (.getfield 9, 3) := by decide +kernel
theorem dX3_startRows_115 : decode cX3_startRows 115 = .ok (.getfield 119, 3) := by decide +kernel
theorem dX3_startRows_118 : decode cX3_startRows 118 = .ok (.aload_n 0, 1) := by decide +kernel
theorem dX3_startRows_119 : decode cX3_startRows 119 = .ok (.getfield 9, 3) := by decide +kernel
theorem dX3_startRows_122 : decode cX3_startRows 122 = .ok (.getfield 122, 3) := by decide +kernel
theorem dX3_startRows_125 : decode cX3_startRows 125 = .ok (.invokevirtual 116, 3) := by decide +kernel
theorem dX3_startRows_128 : decode cX3_startRows 128 = .ok (.invokevirtual 81, 3) := by decide +kernel
theorem dX3_startRows_131 : decode cX3_startRows 131 = .ok (.aload_n 0, 1) := by decide +kernel
theorem dX3_startRows_132 : decode cX3_startRows 132 = .ok (.getfield 15, 3) := by decide +kernel
theorem dX3_startRows_135 : decode cX3_startRows 135 = .ok (.bipush 25, 2) := by decide +kernel
theorem dX3_startRows_137 : decode cX3_startRows 137 = .ok (.iload_n 2, 1) := by decide +kernel
theorem dX3_startRows_138 : decode cX3_startRows 138 = .ok (.invokevirtual 47, 3) := by decide +kernel
theorem dX3_startRows_141 : decode cX3_startRows 141 = .ok (.iload_n 2, 1) := by decide +kernel
theorem dX3_startRows_142 : decode cX3_startRows 142 = .ok (.ireturn, 1) := by decide +kernel
theorem b_X3_startRows_0 {h : Nat} {L : LVs} {st : List AV} {S : ST} {Q : Option AV → ST → Prop} (k : o_al L st S (fun L st S => o_get L st S (fun L st S => o_c L st S (fun L st S => o_al L st S (fun L st S => o_get L st S (fun L st S => o_get L st S (fun L st S => o_c L st S (fun L st S => o_iald L st S (fun L st S => V MX3_startRows h 15 L st S Q)) (nI 0)) 6 2 (3, 23, 0)) 3 0 (4, 6, 0)) 0) (nI 21)) 3 1 (4, 1, 1)) 0) : V MX3_startRows h 0 L st S Q :=
  v_aload_n dX3_startRows_0 rfl (fun L st S k => v_get dX3_startRows_1 rfl iX3 LY_3 rfl (by decide) rfl fl_X3_15 (fun L st S k => v_bipush dX3_startRows_4 (by decide) (fun L st S k => v_aload_n dX3_startRows_6 rfl (fun L st S k => v_get dX3_startRows_7 rfl iX3 LY_3 rfl (by decide) rfl fl_X3_9 (fun L st S k => v_get dX3_startRows_10 rfl iX6 LY_6 rfl (by decide) rfl fl_X3_64 (fun L st S k => v_iconst dX3_startRows_13 (by decide) (fun L st S k => v_iaload dX3_startRows_14 (fun L st S k => k) k) k) k) k) k) k) k) k
theorem k_X3_startRows_15 {h : Nat} {L : LVs} {st : List AV} {S : ST} {Q Q' : Option AV → ST → Prop} {j : Nat} {a0 a1 : AV} (hC : Ct MX1_add h [vR 1 j, a0, a1] S Q') (k : ∀ (r : Option AV) (S' : ST), Q' r S' → V MX3_startRows (h + 1) 18 L (r.toList ++ st) S' Q) (hj : j < NI 1) (hw : wid st ≤ 8) : V MX3_startRows (h + 1) 15 L (a1 :: a0 :: vR 1 j :: st) S Q :=
  v_callV (M' := MX1_add) (c := 1) (As := [a0, a1]) dX3_startRows_15 ml_X3_47 im_X1_add se_X1_add in_X1 cd_X1_add rfl LY_1 np_X1_add (by decide) hw hj hC k
theorem b_X3_startRows_18 {h : Nat} {L : LVs} {st : List AV} {S : ST} {Q : Option AV → ST → Prop} (k : o_al L st S (fun L st S => o_get L st S (fun L st S => o_get L st S (fun L st S => o_c L st S (fun L st S => t_2 L st S (fun x y => x ≤ y) (fun L st S => V MX3_startRows h 33 L st S Q) (fun L st S => V MX3_startRows h 29 L st S Q)) (nI 1)) 6 9 (0, 0, 0)) 3 0 (4, 6, 0)) 0) : V MX3_startRows h 18 L st S Q :=
  v_aload_n dX3_startRows_18 rfl (fun L st S k => v_get dX3_startRows_19 rfl iX3 LY_3 rfl (by decide) rfl fl_X3_9 (fun L st S k => v_get dX3_startRows_22 rfl iX6 LY_6 rfl (by decide) rfl fl_X3_113 (fun L st S k => v_iconst dX3_startRows_25 (by decide) (fun L st S k => w_icmp_le dX3_startRows_26 (by decide) rfl k) k) k) k) k
theorem b_X3_startRows_29 {h : Nat} {L : LVs} {st : List AV} {S : ST} {Q : Option AV → ST → Prop} (k : o_c L st S (fun L st S => V MX3_startRows h 34 L st S Q) (nI 1)) : V MX3_startRows h 29 L st S Q :=
  v_iconst dX3_startRows_29 (by decide) (fun L st S k => v_goto dX3_startRows_30 (by decide) k) k
theorem b_X3_startRows_33 {h : Nat} {L : LVs} {st : List AV} {S : ST} {Q : Option AV → ST → Prop} (k : o_c L st S (fun L st S => V MX3_startRows h 34 L st S Q) (nI 0)) : V MX3_startRows h 33 L st S Q :=
  v_iconst dX3_startRows_33 (by decide) (fun L st S k => k) k
theorem b_X3_startRows_34 {h : Nat} {L : LVs} {st : List AV} {S : ST} {Q : Option AV → ST → Prop} (k : o_is L st S (fun L st S => o_il L st S (fun L st S => t_1 L st S (fun x => x = nI 0) (fun L st S => V MX3_startRows h 57 L st S Q) (fun L st S => V MX3_startRows h 39 L st S Q)) 1) 1) : V MX3_startRows h 34 L st S Q :=
  v_istore_n dX3_startRows_34 rfl (by decide) (fun L st S k => v_iload_n dX3_startRows_35 rfl (fun L st S k => w_if_eq dX3_startRows_36 (by decide) rfl k) k) k
theorem b_X3_startRows_39 {h : Nat} {L : LVs} {st : List AV} {S : ST} {Q : Option AV → ST → Prop} (k : o_al L st S (fun L st S => o_get L st S (fun L st S => o_c L st S (fun L st S => o_al L st S (fun L st S => o_get L st S (fun L st S => o_get L st S (fun L st S => o_c L st S (fun L st S => o_iald L st S (fun L st S => V MX3_startRows h 54 L st S Q)) (nI 1)) 6 2 (3, 23, 0)) 3 0 (4, 6, 0)) 0) (nI 22)) 3 1 (4, 1, 1)) 0) : V MX3_startRows h 39 L st S Q :=
  v_aload_n dX3_startRows_39 rfl (fun L st S k => v_get dX3_startRows_40 rfl iX3 LY_3 rfl (by decide) rfl fl_X3_15 (fun L st S k => v_bipush dX3_startRows_43 (by decide) (fun L st S k => v_aload_n dX3_startRows_45 rfl (fun L st S k => v_get dX3_startRows_46 rfl iX3 LY_3 rfl (by decide) rfl fl_X3_9 (fun L st S k => v_get dX3_startRows_49 rfl iX6 LY_6 rfl (by decide) rfl fl_X3_64 (fun L st S k => v_iconst dX3_startRows_52 (by decide) (fun L st S k => v_iaload dX3_startRows_53 (fun L st S k => k) k) k) k) k) k) k) k) k
theorem k_X3_startRows_54 {h : Nat} {L : LVs} {st : List AV} {S : ST} {Q Q' : Option AV → ST → Prop} {j : Nat} {a0 a1 : AV} (hC : Ct MX1_add h [vR 1 j, a0, a1] S Q') (k : ∀ (r : Option AV) (S' : ST), Q' r S' → V MX3_startRows (h + 1) 57 L (r.toList ++ st) S' Q) (hj : j < NI 1) (hw : wid st ≤ 8) : V MX3_startRows (h + 1) 54 L (a1 :: a0 :: vR 1 j :: st) S Q :=
  v_callV (M' := MX1_add) (c := 1) (As := [a0, a1]) dX3_startRows_54 ml_X3_47 im_X1_add se_X1_add in_X1 cd_X1_add rfl LY_1 np_X1_add (by decide) hw hj hC k
theorem b_X3_startRows_57 {h : Nat} {L : LVs} {st : List AV} {S : ST} {Q : Option AV → ST → Prop} (k : o_al L st S (fun L st S => o_get L st S (fun L st S => V MX3_startRows h 61 L st S Q) 3 1 (4, 1, 1)) 0) : V MX3_startRows h 57 L st S Q :=
  v_aload_n dX3_startRows_57 rfl (fun L st S k => v_get dX3_startRows_58 rfl iX3 LY_3 rfl (by decide) rfl fl_X3_15 (fun L st S k => k) k) k
theorem k_X3_startRows_61 {h : Nat} {L : LVs} {st : List AV} {S : ST} {Q Q' : Option AV → ST → Prop} {j : Nat} (hC : Ct MX1_end h [vR 1 j] S Q') (k : ∀ (r : Option AV) (S' : ST), Q' r S' → V MX3_startRows (h + 1) 64 L (r.toList ++ st) S' Q) (hj : j < NI 1) (hw : wid st ≤ 8) : V MX3_startRows (h + 1) 61 L (vR 1 j :: st) S Q :=
  v_callV (M' := MX1_end) (c := 1) (As := []) dX3_startRows_61 ml_X3_116 im_X1_end se_X1_end in_X1 cd_X1_end rfl LY_1 np_X1_end (by decide) hw hj hC k
theorem b_X3_startRows_64 {h : Nat} {L : LVs} {st : List AV} {S : ST} {Q : Option AV → ST → Prop} (k : o_is L st S (fun L st S => o_al L st S (fun L st S => o_get L st S (fun L st S => o_c L st S (fun L st S => o_c L st S (fun L st S => V MX3_startRows h 72 L st S Q) (nI 0)) (nI 23)) 3 1 (4, 1, 1)) 0) 2) : V MX3_startRows h 64 L st S Q :=
  v_istore_n dX3_startRows_64 rfl (by decide) (fun L st S k => v_aload_n dX3_startRows_65 rfl (fun L st S k => v_get dX3_startRows_66 rfl iX3 LY_3 rfl (by decide) rfl fl_X3_15 (fun L st S k => v_bipush dX3_startRows_69 (by decide) (fun L st S k => v_iconst dX3_startRows_71 (by decide) (fun L st S k => k) k) k) k) k) k
theorem k_X3_startRows_72 {h : Nat} {L : LVs} {st : List AV} {S : ST} {Q Q' : Option AV → ST → Prop} {j : Nat} {a0 a1 : AV} (hC : Ct MX1_add h [vR 1 j, a0, a1] S Q') (k : ∀ (r : Option AV) (S' : ST), Q' r S' → V MX3_startRows (h + 1) 75 L (r.toList ++ st) S' Q) (hj : j < NI 1) (hw : wid st ≤ 8) : V MX3_startRows (h + 1) 72 L (a1 :: a0 :: vR 1 j :: st) S Q :=
  v_callV (M' := MX1_add) (c := 1) (As := [a0, a1]) dX3_startRows_72 ml_X3_47 im_X1_add se_X1_add in_X1 cd_X1_add rfl LY_1 np_X1_add (by decide) hw hj hC k
theorem b_X3_startRows_75 {h : Nat} {L : LVs} {st : List AV} {S : ST} {Q : Option AV → ST → Prop} (k : o_il L st S (fun L st S => t_1 L st S (fun x => x = nI 0) (fun L st S => V MX3_startRows h 99 L st S Q) (fun L st S => V MX3_startRows h 79 L st S Q)) 1) : V MX3_startRows h 75 L st S Q :=
  v_iload_n dX3_startRows_75 rfl (fun L st S k => w_if_eq dX3_startRows_76 (by decide) rfl k) k
theorem b_X3_startRows_79 {h : Nat} {L : LVs} {st : List AV} {S : ST} {Q : Option AV → ST → Prop} (k : o_al L st S (fun L st S => o_get L st S (fun L st S => V MX3_startRows h 83 L st S Q) 3 1 (4, 1, 1)) 0) : V MX3_startRows h 79 L st S Q :=
  v_aload_n dX3_startRows_79 rfl (fun L st S k => v_get dX3_startRows_80 rfl iX3 LY_3 rfl (by decide) rfl fl_X3_15 (fun L st S k => k) k) k
theorem k_X3_startRows_83 {h : Nat} {L : LVs} {st : List AV} {S : ST} {Q Q' : Option AV → ST → Prop} {j : Nat} (hC : Ct MX1_end h [vR 1 j] S Q') (k : ∀ (r : Option AV) (S' : ST), Q' r S' → V MX3_startRows (h + 1) 86 L (r.toList ++ st) S' Q) (hj : j < NI 1) (hw : wid st ≤ 8) : V MX3_startRows (h + 1) 83 L (vR 1 j :: st) S Q :=
  v_callV (M' := MX1_end) (c := 1) (As := []) dX3_startRows_83 ml_X3_116 im_X1_end se_X1_end in_X1 cd_X1_end rfl LY_1 np_X1_end (by decide) hw hj hC k
theorem b_X3_startRows_86 {h : Nat} {L : LVs} {st : List AV} {S : ST} {Q : Option AV → ST → Prop} (k : o_is L st S (fun L st S => o_al L st S (fun L st S => o_get L st S (fun L st S => o_c L st S (fun L st S => o_il L st S (fun L st S => o_c L st S (fun L st S => o_isub L st S (fun L st S => V MX3_startRows h 96 L st S Q)) (nI 1)) 2) (nI 24)) 3 1 (4, 1, 1)) 0) 2) : V MX3_startRows h 86 L st S Q :=
  v_istore_n dX3_startRows_86 rfl (by decide) (fun L st S k => v_aload_n dX3_startRows_87 rfl (fun L st S k => v_get dX3_startRows_88 rfl iX3 LY_3 rfl (by decide) rfl fl_X3_15 (fun L st S k => v_bipush dX3_startRows_91 (by decide) (fun L st S k => v_iload_n dX3_startRows_93 rfl (fun L st S k => v_iconst dX3_startRows_94 (by decide) (fun L st S k => v_isub dX3_startRows_95 (fun L st S k => k) k) k) k) k) k) k) k
theorem k_X3_startRows_96 {h : Nat} {L : LVs} {st : List AV} {S : ST} {Q Q' : Option AV → ST → Prop} {j : Nat} {a0 a1 : AV} (hC : Ct MX1_add h [vR 1 j, a0, a1] S Q') (k : ∀ (r : Option AV) (S' : ST), Q' r S' → V MX3_startRows (h + 1) 99 L (r.toList ++ st) S' Q) (hj : j < NI 1) (hw : wid st ≤ 8) : V MX3_startRows (h + 1) 96 L (a1 :: a0 :: vR 1 j :: st) S Q :=
  v_callV (M' := MX1_add) (c := 1) (As := [a0, a1]) dX3_startRows_96 ml_X3_47 im_X1_add se_X1_add in_X1 cd_X1_add rfl LY_1 np_X1_add (by decide) hw hj hC k
theorem b_X3_startRows_99 {h : Nat} {L : LVs} {st : List AV} {S : ST} {Q : Option AV → ST → Prop} (k : o_al L st S (fun L st S => o_get L st S (fun L st S => o_get L st S (fun L st S => o_c L st S (fun L st S => t_2 L st S (fun x y => x = y) (fun L st S => V MX3_startRows h 141 L st S Q) (fun L st S => V MX3_startRows h 110 L st S Q)) (-1)) 6 13 (0, 0, 0)) 3 0 (4, 6, 0)) 0) : V MX3_startRows h 99 L st S Q :=
  v_aload_n dX3_startRows_99 rfl (fun L st S k => v_get dX3_startRows_100 rfl iX3 LY_3 rfl (by decide) rfl fl_X3_9 (fun L st S k => v_get dX3_startRows_103 rfl iX6 LY_6 rfl (by decide) rfl fl_X3_119 (fun L st S k => v_iconst dX3_startRows_106 (by decide) (fun L st S k => w_icmp_eq dX3_startRows_107 (by decide) rfl k) k) k) k) k
theorem b_X3_startRows_110 {h : Nat} {L : LVs} {st : List AV} {S : ST} {Q : Option AV → ST → Prop} (k : o_al L st S (fun L st S => o_al L st S (fun L st S => o_get L st S (fun L st S => o_get L st S (fun L st S => o_al L st S (fun L st S => o_get L st S (fun L st S => o_get L st S (fun L st S => V MX3_startRows h 125 L st S Q) 6 0 (4, 1, 0)) 3 0 (4, 6, 0)) 0) 6 13 (0, 0, 0)) 3 0 (4, 6, 0)) 0) 0) : V MX3_startRows h 110 L st S Q :=
  v_aload_n dX3_startRows_110 rfl (fun L st S k => v_aload_n dX3_startRows_111 rfl (fun L st S k => v_get dX3_startRows_112 rfl iX3 LY_3 rfl (by decide) rfl fl_X3_9 (fun L st S k => v_get dX3_startRows_115 rfl iX6 LY_6 rfl (by decide) rfl fl_X3_119 (fun L st S k => v_aload_n dX3_startRows_118 rfl (fun L st S k => v_get dX3_startRows_119 rfl iX3 LY_3 rfl (by decide) rfl fl_X3_9 (fun L st S k => v_get dX3_startRows_122 rfl iX6 LY_6 rfl (by decide) rfl fl_X3_122 (fun L st S k => k) k) k) k) k) k) k) k
theorem k_X3_startRows_125 {h : Nat} {L : LVs} {st : List AV} {S : ST} {Q Q' : Option AV → ST → Prop} {j : Nat} (hC : Ct MX1_end h [vR 1 j] S Q') (k : ∀ (r : Option AV) (S' : ST), Q' r S' → V MX3_startRows (h + 1) 128 L (r.toList ++ st) S' Q) (hj : j < NI 1) (hw : wid st ≤ 8) : V MX3_startRows (h + 1) 125 L (vR 1 j :: st) S Q :=
  v_callV (M' := MX1_end) (c := 1) (As := []) dX3_startRows_125 ml_X3_116 im_X1_end se_X1_end in_X1 cd_X1_end rfl LY_1 np_X1_end (by decide) hw hj hC k
theorem k_X3_startRows_128 {h : Nat} {L : LVs} {st : List AV} {S : ST} {Q Q' : Option AV → ST → Prop} {j : Nat} {a0 a1 : AV} (hC : Ct MX3_copyDraft h [vR 3 j, a0, a1] S Q') (k : ∀ (r : Option AV) (S' : ST), Q' r S' → V MX3_startRows (h + 1) 131 L (r.toList ++ st) S' Q) (hj : j < NI 3) (hw : wid st ≤ 8) : V MX3_startRows (h + 1) 128 L (a1 :: a0 :: vR 3 j :: st) S Q :=
  v_callV (M' := MX3_copyDraft) (c := 3) (As := [a0, a1]) dX3_startRows_128 ml_X3_81 im_X3_copyDraft se_X3_copyDraft in_X3 cd_X3_copyDraft rfl LY_3 np_X3_copyDraft (by decide) hw hj hC k
theorem b_X3_startRows_131 {h : Nat} {L : LVs} {st : List AV} {S : ST} {Q : Option AV → ST → Prop} (k : o_al L st S (fun L st S => o_get L st S (fun L st S => o_c L st S (fun L st S => o_il L st S (fun L st S => V MX3_startRows h 138 L st S Q) 2) (nI 25)) 3 1 (4, 1, 1)) 0) : V MX3_startRows h 131 L st S Q :=
  v_aload_n dX3_startRows_131 rfl (fun L st S k => v_get dX3_startRows_132 rfl iX3 LY_3 rfl (by decide) rfl fl_X3_15 (fun L st S k => v_bipush dX3_startRows_135 (by decide) (fun L st S k => v_iload_n dX3_startRows_137 rfl (fun L st S k => k) k) k) k) k
theorem k_X3_startRows_138 {h : Nat} {L : LVs} {st : List AV} {S : ST} {Q Q' : Option AV → ST → Prop} {j : Nat} {a0 a1 : AV} (hC : Ct MX1_add h [vR 1 j, a0, a1] S Q') (k : ∀ (r : Option AV) (S' : ST), Q' r S' → V MX3_startRows (h + 1) 141 L (r.toList ++ st) S' Q) (hj : j < NI 1) (hw : wid st ≤ 8) : V MX3_startRows (h + 1) 138 L (a1 :: a0 :: vR 1 j :: st) S Q :=
  v_callV (M' := MX1_add) (c := 1) (As := [a0, a1]) dX3_startRows_138 ml_X3_47 im_X1_add se_X1_add in_X1 cd_X1_add rfl LY_1 np_X1_add (by decide) hw hj hC k
theorem b_X3_startRows_141 {h : Nat} {L : LVs} {st : List AV} {S : ST} {Q : Option AV → ST → Prop} (k : o_il L st S (fun L st S => t_ir st S Q) 2) : V MX3_startRows h 141 L st S Q :=
  v_iload_n dX3_startRows_141 rfl (fun L st S k => w_ir dX3_startRows_142 rfl k) k
-- QueryForge$Maker.endRows(I)V
theorem dX3_endRows_0 : decode cX3_endRows 0 = .ok (.aload_n 0, 1) := by decide +kernel
theorem dX3_endRows_1 : decode cX3_endRows 1 = .ok (.getfield 15, 3) := by decide +kernel
theorem dX3_endRows_4 : decode cX3_endRows 4 = .ok (.bipush 26, 2) := by decide +kernel
theorem dX3_endRows_6 : decode cX3_endRows 6 = .ok (.iload_n 1, 1) := by decide +kernel
theorem dX3_endRows_7 : decode cX3_endRows 7 = .ok (.invokevirtual 47, 3) := by decide +kernel
theorem dX3_endRows_10 : decode cX3_endRows 10 = .ok (.aload_n 0, 1) := by decide +kernel
theorem dX3_endRows_11 : decode cX3_endRows 11 = .ok (.getfield 9, 3) := by decide +kernel
theorem dX3_endRows_14 : decode cX3_endRows 14 = .ok (.getfield 113, 3) := by decide +kernel
theorem dX3_endRows_17 : decode cX3_endRows 17 = .ok (.iconst 1, 1) := by decide +kernel
theorem dX3_endRows_18 : decode cX3_endRows 18 = .ok (.if_icmp .le 9, 3) := by decide +kernel
theorem dX3_endRows_21 : decode cX3_endRows 21 = .ok (.iload_n 1, 1) := by decide +kernel
theorem dX3_endRows_22 : decode cX3_endRows 22 = .ok (.iconst 1, 1) := by decide +kernel
theorem dX3_endRows_23 : decode cX3_endRows 23 = .ok (.isub, 1) := by decide +kernel
theorem dX3_endRows_24 : decode cX3_endRows 24 = .ok (.goto 4, 3) := by decide +kernel
theorem dX3_endRows_27 : decode cX3_endRows 27 = .ok (.iload_n 1, 1) := by decide +kernel
theorem dX3_endRows_28 : decode cX3_endRows 28 = .ok (.istore_n 2, 1) := by decide +kernel
theorem dX3_endRows_29 : decode cX3_endRows 29 = .ok (.aload_n 0, 1) := by decide +kernel
theorem dX3_endRows_30 : decode cX3_endRows 30 = .ok (.getfield 15, 3) := by decide +kernel
theorem dX3_endRows_33 : decode cX3_endRows 33 = .ok (.iload_n 2, 1) := by decide +kernel
theorem dX3_endRows_34 : decode cX3_endRows 34 = .ok (.bipush 23, 2) := by decide +kernel
theorem dX3_endRows_36 : decode cX3_endRows 36 = .ok (.aload_n 0, 1) := by decide +kernel
theorem dX3_endRows_37 : decode cX3_endRows 37 = .ok (.getfield 15, 3) := by decide +kernel
theorem dX3_endRows_40 : decode cX3_endRows 40 = .ok (.invokevirtual 116, 3) := by decide +kernel
theorem dX3_endRows_43 : decode cX3_endRows 43 = .ok (.invokevirtual 125, 3) := by decide +kernel
theorem dX3_endRows_46 : decode cX3_endRows 46 = .ok (.return_, 1) := by decide +kernel
theorem b_X3_endRows_0 {h : Nat} {L : LVs} {st : List AV} {S : ST} {Q : Option AV → ST → Prop} (k : o_al L st S (fun L st S => o_get L st S (fun L st S => o_c L st S (fun L st S => o_il L st S (fun L st S => V MX3_endRows h 7 L st S Q) 1) (nI 26)) 3 1 (4, 1, 1)) 0) : V MX3_endRows h 0 L st S Q :=
  v_aload_n dX3_endRows_0 rfl (fun L st S k => v_get dX3_endRows_1 rfl iX3 LY_3 rfl (by decide) rfl fl_X3_15 (fun L st S k => v_bipush dX3_endRows_4 (by decide) (fun L st S k => v_iload_n dX3_endRows_6 rfl (fun L st S k => k) k) k) k) k
theorem k_X3_endRows_7 {h : Nat} {L : LVs} {st : List AV} {S : ST} {Q Q' : Option AV → ST → Prop} {j : Nat} {a0 a1 : AV} (hC : Ct MX1_add h [vR 1 j, a0, a1] S Q') (k : ∀ (r : Option AV) (S' : ST), Q' r S' → V MX3_endRows (h + 1) 10 L (r.toList ++ st) S' Q) (hj : j < NI 1) (hw : wid st ≤ 8) : V MX3_endRows (h + 1) 7 L (a1 :: a0 :: vR 1 j :: st) S Q :=
  v_callV (M' := MX1_add) (c := 1) (As := [a0, a1]) dX3_endRows_7 ml_X3_47 im_X1_add se_X1_add in_X1 cd_X1_add rfl LY_1 np_X1_add (by decide) hw hj hC k
theorem b_X3_endRows_10 {h : Nat} {L : LVs} {st : List AV} {S : ST} {Q : Option AV → ST → Prop} (k : o_al L st S (fun L st S => o_get L st S (fun L st S => o_get L st S (fun L st S => o_c L st S (fun L st S => t_2 L st S (fun x y => x ≤ y) (fun L st S => V MX3_endRows h 27 L st S Q) (fun L st S => V MX3_endRows h 21 L st S Q)) (nI 1)) 6 9 (0, 0, 0)) 3 0 (4, 6, 0)) 0) : V MX3_endRows h 10 L st S Q :=
  v_aload_n dX3_endRows_10 rfl (fun L st S k => v_get dX3_endRows_11 rfl iX3 LY_3 rfl (by decide) rfl fl_X3_9 (fun L st S k => v_get dX3_endRows_14 rfl iX6 LY_6 rfl (by decide) rfl fl_X3_113 (fun L st S k => v_iconst dX3_endRows_17 (by decide) (fun L st S k => w_icmp_le dX3_endRows_18 (by decide) rfl k) k) k) k) k
theorem b_X3_endRows_21 {h : Nat} {L : LVs} {st : List AV} {S : ST} {Q : Option AV → ST → Prop} (k : o_il L st S (fun L st S => o_c L st S (fun L st S => o_isub L st S (fun L st S => V MX3_endRows h 28 L st S Q)) (nI 1)) 1) : V MX3_endRows h 21 L st S Q :=
  v_iload_n dX3_endRows_21 rfl (fun L st S k => v_iconst dX3_endRows_22 (by decide) (fun L st S k => v_isub dX3_endRows_23 (fun L st S k => v_goto dX3_endRows_24 (by decide) k) k) k) k
theorem b_X3_endRows_27 {h : Nat} {L : LVs} {st : List AV} {S : ST} {Q : Option AV → ST → Prop} (k : o_il L st S (fun L st S => V MX3_endRows h 28 L st S Q) 1) : V MX3_endRows h 27 L st S Q :=
  v_iload_n dX3_endRows_27 rfl (fun L st S k => k) k
theorem b_X3_endRows_28 {h : Nat} {L : LVs} {st : List AV} {S : ST} {Q : Option AV → ST → Prop} (k : o_is L st S (fun L st S => o_al L st S (fun L st S => o_get L st S (fun L st S => o_il L st S (fun L st S => o_c L st S (fun L st S => o_al L st S (fun L st S => o_get L st S (fun L st S => V MX3_endRows h 40 L st S Q) 3 1 (4, 1, 1)) 0) (nI 23)) 2) 3 1 (4, 1, 1)) 0) 2) : V MX3_endRows h 28 L st S Q :=
  v_istore_n dX3_endRows_28 rfl (by decide) (fun L st S k => v_aload_n dX3_endRows_29 rfl (fun L st S k => v_get dX3_endRows_30 rfl iX3 LY_3 rfl (by decide) rfl fl_X3_15 (fun L st S k => v_iload_n dX3_endRows_33 rfl (fun L st S k => v_bipush dX3_endRows_34 (by decide) (fun L st S k => v_aload_n dX3_endRows_36 rfl (fun L st S k => v_get dX3_endRows_37 rfl iX3 LY_3 rfl (by decide) rfl fl_X3_15 (fun L st S k => k) k) k) k) k) k) k) k
theorem k_X3_endRows_40 {h : Nat} {L : LVs} {st : List AV} {S : ST} {Q Q' : Option AV → ST → Prop} {j : Nat} (hC : Ct MX1_end h [vR 1 j] S Q') (k : ∀ (r : Option AV) (S' : ST), Q' r S' → V MX3_endRows (h + 1) 43 L (r.toList ++ st) S' Q) (hj : j < NI 1) (hw : wid st ≤ 8) : V MX3_endRows (h + 1) 40 L (vR 1 j :: st) S Q :=
  v_callV (M' := MX1_end) (c := 1) (As := []) dX3_endRows_40 ml_X3_116 im_X1_end se_X1_end in_X1 cd_X1_end rfl LY_1 np_X1_end (by decide) hw hj hC k
theorem k_X3_endRows_43 {h : Nat} {L : LVs} {st : List AV} {S : ST} {Q Q' : Option AV → ST → Prop} {j : Nat} {a0 a1 a2 : AV} (hC : Ct MX1_change h [vR 1 j, a0, a1, a2] S Q') (k : ∀ (r : Option AV) (S' : ST), Q' r S' → V MX3_endRows (h + 1) 46 L (r.toList ++ st) S' Q) (hj : j < NI 1) (hw : wid st ≤ 8) : V MX3_endRows (h + 1) 43 L (a2 :: a1 :: a0 :: vR 1 j :: st) S Q :=
  v_callV (M' := MX1_change) (c := 1) (As := [a0, a1, a2]) dX3_endRows_43 ml_X3_125 im_X1_change se_X1_change in_X1 cd_X1_change rfl LY_1 np_X1_change (by decide) hw hj hC k
theorem b_X3_endRows_46 {h : Nat} {L : LVs} {st : List AV} {S : ST} {Q : Option AV → ST → Prop} (k : t_vr st S Q) : V MX3_endRows h 46 L st S Q :=
  w_vr dX3_endRows_46 rfl k
-- QueryForge$Maker.copyDraft(II)V
theorem dX3_copyDraft_0 : decode cX3_copyDraft 0 = .ok (.iload_n 1, 1) := by decide +kernel
theorem dX3_copyDraft_1 : decode cX3_copyDraft 1 = .ok (.istore_n 3, 1) := by decide +kernel
theorem dX3_copyDraft_2 : decode cX3_copyDraft 2 = .ok (.iload_n 3, 1) := by decide +kernel
theorem dX3_copyDraft_3 : decode cX3_copyDraft 3 = .ok (.iload_n 2, 1) := by decide +kernel
theorem dX3_copyDraft_4 : decode cX3_copyDraft 4 = .ok (.if_icmp .ge 38, 3) := by decide +kernel
theorem dX3_copyDraft_7 : decode cX3_copyDraft 7 = .ok (.aload_n 0, 1) := by decide +kernel
theorem dX3_copyDraft_8 : decode cX3_copyDraft 8 = .ok (.getfield 15, 3) := by decide +kernel
theorem dX3_copyDraft_11 : decode cX3_copyDraft 11 = .ok (.aload_n 0, 1) := by decide +kernel
theorem dX3_copyDraft_12 : decode cX3_copyDraft 12 = .ok (.getfield 9, 3) := by decide +kernel
theorem dX3_copyDraft_15 : decode cX3_copyDraft 15 = .ok (.getfield 122, 3) := by decide +kernel
theorem dX3_copyDraft_18 : decode cX3_copyDraft 18 = .ok (.iload_n 3, 1) := by decide +kernel
theorem dX3_copyDraft_19 : decode cX3_copyDraft 19 = .ok (.invokevirtual 129, 3) := by decide +kernel
theorem dX3_copyDraft_22 : decode cX3_copyDraft 22 = .ok (.aload_n 0, 1) := by decide +kernel
theorem dX3_copyDraft_23 : decode cX3_copyDraft 23 = .ok (.getfield 9, 3) := by decide +kernel
theorem dX3_copyDraft_26 : decode cX3_copyDraft 26 = .ok (.getfield 122, 3) := by decide +kernel
theorem dX3_copyDraft_29 : decode cX3_copyDraft 29 = .ok (.iload_n 3, 1) := by decide +kernel
theorem dX3_copyDraft_30 : decode cX3_copyDraft 30 = .ok (.invokevirtual 132, 3) := by decide +kernel
theorem dX3_copyDraft_33 : decode cX3_copyDraft 33 = .ok (.invokevirtual 47, 3) := by decide +kernel
theorem dX3_copyDraft_36 : decode cX3_copyDraft 36 = .ok (.iinc 3 1, 3) := by decide +kernel
theorem dX3_copyDraft_39 : decode cX3_copyDraft 39 = .ok (.goto (-37), 3) := by decide +kernel
theorem dX3_copyDraft_42 : decode cX3_copyDraft 42 = .ok (.return_, 1) := by decide +kernel
theorem b_X3_copyDraft_0 {h : Nat} {L : LVs} {st : List AV} {S : ST} {Q : Option AV → ST → Prop} (k : o_il L st S (fun L st S => o_is L st S (fun L st S => V MX3_copyDraft h 2 L st S Q) 3) 1) : V MX3_copyDraft h 0 L st S Q :=
  v_iload_n dX3_copyDraft_0 rfl (fun L st S k => v_istore_n dX3_copyDraft_1 rfl (by decide) (fun L st S k => k) k) k
theorem b_X3_copyDraft_2 {h : Nat} {L : LVs} {st : List AV} {S : ST} {Q : Option AV → ST → Prop} (k : o_il L st S (fun L st S => o_il L st S (fun L st S => t_2 L st S (fun x y => y ≤ x) (fun L st S => V MX3_copyDraft h 42 L st S Q) (fun L st S => V MX3_copyDraft h 7 L st S Q)) 2) 3) : V MX3_copyDraft h 2 L st S Q :=
  v_iload_n dX3_copyDraft_2 rfl (fun L st S k => v_iload_n dX3_copyDraft_3 rfl (fun L st S k => w_icmp_ge dX3_copyDraft_4 (by decide) rfl k) k) k
theorem b_X3_copyDraft_7 {h : Nat} {L : LVs} {st : List AV} {S : ST} {Q : Option AV → ST → Prop} (k : o_al L st S (fun L st S => o_get L st S (fun L st S => o_al L st S (fun L st S => o_get L st S (fun L st S => o_get L st S (fun L st S => o_il L st S (fun L st S => V MX3_copyDraft h 19 L st S Q) 3) 6 0 (4, 1, 0)) 3 0 (4, 6, 0)) 0) 3 1 (4, 1, 1)) 0) : V MX3_copyDraft h 7 L st S Q :=
  v_aload_n dX3_copyDraft_7 rfl (fun L st S k => v_get dX3_copyDraft_8 rfl iX3 LY_3 rfl (by decide) rfl fl_X3_15 (fun L st S k => v_aload_n dX3_copyDraft_11 rfl (fun L st S k => v_get dX3_copyDraft_12 rfl iX3 LY_3 rfl (by decide) rfl fl_X3_9 (fun L st S k => v_get dX3_copyDraft_15 rfl iX6 LY_6 rfl (by decide) rfl fl_X3_122 (fun L st S k => v_iload_n dX3_copyDraft_18 rfl (fun L st S k => k) k) k) k) k) k) k
theorem k_X3_copyDraft_19 {h : Nat} {L : LVs} {st : List AV} {S : ST} {Q Q' : Option AV → ST → Prop} {j : Nat} {a0 : AV} (hC : Ct MX1_operationAt h [vR 1 j, a0] S Q') (k : ∀ (r : Option AV) (S' : ST), Q' r S' → V MX3_copyDraft (h + 1) 22 L (r.toList ++ st) S' Q) (hj : j < NI 1) (hw : wid st ≤ 8) : V MX3_copyDraft (h + 1) 19 L (a0 :: vR 1 j :: st) S Q :=
  v_callV (M' := MX1_operationAt) (c := 1) (As := [a0]) dX3_copyDraft_19 ml_X3_129 im_X1_operationAt se_X1_operationAt in_X1 cd_X1_operationAt rfl LY_1 np_X1_operationAt (by decide) hw hj hC k
theorem b_X3_copyDraft_22 {h : Nat} {L : LVs} {st : List AV} {S : ST} {Q : Option AV → ST → Prop} (k : o_al L st S (fun L st S => o_get L st S (fun L st S => o_get L st S (fun L st S => o_il L st S (fun L st S => V MX3_copyDraft h 30 L st S Q) 3) 6 0 (4, 1, 0)) 3 0 (4, 6, 0)) 0) : V MX3_copyDraft h 22 L st S Q :=
  v_aload_n dX3_copyDraft_22 rfl (fun L st S k => v_get dX3_copyDraft_23 rfl iX3 LY_3 rfl (by decide) rfl fl_X3_9 (fun L st S k => v_get dX3_copyDraft_26 rfl iX6 LY_6 rfl (by decide) rfl fl_X3_122 (fun L st S k => v_iload_n dX3_copyDraft_29 rfl (fun L st S k => k) k) k) k) k
theorem k_X3_copyDraft_30 {h : Nat} {L : LVs} {st : List AV} {S : ST} {Q Q' : Option AV → ST → Prop} {j : Nat} {a0 : AV} (hC : Ct MX1_argumentAt h [vR 1 j, a0] S Q') (k : ∀ (r : Option AV) (S' : ST), Q' r S' → V MX3_copyDraft (h + 1) 33 L (r.toList ++ st) S' Q) (hj : j < NI 1) (hw : wid st ≤ 8) : V MX3_copyDraft (h + 1) 30 L (a0 :: vR 1 j :: st) S Q :=
  v_callV (M' := MX1_argumentAt) (c := 1) (As := [a0]) dX3_copyDraft_30 ml_X3_132 im_X1_argumentAt se_X1_argumentAt in_X1 cd_X1_argumentAt rfl LY_1 np_X1_argumentAt (by decide) hw hj hC k
theorem k_X3_copyDraft_33 {h : Nat} {L : LVs} {st : List AV} {S : ST} {Q Q' : Option AV → ST → Prop} {j : Nat} {a0 a1 : AV} (hC : Ct MX1_add h [vR 1 j, a0, a1] S Q') (k : ∀ (r : Option AV) (S' : ST), Q' r S' → V MX3_copyDraft (h + 1) 36 L (r.toList ++ st) S' Q) (hj : j < NI 1) (hw : wid st ≤ 8) : V MX3_copyDraft (h + 1) 33 L (a1 :: a0 :: vR 1 j :: st) S Q :=
  v_callV (M' := MX1_add) (c := 1) (As := [a0, a1]) dX3_copyDraft_33 ml_X3_47 im_X1_add se_X1_add in_X1 cd_X1_add rfl LY_1 np_X1_add (by decide) hw hj hC k
theorem b_X3_copyDraft_36 {h : Nat} {L : LVs} {st : List AV} {S : ST} {Q : Option AV → ST → Prop} (k : o_inc L st S (fun L st S => V MX3_copyDraft h 2 L st S Q) 3 (nI 1)) : V MX3_copyDraft h 36 L st S Q :=
  v_iinc dX3_copyDraft_36 (by decide) (by decide) (fun L st S k => v_goto dX3_copyDraft_39 (by decide) k) k
theorem b_X3_copyDraft_42 {h : Nat} {L : LVs} {st : List AV} {S : ST} {Q : Option AV → ST → Prop} (k : t_vr st S Q) : V MX3_copyDraft h 42 L st S Q :=
  w_vr dX3_copyDraft_42 rfl k
