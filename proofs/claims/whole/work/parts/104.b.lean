-- QueryForge$Reader.read()I
theorem dX4_read_0 : decode cX4_read 0 = .ok (.aload_n 0, 1) := by decide +kernel
theorem dX4_read_1 : decode cX4_read 1 = .ok (.iconst 0, 1) := by decide +kernel
theorem dX4_read_2 : decode cX4_read 2 = .ok (.putfield 19, 3) := by decide +kernel
theorem dX4_read_5 : decode cX4_read 5 = .ok (.aload_n 0, 1) := by decide +kernel
theorem dX4_read_6 : decode cX4_read 6 = .ok (.getfield 15, 3) := by decide +kernel
theorem dX4_read_9 : decode cX4_read 9 = .ok (.aload_n 0, 1) := by decide +kernel
theorem dX4_read_10 : decode cX4_read 10 = .ok (.getfield 9, 3) := by decide +kernel
theorem dX4_read_13 : decode cX4_read 13 = .ok (.iconst 0, 1) := by decide +kernel
theorem dX4_read_14 : decode cX4_read 14 = .ok (.invokevirtual 23, 3) := by decide +kernel
theorem dX4_read_17 : decode cX4_read 17 = .ok (.invokevirtual 29, 3) := by decide +kernel
theorem dX4_read_20 : decode cX4_read 20 = .ok (.iconst 0, 1) := by decide +kernel
theorem dX4_read_21 : decode cX4_read 21 = .ok (.istore_n 1, 1) := by decide +kernel
theorem dX4_read_22 : decode cX4_read 22 = .ok (.aload_n 0, 1) := by decide +kernel
theorem dX4_read_23 : decode cX4_read 23 = .ok (.getfield 15, 3) := by decide +kernel
theorem dX4_read_26 : decode cX4_read 26 = .ok (.getfield 35, 3) := by decide +kernel
theorem dX4_read_29 : decode cX4_read 29 = .ok (.tableswitch 233 200 205 #[39, 39, 85, 113, 233, 158], 39) := by decide +kernel
theorem dX4_read_68 : decode cX4_read 68 = .ok (.aload_n 0, 1) := by decide +kernel
theorem dX4_read_69 : decode cX4_read 69 = .ok (.iconst 1, 1) := by decide +kernel
theorem dX4_read_70 : decode cX4_read 70 = .ok (.putfield 19, 3) := by decide +kernel
theorem dX4_read_73 : decode cX4_read 73 = .ok (.aload_n 0, 1) := by decide +kernel
theorem dX4_read_74 : decode cX4_read 74 = .ok (.invokevirtual 38, 3) := by decide +kernel
theorem dX4_read_77 : decode cX4_read 77 = .ok (.ifCond .eq 32, 3) := by decide +kernel
theorem dX4_read_80 : decode cX4_read 80 = .ok (.aload_n 0, 1) := by decide +kernel
theorem dX4_read_81 : decode cX4_read 81 = .ok (.bipush 40, 2) := by decide +kernel
theorem dX4_read_83 : decode cX4_read 83 = .ok (.invokevirtual 42, 3) := by decide +kernel
theorem dX4_read_86 : decode cX4_read 86 = .ok (.ifCond .eq 23, 3) := by decide +kernel
theorem dX4_read_89 : decode cX4_read 89 = .ok (.aload_n 0, 1) := by decide +kernel
theorem dX4_read_90 : decode cX4_read 90 = .ok (.invokevirtual 46, 3) := by decide +kernel
theorem dX4_read_93 : decode cX4_read 93 = .ok (.ifCond .eq 16, 3) := by decide +kernel
theorem dX4_read_96 : decode cX4_read 96 = .ok (.aload_n 0, 1) := by decide +kernel
theorem dX4_read_97 : decode cX4_read 97 = .ok (.bipush 41, 2) := by decide +kernel
theorem dX4_read_99 : decode cX4_read 99 = .ok (.invokevirtual 42, 3) := by decide +kernel
theorem dX4_read_102 : decode cX4_read 102 = .ok (.ifCond .eq 7, 3) := by decide +kernel
theorem dX4_read_105 : decode cX4_read 105 = .ok (.iconst 1, 1) := by decide +kernel
theorem dX4_read_106 : decode cX4_read 106 = .ok (.goto 4, 3) := by decide +kernel
theorem dX4_read_109 : decode cX4_read 109 = .ok (.iconst 0, 1) := by decide +kernel
theorem dX4_read_110 : decode cX4_read 110 = .ok (.istore_n 1, 1) := by decide +kernel
theorem dX4_read_111 : decode cX4_read 111 = .ok (.goto 151, 3) := by decide +kernel
theorem dX4_read_114 : decode cX4_read 114 = .ok (.aload_n 0, 1) := by decide +kernel
theorem dX4_read_115 : decode cX4_read 115 = .ok (.iconst 1, 1) := by decide +kernel
theorem dX4_read_116 : decode cX4_read 116 = .ok (.putfield 19, 3) := by decide +kernel
theorem dX4_read_119 : decode cX4_read 119 = .ok (.aload_n 0, 1) := by decide +kernel
theorem dX4_read_120 : decode cX4_read 120 = .ok (.invokevirtual 38, 3) := by decide +kernel
theorem dX4_read_123 : decode cX4_read 123 = .ok (.ifCond .eq 14, 3) := by decide +kernel
theorem dX4_read_126 : decode cX4_read 126 = .ok (.aload_n 0, 1) := by decide +kernel
theorem dX4_read_127 : decode cX4_read 127 = .ok (.invokevirtual 49, 3) := by decide +kernel
theorem dX4_read_130 : decode cX4_read 130 = .ok (.ifCond .eq 7, 3) := by decide +kernel
theorem dX4_read_133 : decode cX4_read 133 = .ok (.iconst 1, 1) := by decide +kernel
theorem dX4_read_134 : decode cX4_read 134 = .ok (.goto 4, 3) := by decide +kernel
theorem dX4_read_137 : decode cX4_read 137 = .ok (.iconst 0, 1) := by decide +kernel
theorem dX4_read_138 : decode cX4_read 138 = .ok (.istore_n 1, 1) := by decide +kernel
theorem dX4_read_139 : decode cX4_read 139 = .ok (.goto 123, 3) := by decide +kernel
theorem dX4_read_142 : decode cX4_read 142 = .ok (.aload_n 0, 1) := by decide +kernel
theorem dX4_read_143 : decode cX4_read 143 = .ok (.iconst 1, 1) := by decide +kernel
theorem dX4_read_144 : decode cX4_read 144 = .ok (.putfield 19, 3) := by decide +kernel
theorem dX4_read_147 : decode cX4_read 147 = .ok (.aload_n 0, 1) := by decide +kernel
theorem dX4_read_148 : decode cX4_read 148 = .ok (.invokevirtual 38, 3) := by decide +kernel
theorem dX4_read_151 : decode cX4_read 151 = .ok (.ifCond .eq 31, 3) := by decide +kernel
theorem dX4_read_154 : decode cX4_read 154 = .ok (.aload_n 0, 1) := by decide +kernel
theorem dX4_read_155 : decode cX4_read 155 = .ok (.sipush 204, 3) := by decide +kernel
theorem dX4_read_158 : decode cX4_read 158 = .ok (.invokevirtual 42, 3) := by decide +kernel
theorem dX4_read_161 : decode cX4_read 161 = .ok (.ifCond .eq 21, 3) := by decide +kernel
theorem dX4_read_164 : decode cX4_read 164 = .ok (.aload_n 0, 1) := by decide +kernel
theorem dX4_read_165 : decode cX4_read 165 = .ok (.invokevirtual 52, 3) := by decide +kernel
theorem dX4_read_168 : decode cX4_read 168 = .ok (.ifCond .eq 14, 3) := by decide +kernel
theorem dX4_read_171 : decode cX4_read 171 = .ok (.aload_n 0, 1) := by decide +kernel
theorem dX4_read_172 : decode cX4_read 172 = .ok (.invokevirtual 49, 3) := by decide +kernel
theorem dX4_read_175 : decode cX4_read 175 = .ok (.ifCond .eq 7, 3) := by decide +kernel
theorem dX4_read_178 : decode cX4_read 178 = .ok (.iconst 1, 1) := by decide +kernel
theorem dX4_read_179 : decode cX4_read 179 = .ok (.goto 4, 3) := by decide +kernel
theorem dX4_read_182 : decode cX4_read 182 = .ok (.iconst 0, 1) := by decide +kernel
theorem dX4_read_183 : decode cX4_read 183 = .ok (.istore_n 1, 1) := by decide +kernel
theorem dX4_read_184 : decode cX4_read 184 = .ok (.goto 78, 3) := by decide +kernel
theorem dX4_read_187 : decode cX4_read 187 = .ok (.aload_n 0, 1) := by decide +kernel
theorem dX4_read_188 : decode cX4_read 188 = .ok (.iconst 1, 1) := by decide +kernel
theorem dX4_read_189 : decode cX4_read 189 = .ok (.putfield 19, 3) := by decide +kernel
theorem dX4_read_192 : decode cX4_read 192 = .ok (.aload_n 0, 1) := by decide +kernel
theorem dX4_read_193 : decode cX4_read 193 = .ok (.invokevirtual 46, 3) := by decide +kernel
theorem dX4_read_196 : decode cX4_read 196 = .ok (.ifCond .eq 61, 3) := by decide +kernel
theorem dX4_read_199 : decode cX4_read 199 = .ok (.aload_n 0, 1) := by decide +kernel
theorem dX4_read_200 : decode cX4_read 200 = .ok (.sipush 206, 3) := by decide +kernel
theorem dX4_read_203 : decode cX4_read 203 = .ok (.invokevirtual 42, 3) := by decide +kernel
theorem dX4_read_206 : decode cX4_read 206 = .ok (.ifCond .eq 51, 3) := by decide +kernel
theorem dX4_read_209 : decode cX4_read 209 = .ok (.aload_n 0, 1) := by decide +kernel
theorem dX4_read_210 : decode cX4_read 210 = .ok (.invokevirtual 38, 3) := by decide +kernel
theorem dX4_read_213 : decode cX4_read 213 = .ok (.ifCond .eq 44, 3) := by decide +kernel
theorem dX4_read_216 : decode cX4_read 216 = .ok (.aload_n 0, 1) := by decide +kernel
theorem dX4_read_217 : decode cX4_read 217 = .ok (.bipush 44, 2) := by decide +kernel
theorem dX4_read_219 : decode cX4_read 219 = .ok (.invokevirtual 42, 3) := by decide +kernel
theorem dX4_read_222 : decode cX4_read 222 = .ok (.ifCond .eq 10, 3) := by decide +kernel
theorem dX4_read_225 : decode cX4_read 225 = .ok (.aload_n 0, 1) := by decide +kernel
theorem dX4_read_226 : decode cX4_read 226 = .ok (.invokevirtual 38, 3) := by decide +kernel
theorem dX4_read_229 : decode cX4_read 229 = .ok (.ifCond .eq 28, 3) := by decide +kernel
theorem dX4_read_232 : decode cX4_read 232 = .ok (.aload_n 0, 1) := by decide +kernel
theorem dX4_read_233 : decode cX4_read 233 = .ok (.invokevirtual 49, 3) := by decide +kernel
theorem dX4_read_236 : decode cX4_read 236 = .ok (.ifCond .eq 21, 3) := by decide +kernel
theorem dX4_read_239 : decode cX4_read 239 = .ok (.aload_n 0, 1) := by decide +kernel
theorem dX4_read_240 : decode cX4_read 240 = .ok (.invokevirtual 55, 3) := by decide +kernel
theorem dX4_read_243 : decode cX4_read 243 = .ok (.ifCond .eq 14, 3) := by decide +kernel
theorem dX4_read_246 : decode cX4_read 246 = .ok (.aload_n 0, 1) := by decide +kernel
theorem dX4_read_247 : decode cX4_read 247 = .ok (.invokevirtual 58, 3) := by decide +kernel
theorem dX4_read_250 : decode cX4_read 250 = .ok (.ifCond .eq 7, 3) := by decide +kernel
theorem dX4_read_253 : decode cX4_read 253 = .ok (.iconst 1, 1) := by decide +kernel
theorem dX4_read_254 : decode cX4_read 254 = .ok (.goto 4, 3) := by decide +kernel
theorem dX4_read_257 : decode cX4_read 257 = .ok (.iconst 0, 1) := by decide +kernel
theorem dX4_read_258 : decode cX4_read 258 = .ok (.istore_n 1, 1) := by decide +kernel
theorem dX4_read_259 : decode cX4_read 259 = .ok (.goto 3, 3) := by decide +kernel
theorem dX4_read_262 : decode cX4_read 262 = .ok (.iload_n 1, 1) := by decide +kernel
theorem dX4_read_263 : decode cX4_read 263 = .ok (.ifCond .eq 15, 3) := by decide +kernel
theorem dX4_read_266 : decode cX4_read 266 = .ok (.aload_n 0, 1) := by decide +kernel
theorem dX4_read_267 : decode cX4_read 267 = .ok (.iconst 0, 1) := by decide +kernel
theorem dX4_read_268 : decode cX4_read 268 = .ok (.invokevirtual 61, 3) := by decide +kernel
theorem dX4_read_271 : decode cX4_read 271 = .ok (.ifCond .eq 7, 3) := by decide +kernel
theorem dX4_read_274 : decode cX4_read 274 = .ok (.iconst 1, 1) := by decide +kernel
theorem dX4_read_275 : decode cX4_read 275 = .ok (.goto 4, 3) := by decide +kernel
theorem dX4_read_278 : decode cX4_read 278 = .ok (.iconst 0, 1) := by decide +kernel
theorem dX4_read_279 : decode cX4_read 279 = .ok (.istore_n 1, 1) := by decide +kernel
theorem dX4_read_280 : decode cX4_read 280 = .ok (.iload_n 1, 1) := by decide +kernel
theorem dX4_read_281 : decode cX4_read 281 = .ok (.ifCond .eq 7, 3) := by decide +kernel
theorem dX4_read_284 : decode cX4_read 284 = .ok (.iconst 0, 1) := by decide +kernel
theorem dX4_read_285 : decode cX4_read 285 = .ok (.goto 9, 3) := by decide +kernel
theorem dX4_read_288 : decode cX4_read 288 = .ok (.iconst (-1), 1) := by decide +kernel
theorem dX4_read_289 : decode cX4_read 289 = .ok (.aload_n 0, 1) := by decide +kernel
theorem dX4_read_290 : decode cX4_read 290 = .ok (.getfield 19, 3) := by decide +kernel
theorem dX4_read_293 : decode cX4_read 293 = .ok (.isub, 1) := by decide +kernel
theorem dX4_read_294 : decode cX4_read 294 = .ok (.ireturn, 1) := by decide +kernel
theorem b_X4_read_0 {h : Nat} {L : LVs} {st : List AV} {S : ST} {Q : Option AV → ST → Prop} (k : o_al L st S (fun L st S => o_c L st S (fun L st S => o_puti L st S (fun L st S => o_al L st S (fun L st S => o_get L st S (fun L st S => o_al L st S (fun L st S => o_get L st S (fun L st S => o_c L st S (fun L st S => V MX4_read h 14 L st S Q) (nI 0)) 4 0 (4, 9, 0)) 0) 4 1 (4, 6, 0)) 0) 4 2) (nI 0)) 0) : V MX4_read h 0 L st S Q :=
  v_aload_n dX4_read_0 rfl (fun L st S k => v_iconst dX4_read_1 (by decide) (fun L st S k => v_puti dX4_read_2 rfl iX4 tyX4_ok nmX4 LY_4 rfl (by decide) rfl fl_X4_19 rfl rfl (fun L st S k => v_aload_n dX4_read_5 rfl (fun L st S k => v_get dX4_read_6 rfl iX4 LY_4 rfl (by decide) rfl fl_X4_15 (fun L st S k => v_aload_n dX4_read_9 rfl (fun L st S k => v_get dX4_read_10 rfl iX4 LY_4 rfl (by decide) rfl fl_X4_9 (fun L st S k => v_iconst dX4_read_13 (by decide) (fun L st S k => k) k) k) k) k) k) k) k) k
theorem k_X4_read_14 {h : Nat} {L : LVs} {st : List AV} {S : ST} {Q Q' : Option AV → ST → Prop} {j : Nat} {a0 : AV} (hC : Ct MX9_kindAt h [vR 9 j, a0] S Q') (k : ∀ (r : Option AV) (S' : ST), Q' r S' → V MX4_read (h + 1) 17 L (r.toList ++ st) S' Q) (hj : j < NI 9) (hw : wid st ≤ 8) : V MX4_read (h + 1) 14 L (a0 :: vR 9 j :: st) S Q :=
  v_callV (M' := MX9_kindAt) (c := 9) (As := [a0]) dX4_read_14 ml_X4_23 im_X9_kindAt se_X9_kindAt in_X9 cd_X9_kindAt rfl LY_9 np_X9_kindAt (by decide) hw hj hC k
theorem k_X4_read_17 {h : Nat} {L : LVs} {st : List AV} {S : ST} {Q Q' : Option AV → ST → Prop} {j : Nat} {a0 : AV} (hC : Ct MX6_clear h [vR 6 j, a0] S Q') (k : ∀ (r : Option AV) (S' : ST), Q' r S' → V MX4_read (h + 1) 20 L (r.toList ++ st) S' Q) (hj : j < NI 6) (hw : wid st ≤ 8) : V MX4_read (h + 1) 17 L (a0 :: vR 6 j :: st) S Q :=
  v_callV (M' := MX6_clear) (c := 6) (As := [a0]) dX4_read_17 ml_X4_29 im_X6_clear se_X6_clear in_X6 cd_X6_clear rfl LY_6 np_X6_clear (by decide) hw hj hC k
theorem b_X4_read_20 {h : Nat} {L : LVs} {st : List AV} {S : ST} {Q : Option AV → ST → Prop} (k : o_c L st S (fun L st S => o_is L st S (fun L st S => o_al L st S (fun L st S => o_get L st S (fun L st S => o_get L st S (fun L st S => t_sw L st S [((nI 200), fun L st S => V MX4_read h 68 L st S Q), ((nI 201), fun L st S => V MX4_read h 68 L st S Q), ((nI 202), fun L st S => V MX4_read h 114 L st S Q), ((nI 203), fun L st S => V MX4_read h 142 L st S Q), ((nI 204), fun L st S => V MX4_read h 262 L st S Q), ((nI 205), fun L st S => V MX4_read h 187 L st S Q)] (fun L st S => V MX4_read h 262 L st S Q)) 6 8 (0, 0, 0)) 4 1 (4, 6, 0)) 0) 1) (nI 0)) : V MX4_read h 20 L st S Q :=
  v_iconst dX4_read_20 (by decide) (fun L st S k => v_istore_n dX4_read_21 rfl (by decide) (fun L st S k => v_aload_n dX4_read_22 rfl (fun L st S k => v_get dX4_read_23 rfl iX4 LY_4 rfl (by decide) rfl fl_X4_15 (fun L st S k => v_get dX4_read_26 rfl iX6 LY_6 rfl (by decide) rfl fl_X4_35 (fun L st S k => w_tsw [((nI 200), 68), ((nI 201), 68), ((nI 202), 114), ((nI 203), 142), ((nI 204), 262), ((nI 205), 187)] dX4_read_29 (n := 6) (by decide) rfl (by decide) (by decide) (by decide) k) k) k) k) k) k
theorem b_X4_read_68 {h : Nat} {L : LVs} {st : List AV} {S : ST} {Q : Option AV → ST → Prop} (k : o_al L st S (fun L st S => o_c L st S (fun L st S => o_puti L st S (fun L st S => o_al L st S (fun L st S => V MX4_read h 74 L st S Q) 0) 4 2) (nI 1)) 0) : V MX4_read h 68 L st S Q :=
  v_aload_n dX4_read_68 rfl (fun L st S k => v_iconst dX4_read_69 (by decide) (fun L st S k => v_puti dX4_read_70 rfl iX4 tyX4_ok nmX4 LY_4 rfl (by decide) rfl fl_X4_19 rfl rfl (fun L st S k => v_aload_n dX4_read_73 rfl (fun L st S k => k) k) k) k) k
theorem k_X4_read_74 {h : Nat} {L : LVs} {st : List AV} {S : ST} {Q Q' : Option AV → ST → Prop} {j : Nat} (hC : Ct MX4_readTable h [vR 4 j] S Q') (k : ∀ (r : Option AV) (S' : ST), Q' r S' → V MX4_read (h + 1) 77 L (r.toList ++ st) S' Q) (hj : j < NI 4) (hw : wid st ≤ 8) : V MX4_read (h + 1) 74 L (vR 4 j :: st) S Q :=
  v_callV (M' := MX4_readTable) (c := 4) (As := []) dX4_read_74 ml_X4_38 im_X4_readTable se_X4_readTable in_X4 cd_X4_readTable rfl LY_4 np_X4_readTable (by decide) hw hj hC k
theorem b_X4_read_77 {h : Nat} {L : LVs} {st : List AV} {S : ST} {Q : Option AV → ST → Prop} (k : t_1 L st S (fun x => x = nI 0) (fun L st S => V MX4_read h 109 L st S Q) (fun L st S => V MX4_read h 80 L st S Q)) : V MX4_read h 77 L st S Q :=
  w_if_eq dX4_read_77 (by decide) rfl k
theorem b_X4_read_80 {h : Nat} {L : LVs} {st : List AV} {S : ST} {Q : Option AV → ST → Prop} (k : o_al L st S (fun L st S => o_c L st S (fun L st S => V MX4_read h 83 L st S Q) (nI 40)) 0) : V MX4_read h 80 L st S Q :=
  v_aload_n dX4_read_80 rfl (fun L st S k => v_bipush dX4_read_81 (by decide) (fun L st S k => k) k) k
theorem k_X4_read_83 {h : Nat} {L : LVs} {st : List AV} {S : ST} {Q Q' : Option AV → ST → Prop} {j : Nat} {a0 : AV} (hC : Ct MX4_take h [vR 4 j, a0] S Q') (k : ∀ (r : Option AV) (S' : ST), Q' r S' → V MX4_read (h + 1) 86 L (r.toList ++ st) S' Q) (hj : j < NI 4) (hw : wid st ≤ 8) : V MX4_read (h + 1) 83 L (a0 :: vR 4 j :: st) S Q :=
  v_callV (M' := MX4_take) (c := 4) (As := [a0]) dX4_read_83 ml_X4_42 im_X4_take se_X4_take in_X4 cd_X4_take rfl LY_4 np_X4_take (by decide) hw hj hC k
theorem b_X4_read_86 {h : Nat} {L : LVs} {st : List AV} {S : ST} {Q : Option AV → ST → Prop} (k : t_1 L st S (fun x => x = nI 0) (fun L st S => V MX4_read h 109 L st S Q) (fun L st S => V MX4_read h 89 L st S Q)) : V MX4_read h 86 L st S Q :=
  w_if_eq dX4_read_86 (by decide) rfl k
theorem b_X4_read_89 {h : Nat} {L : LVs} {st : List AV} {S : ST} {Q : Option AV → ST → Prop} (k : o_al L st S (fun L st S => V MX4_read h 90 L st S Q) 0) : V MX4_read h 89 L st S Q :=
  v_aload_n dX4_read_89 rfl (fun L st S k => k) k
theorem k_X4_read_90 {h : Nat} {L : LVs} {st : List AV} {S : ST} {Q Q' : Option AV → ST → Prop} {j : Nat} (hC : Ct MX4_readParts h [vR 4 j] S Q') (k : ∀ (r : Option AV) (S' : ST), Q' r S' → V MX4_read (h + 1) 93 L (r.toList ++ st) S' Q) (hj : j < NI 4) (hw : wid st ≤ 8) : V MX4_read (h + 1) 90 L (vR 4 j :: st) S Q :=
  v_callV (M' := MX4_readParts) (c := 4) (As := []) dX4_read_90 ml_X4_46 im_X4_readParts se_X4_readParts in_X4 cd_X4_readParts rfl LY_4 np_X4_readParts (by decide) hw hj hC k
theorem b_X4_read_93 {h : Nat} {L : LVs} {st : List AV} {S : ST} {Q : Option AV → ST → Prop} (k : t_1 L st S (fun x => x = nI 0) (fun L st S => V MX4_read h 109 L st S Q) (fun L st S => V MX4_read h 96 L st S Q)) : V MX4_read h 93 L st S Q :=
  w_if_eq dX4_read_93 (by decide) rfl k
theorem b_X4_read_96 {h : Nat} {L : LVs} {st : List AV} {S : ST} {Q : Option AV → ST → Prop} (k : o_al L st S (fun L st S => o_c L st S (fun L st S => V MX4_read h 99 L st S Q) (nI 41)) 0) : V MX4_read h 96 L st S Q :=
  v_aload_n dX4_read_96 rfl (fun L st S k => v_bipush dX4_read_97 (by decide) (fun L st S k => k) k) k
theorem k_X4_read_99 {h : Nat} {L : LVs} {st : List AV} {S : ST} {Q Q' : Option AV → ST → Prop} {j : Nat} {a0 : AV} (hC : Ct MX4_take h [vR 4 j, a0] S Q') (k : ∀ (r : Option AV) (S' : ST), Q' r S' → V MX4_read (h + 1) 102 L (r.toList ++ st) S' Q) (hj : j < NI 4) (hw : wid st ≤ 8) : V MX4_read (h + 1) 99 L (a0 :: vR 4 j :: st) S Q :=
  v_callV (M' := MX4_take) (c := 4) (As := [a0]) dX4_read_99 ml_X4_42 im_X4_take se_X4_take in_X4 cd_X4_take rfl LY_4 np_X4_take (by decide) hw hj hC k
theorem b_X4_read_102 {h : Nat} {L : LVs} {st : List AV} {S : ST} {Q : Option AV → ST → Prop} (k : t_1 L st S (fun x => x = nI 0) (fun L st S => V MX4_read h 109 L st S Q) (fun L st S => V MX4_read h 105 L st S Q)) : V MX4_read h 102 L st S Q :=
  w_if_eq dX4_read_102 (by decide) rfl k
theorem b_X4_read_105 {h : Nat} {L : LVs} {st : List AV} {S : ST} {Q : Option AV → ST → Prop} (k : o_c L st S (fun L st S => V MX4_read h 110 L st S Q) (nI 1)) : V MX4_read h 105 L st S Q :=
  v_iconst dX4_read_105 (by decide) (fun L st S k => v_goto dX4_read_106 (by decide) k) k
theorem b_X4_read_109 {h : Nat} {L : LVs} {st : List AV} {S : ST} {Q : Option AV → ST → Prop} (k : o_c L st S (fun L st S => V MX4_read h 110 L st S Q) (nI 0)) : V MX4_read h 109 L st S Q :=
  v_iconst dX4_read_109 (by decide) (fun L st S k => k) k
theorem b_X4_read_110 {h : Nat} {L : LVs} {st : List AV} {S : ST} {Q : Option AV → ST → Prop} (k : o_is L st S (fun L st S => V MX4_read h 262 L st S Q) 1) : V MX4_read h 110 L st S Q :=
  v_istore_n dX4_read_110 rfl (by decide) (fun L st S k => v_goto dX4_read_111 (by decide) k) k
theorem b_X4_read_114 {h : Nat} {L : LVs} {st : List AV} {S : ST} {Q : Option AV → ST → Prop} (k : o_al L st S (fun L st S => o_c L st S (fun L st S => o_puti L st S (fun L st S => o_al L st S (fun L st S => V MX4_read h 120 L st S Q) 0) 4 2) (nI 1)) 0) : V MX4_read h 114 L st S Q :=
  v_aload_n dX4_read_114 rfl (fun L st S k => v_iconst dX4_read_115 (by decide) (fun L st S k => v_puti dX4_read_116 rfl iX4 tyX4_ok nmX4 LY_4 rfl (by decide) rfl fl_X4_19 rfl rfl (fun L st S k => v_aload_n dX4_read_119 rfl (fun L st S k => k) k) k) k) k
theorem k_X4_read_120 {h : Nat} {L : LVs} {st : List AV} {S : ST} {Q Q' : Option AV → ST → Prop} {j : Nat} (hC : Ct MX4_readTable h [vR 4 j] S Q') (k : ∀ (r : Option AV) (S' : ST), Q' r S' → V MX4_read (h + 1) 123 L (r.toList ++ st) S' Q) (hj : j < NI 4) (hw : wid st ≤ 8) : V MX4_read (h + 1) 120 L (vR 4 j :: st) S Q :=
  v_callV (M' := MX4_readTable) (c := 4) (As := []) dX4_read_120 ml_X4_38 im_X4_readTable se_X4_readTable in_X4 cd_X4_readTable rfl LY_4 np_X4_readTable (by decide) hw hj hC k
theorem b_X4_read_123 {h : Nat} {L : LVs} {st : List AV} {S : ST} {Q : Option AV → ST → Prop} (k : t_1 L st S (fun x => x = nI 0) (fun L st S => V MX4_read h 137 L st S Q) (fun L st S => V MX4_read h 126 L st S Q)) : V MX4_read h 123 L st S Q :=
  w_if_eq dX4_read_123 (by decide) rfl k
theorem b_X4_read_126 {h : Nat} {L : LVs} {st : List AV} {S : ST} {Q : Option AV → ST → Prop} (k : o_al L st S (fun L st S => V MX4_read h 127 L st S Q) 0) : V MX4_read h 126 L st S Q :=
  v_aload_n dX4_read_126 rfl (fun L st S k => k) k
theorem k_X4_read_127 {h : Nat} {L : LVs} {st : List AV} {S : ST} {Q Q' : Option AV → ST → Prop} {j : Nat} (hC : Ct MX4_readWhere h [vR 4 j] S Q') (k : ∀ (r : Option AV) (S' : ST), Q' r S' → V MX4_read (h + 1) 130 L (r.toList ++ st) S' Q) (hj : j < NI 4) (hw : wid st ≤ 8) : V MX4_read (h + 1) 127 L (vR 4 j :: st) S Q :=
  v_callV (M' := MX4_readWhere) (c := 4) (As := []) dX4_read_127 ml_X4_49 im_X4_readWhere se_X4_readWhere in_X4 cd_X4_readWhere rfl LY_4 np_X4_readWhere (by decide) hw hj hC k
theorem b_X4_read_130 {h : Nat} {L : LVs} {st : List AV} {S : ST} {Q : Option AV → ST → Prop} (k : t_1 L st S (fun x => x = nI 0) (fun L st S => V MX4_read h 137 L st S Q) (fun L st S => V MX4_read h 133 L st S Q)) : V MX4_read h 130 L st S Q :=
  w_if_eq dX4_read_130 (by decide) rfl k
theorem b_X4_read_133 {h : Nat} {L : LVs} {st : List AV} {S : ST} {Q : Option AV → ST → Prop} (k : o_c L st S (fun L st S => V MX4_read h 138 L st S Q) (nI 1)) : V MX4_read h 133 L st S Q :=
  v_iconst dX4_read_133 (by decide) (fun L st S k => v_goto dX4_read_134 (by decide) k) k
theorem b_X4_read_137 {h : Nat} {L : LVs} {st : List AV} {S : ST} {Q : Option AV → ST → Prop} (k : o_c L st S (fun L st S => V MX4_read h 138 L st S Q) (nI 0)) : V MX4_read h 137 L st S Q :=
  v_iconst dX4_read_137 (by decide) (fun L st S k => k) k
theorem b_X4_read_138 {h : Nat} {L : LVs} {st : List AV} {S : ST} {Q : Option AV → ST → Prop} (k : o_is L st S (fun L st S => V MX4_read h 262 L st S Q) 1) : V MX4_read h 138 L st S Q :=
  v_istore_n dX4_read_138 rfl (by decide) (fun L st S k => v_goto dX4_read_139 (by decide) k) k
theorem b_X4_read_142 {h : Nat} {L : LVs} {st : List AV} {S : ST} {Q : Option AV → ST → Prop} (k : o_al L st S (fun L st S => o_c L st S (fun L st S => o_puti L st S (fun L st S => o_al L st S (fun L st S => V MX4_read h 148 L st S Q) 0) 4 2) (nI 1)) 0) : V MX4_read h 142 L st S Q :=
  v_aload_n dX4_read_142 rfl (fun L st S k => v_iconst dX4_read_143 (by decide) (fun L st S k => v_puti dX4_read_144 rfl iX4 tyX4_ok nmX4 LY_4 rfl (by decide) rfl fl_X4_19 rfl rfl (fun L st S k => v_aload_n dX4_read_147 rfl (fun L st S k => k) k) k) k) k
theorem k_X4_read_148 {h : Nat} {L : LVs} {st : List AV} {S : ST} {Q Q' : Option AV → ST → Prop} {j : Nat} (hC : Ct MX4_readTable h [vR 4 j] S Q') (k : ∀ (r : Option AV) (S' : ST), Q' r S' → V MX4_read (h + 1) 151 L (r.toList ++ st) S' Q) (hj : j < NI 4) (hw : wid st ≤ 8) : V MX4_read (h + 1) 148 L (vR 4 j :: st) S Q :=
  v_callV (M' := MX4_readTable) (c := 4) (As := []) dX4_read_148 ml_X4_38 im_X4_readTable se_X4_readTable in_X4 cd_X4_readTable rfl LY_4 np_X4_readTable (by decide) hw hj hC k
theorem b_X4_read_151 {h : Nat} {L : LVs} {st : List AV} {S : ST} {Q : Option AV → ST → Prop} (k : t_1 L st S (fun x => x = nI 0) (fun L st S => V MX4_read h 182 L st S Q) (fun L st S => V MX4_read h 154 L st S Q)) : V MX4_read h 151 L st S Q :=
  w_if_eq dX4_read_151 (by decide) rfl k
theorem b_X4_read_154 {h : Nat} {L : LVs} {st : List AV} {S : ST} {Q : Option AV → ST → Prop} (k : o_al L st S (fun L st S => o_c L st S (fun L st S => V MX4_read h 158 L st S Q) (nI 204)) 0) : V MX4_read h 154 L st S Q :=
  v_aload_n dX4_read_154 rfl (fun L st S k => v_sipush dX4_read_155 (by decide) (fun L st S k => k) k) k
theorem k_X4_read_158 {h : Nat} {L : LVs} {st : List AV} {S : ST} {Q Q' : Option AV → ST → Prop} {j : Nat} {a0 : AV} (hC : Ct MX4_take h [vR 4 j, a0] S Q') (k : ∀ (r : Option AV) (S' : ST), Q' r S' → V MX4_read (h + 1) 161 L (r.toList ++ st) S' Q) (hj : j < NI 4) (hw : wid st ≤ 8) : V MX4_read (h + 1) 158 L (a0 :: vR 4 j :: st) S Q :=
  v_callV (M' := MX4_take) (c := 4) (As := [a0]) dX4_read_158 ml_X4_42 im_X4_take se_X4_take in_X4 cd_X4_take rfl LY_4 np_X4_take (by decide) hw hj hC k
theorem b_X4_read_161 {h : Nat} {L : LVs} {st : List AV} {S : ST} {Q : Option AV → ST → Prop} (k : t_1 L st S (fun x => x = nI 0) (fun L st S => V MX4_read h 182 L st S Q) (fun L st S => V MX4_read h 164 L st S Q)) : V MX4_read h 161 L st S Q :=
  w_if_eq dX4_read_161 (by decide) rfl k
theorem b_X4_read_164 {h : Nat} {L : LVs} {st : List AV} {S : ST} {Q : Option AV → ST → Prop} (k : o_al L st S (fun L st S => V MX4_read h 165 L st S Q) 0) : V MX4_read h 164 L st S Q :=
  v_aload_n dX4_read_164 rfl (fun L st S k => k) k
theorem k_X4_read_165 {h : Nat} {L : LVs} {st : List AV} {S : ST} {Q Q' : Option AV → ST → Prop} {j : Nat} (hC : Ct MX4_readAssignment h [vR 4 j] S Q') (k : ∀ (r : Option AV) (S' : ST), Q' r S' → V MX4_read (h + 1) 168 L (r.toList ++ st) S' Q) (hj : j < NI 4) (hw : wid st ≤ 8) : V MX4_read (h + 1) 165 L (vR 4 j :: st) S Q :=
  v_callV (M' := MX4_readAssignment) (c := 4) (As := []) dX4_read_165 ml_X4_52 im_X4_readAssignment se_X4_readAssignment in_X4 cd_X4_readAssignment rfl LY_4 np_X4_readAssignment (by decide) hw hj hC k
theorem b_X4_read_168 {h : Nat} {L : LVs} {st : List AV} {S : ST} {Q : Option AV → ST → Prop} (k : t_1 L st S (fun x => x = nI 0) (fun L st S => V MX4_read h 182 L st S Q) (fun L st S => V MX4_read h 171 L st S Q)) : V MX4_read h 168 L st S Q :=
  w_if_eq dX4_read_168 (by decide) rfl k
theorem b_X4_read_171 {h : Nat} {L : LVs} {st : List AV} {S : ST} {Q : Option AV → ST → Prop} (k : o_al L st S (fun L st S => V MX4_read h 172 L st S Q) 0) : V MX4_read h 171 L st S Q :=
  v_aload_n dX4_read_171 rfl (fun L st S k => k) k
theorem k_X4_read_172 {h : Nat} {L : LVs} {st : List AV} {S : ST} {Q Q' : Option AV → ST → Prop} {j : Nat} (hC : Ct MX4_readWhere h [vR 4 j] S Q') (k : ∀ (r : Option AV) (S' : ST), Q' r S' → V MX4_read (h + 1) 175 L (r.toList ++ st) S' Q) (hj : j < NI 4) (hw : wid st ≤ 8) : V MX4_read (h + 1) 172 L (vR 4 j :: st) S Q :=
  v_callV (M' := MX4_readWhere) (c := 4) (As := []) dX4_read_172 ml_X4_49 im_X4_readWhere se_X4_readWhere in_X4 cd_X4_readWhere rfl LY_4 np_X4_readWhere (by decide) hw hj hC k
theorem b_X4_read_175 {h : Nat} {L : LVs} {st : List AV} {S : ST} {Q : Option AV → ST → Prop} (k : t_1 L st S (fun x => x = nI 0) (fun L st S => V MX4_read h 182 L st S Q) (fun L st S => V MX4_read h 178 L st S Q)) : V MX4_read h 175 L st S Q :=
  w_if_eq dX4_read_175 (by decide) rfl k
theorem b_X4_read_178 {h : Nat} {L : LVs} {st : List AV} {S : ST} {Q : Option AV → ST → Prop} (k : o_c L st S (fun L st S => V MX4_read h 183 L st S Q) (nI 1)) : V MX4_read h 178 L st S Q :=
  v_iconst dX4_read_178 (by decide) (fun L st S k => v_goto dX4_read_179 (by decide) k) k
theorem b_X4_read_182 {h : Nat} {L : LVs} {st : List AV} {S : ST} {Q : Option AV → ST → Prop} (k : o_c L st S (fun L st S => V MX4_read h 183 L st S Q) (nI 0)) : V MX4_read h 182 L st S Q :=
  v_iconst dX4_read_182 (by decide) (fun L st S k => k) k
theorem b_X4_read_183 {h : Nat} {L : LVs} {st : List AV} {S : ST} {Q : Option AV → ST → Prop} (k : o_is L st S (fun L st S => V MX4_read h 262 L st S Q) 1) : V MX4_read h 183 L st S Q :=
  v_istore_n dX4_read_183 rfl (by decide) (fun L st S k => v_goto dX4_read_184 (by decide) k) k
theorem b_X4_read_187 {h : Nat} {L : LVs} {st : List AV} {S : ST} {Q : Option AV → ST → Prop} (k : o_al L st S (fun L st S => o_c L st S (fun L st S => o_puti L st S (fun L st S => o_al L st S (fun L st S => V MX4_read h 193 L st S Q) 0) 4 2) (nI 1)) 0) : V MX4_read h 187 L st S Q :=
  v_aload_n dX4_read_187 rfl (fun L st S k => v_iconst dX4_read_188 (by decide) (fun L st S k => v_puti dX4_read_189 rfl iX4 tyX4_ok nmX4 LY_4 rfl (by decide) rfl fl_X4_19 rfl rfl (fun L st S k => v_aload_n dX4_read_192 rfl (fun L st S k => k) k) k) k) k
theorem k_X4_read_193 {h : Nat} {L : LVs} {st : List AV} {S : ST} {Q Q' : Option AV → ST → Prop} {j : Nat} (hC : Ct MX4_readParts h [vR 4 j] S Q') (k : ∀ (r : Option AV) (S' : ST), Q' r S' → V MX4_read (h + 1) 196 L (r.toList ++ st) S' Q) (hj : j < NI 4) (hw : wid st ≤ 8) : V MX4_read (h + 1) 193 L (vR 4 j :: st) S Q :=
  v_callV (M' := MX4_readParts) (c := 4) (As := []) dX4_read_193 ml_X4_46 im_X4_readParts se_X4_readParts in_X4 cd_X4_readParts rfl LY_4 np_X4_readParts (by decide) hw hj hC k
theorem b_X4_read_196 {h : Nat} {L : LVs} {st : List AV} {S : ST} {Q : Option AV → ST → Prop} (k : t_1 L st S (fun x => x = nI 0) (fun L st S => V MX4_read h 257 L st S Q) (fun L st S => V MX4_read h 199 L st S Q)) : V MX4_read h 196 L st S Q :=
  w_if_eq dX4_read_196 (by decide) rfl k
theorem b_X4_read_199 {h : Nat} {L : LVs} {st : List AV} {S : ST} {Q : Option AV → ST → Prop} (k : o_al L st S (fun L st S => o_c L st S (fun L st S => V MX4_read h 203 L st S Q) (nI 206)) 0) : V MX4_read h 199 L st S Q :=
  v_aload_n dX4_read_199 rfl (fun L st S k => v_sipush dX4_read_200 (by decide) (fun L st S k => k) k) k
theorem k_X4_read_203 {h : Nat} {L : LVs} {st : List AV} {S : ST} {Q Q' : Option AV → ST → Prop} {j : Nat} {a0 : AV} (hC : Ct MX4_take h [vR 4 j, a0] S Q') (k : ∀ (r : Option AV) (S' : ST), Q' r S' → V MX4_read (h + 1) 206 L (r.toList ++ st) S' Q) (hj : j < NI 4) (hw : wid st ≤ 8) : V MX4_read (h + 1) 203 L (a0 :: vR 4 j :: st) S Q :=
  v_callV (M' := MX4_take) (c := 4) (As := [a0]) dX4_read_203 ml_X4_42 im_X4_take se_X4_take in_X4 cd_X4_take rfl LY_4 np_X4_take (by decide) hw hj hC k
theorem b_X4_read_206 {h : Nat} {L : LVs} {st : List AV} {S : ST} {Q : Option AV → ST → Prop} (k : t_1 L st S (fun x => x = nI 0) (fun L st S => V MX4_read h 257 L st S Q) (fun L st S => V MX4_read h 209 L st S Q)) : V MX4_read h 206 L st S Q :=
  w_if_eq dX4_read_206 (by decide) rfl k
theorem b_X4_read_209 {h : Nat} {L : LVs} {st : List AV} {S : ST} {Q : Option AV → ST → Prop} (k : o_al L st S (fun L st S => V MX4_read h 210 L st S Q) 0) : V MX4_read h 209 L st S Q :=
  v_aload_n dX4_read_209 rfl (fun L st S k => k) k
theorem k_X4_read_210 {h : Nat} {L : LVs} {st : List AV} {S : ST} {Q Q' : Option AV → ST → Prop} {j : Nat} (hC : Ct MX4_readTable h [vR 4 j] S Q') (k : ∀ (r : Option AV) (S' : ST), Q' r S' → V MX4_read (h + 1) 213 L (r.toList ++ st) S' Q) (hj : j < NI 4) (hw : wid st ≤ 8) : V MX4_read (h + 1) 210 L (vR 4 j :: st) S Q :=
  v_callV (M' := MX4_readTable) (c := 4) (As := []) dX4_read_210 ml_X4_38 im_X4_readTable se_X4_readTable in_X4 cd_X4_readTable rfl LY_4 np_X4_readTable (by decide) hw hj hC k
theorem b_X4_read_213 {h : Nat} {L : LVs} {st : List AV} {S : ST} {Q : Option AV → ST → Prop} (k : t_1 L st S (fun x => x = nI 0) (fun L st S => V MX4_read h 257 L st S Q) (fun L st S => V MX4_read h 216 L st S Q)) : V MX4_read h 213 L st S Q :=
  w_if_eq dX4_read_213 (by decide) rfl k
theorem b_X4_read_216 {h : Nat} {L : LVs} {st : List AV} {S : ST} {Q : Option AV → ST → Prop} (k : o_al L st S (fun L st S => o_c L st S (fun L st S => V MX4_read h 219 L st S Q) (nI 44)) 0) : V MX4_read h 216 L st S Q :=
  v_aload_n dX4_read_216 rfl (fun L st S k => v_bipush dX4_read_217 (by decide) (fun L st S k => k) k) k
theorem k_X4_read_219 {h : Nat} {L : LVs} {st : List AV} {S : ST} {Q Q' : Option AV → ST → Prop} {j : Nat} {a0 : AV} (hC : Ct MX4_take h [vR 4 j, a0] S Q') (k : ∀ (r : Option AV) (S' : ST), Q' r S' → V MX4_read (h + 1) 222 L (r.toList ++ st) S' Q) (hj : j < NI 4) (hw : wid st ≤ 8) : V MX4_read (h + 1) 219 L (a0 :: vR 4 j :: st) S Q :=
  v_callV (M' := MX4_take) (c := 4) (As := [a0]) dX4_read_219 ml_X4_42 im_X4_take se_X4_take in_X4 cd_X4_take rfl LY_4 np_X4_take (by decide) hw hj hC k
theorem b_X4_read_222 {h : Nat} {L : LVs} {st : List AV} {S : ST} {Q : Option AV → ST → Prop} (k : t_1 L st S (fun x => x = nI 0) (fun L st S => V MX4_read h 232 L st S Q) (fun L st S => V MX4_read h 225 L st S Q)) : V MX4_read h 222 L st S Q :=
  w_if_eq dX4_read_222 (by decide) rfl k
theorem b_X4_read_225 {h : Nat} {L : LVs} {st : List AV} {S : ST} {Q : Option AV → ST → Prop} (k : o_al L st S (fun L st S => V MX4_read h 226 L st S Q) 0) : V MX4_read h 225 L st S Q :=
  v_aload_n dX4_read_225 rfl (fun L st S k => k) k
theorem k_X4_read_226 {h : Nat} {L : LVs} {st : List AV} {S : ST} {Q Q' : Option AV → ST → Prop} {j : Nat} (hC : Ct MX4_readTable h [vR 4 j] S Q') (k : ∀ (r : Option AV) (S' : ST), Q' r S' → V MX4_read (h + 1) 229 L (r.toList ++ st) S' Q) (hj : j < NI 4) (hw : wid st ≤ 8) : V MX4_read (h + 1) 226 L (vR 4 j :: st) S Q :=
  v_callV (M' := MX4_readTable) (c := 4) (As := []) dX4_read_226 ml_X4_38 im_X4_readTable se_X4_readTable in_X4 cd_X4_readTable rfl LY_4 np_X4_readTable (by decide) hw hj hC k
theorem b_X4_read_229 {h : Nat} {L : LVs} {st : List AV} {S : ST} {Q : Option AV → ST → Prop} (k : t_1 L st S (fun x => x = nI 0) (fun L st S => V MX4_read h 257 L st S Q) (fun L st S => V MX4_read h 232 L st S Q)) : V MX4_read h 229 L st S Q :=
  w_if_eq dX4_read_229 (by decide) rfl k
theorem b_X4_read_232 {h : Nat} {L : LVs} {st : List AV} {S : ST} {Q : Option AV → ST → Prop} (k : o_al L st S (fun L st S => V MX4_read h 233 L st S Q) 0) : V MX4_read h 232 L st S Q :=
  v_aload_n dX4_read_232 rfl (fun L st S k => k) k
theorem k_X4_read_233 {h : Nat} {L : LVs} {st : List AV} {S : ST} {Q Q' : Option AV → ST → Prop} {j : Nat} (hC : Ct MX4_readWhere h [vR 4 j] S Q') (k : ∀ (r : Option AV) (S' : ST), Q' r S' → V MX4_read (h + 1) 236 L (r.toList ++ st) S' Q) (hj : j < NI 4) (hw : wid st ≤ 8) : V MX4_read (h + 1) 233 L (vR 4 j :: st) S Q :=
  v_callV (M' := MX4_readWhere) (c := 4) (As := []) dX4_read_233 ml_X4_49 im_X4_readWhere se_X4_readWhere in_X4 cd_X4_readWhere rfl LY_4 np_X4_readWhere (by decide) hw hj hC k
theorem b_X4_read_236 {h : Nat} {L : LVs} {st : List AV} {S : ST} {Q : Option AV → ST → Prop} (k : t_1 L st S (fun x => x = nI 0) (fun L st S => V MX4_read h 257 L st S Q) (fun L st S => V MX4_read h 239 L st S Q)) : V MX4_read h 236 L st S Q :=
  w_if_eq dX4_read_236 (by decide) rfl k
theorem b_X4_read_239 {h : Nat} {L : LVs} {st : List AV} {S : ST} {Q : Option AV → ST → Prop} (k : o_al L st S (fun L st S => V MX4_read h 240 L st S Q) 0) : V MX4_read h 239 L st S Q :=
  v_aload_n dX4_read_239 rfl (fun L st S k => k) k
theorem k_X4_read_240 {h : Nat} {L : LVs} {st : List AV} {S : ST} {Q Q' : Option AV → ST → Prop} {j : Nat} (hC : Ct MX4_readGroup h [vR 4 j] S Q') (k : ∀ (r : Option AV) (S' : ST), Q' r S' → V MX4_read (h + 1) 243 L (r.toList ++ st) S' Q) (hj : j < NI 4) (hw : wid st ≤ 8) : V MX4_read (h + 1) 240 L (vR 4 j :: st) S Q :=
  v_callV (M' := MX4_readGroup) (c := 4) (As := []) dX4_read_240 ml_X4_55 im_X4_readGroup se_X4_readGroup in_X4 cd_X4_readGroup rfl LY_4 np_X4_readGroup (by decide) hw hj hC k
theorem b_X4_read_243 {h : Nat} {L : LVs} {st : List AV} {S : ST} {Q : Option AV → ST → Prop} (k : t_1 L st S (fun x => x = nI 0) (fun L st S => V MX4_read h 257 L st S Q) (fun L st S => V MX4_read h 246 L st S Q)) : V MX4_read h 243 L st S Q :=
  w_if_eq dX4_read_243 (by decide) rfl k
theorem b_X4_read_246 {h : Nat} {L : LVs} {st : List AV} {S : ST} {Q : Option AV → ST → Prop} (k : o_al L st S (fun L st S => V MX4_read h 247 L st S Q) 0) : V MX4_read h 246 L st S Q :=
  v_aload_n dX4_read_246 rfl (fun L st S k => k) k
theorem k_X4_read_247 {h : Nat} {L : LVs} {st : List AV} {S : ST} {Q Q' : Option AV → ST → Prop} {j : Nat} (hC : Ct MX4_readOrder h [vR 4 j] S Q') (k : ∀ (r : Option AV) (S' : ST), Q' r S' → V MX4_read (h + 1) 250 L (r.toList ++ st) S' Q) (hj : j < NI 4) (hw : wid st ≤ 8) : V MX4_read (h + 1) 247 L (vR 4 j :: st) S Q :=
  v_callV (M' := MX4_readOrder) (c := 4) (As := []) dX4_read_247 ml_X4_58 im_X4_readOrder se_X4_readOrder in_X4 cd_X4_readOrder rfl LY_4 np_X4_readOrder (by decide) hw hj hC k
theorem b_X4_read_250 {h : Nat} {L : LVs} {st : List AV} {S : ST} {Q : Option AV → ST → Prop} (k : t_1 L st S (fun x => x = nI 0) (fun L st S => V MX4_read h 257 L st S Q) (fun L st S => V MX4_read h 253 L st S Q)) : V MX4_read h 250 L st S Q :=
  w_if_eq dX4_read_250 (by decide) rfl k
theorem b_X4_read_253 {h : Nat} {L : LVs} {st : List AV} {S : ST} {Q : Option AV → ST → Prop} (k : o_c L st S (fun L st S => V MX4_read h 258 L st S Q) (nI 1)) : V MX4_read h 253 L st S Q :=
  v_iconst dX4_read_253 (by decide) (fun L st S k => v_goto dX4_read_254 (by decide) k) k
theorem b_X4_read_257 {h : Nat} {L : LVs} {st : List AV} {S : ST} {Q : Option AV → ST → Prop} (k : o_c L st S (fun L st S => V MX4_read h 258 L st S Q) (nI 0)) : V MX4_read h 257 L st S Q :=
  v_iconst dX4_read_257 (by decide) (fun L st S k => k) k
theorem b_X4_read_258 {h : Nat} {L : LVs} {st : List AV} {S : ST} {Q : Option AV → ST → Prop} (k : o_is L st S (fun L st S => V MX4_read h 262 L st S Q) 1) : V MX4_read h 258 L st S Q :=
  v_istore_n dX4_read_258 rfl (by decide) (fun L st S k => v_goto dX4_read_259 (by decide) k) k
theorem b_X4_read_262 {h : Nat} {L : LVs} {st : List AV} {S : ST} {Q : Option AV → ST → Prop} (k : o_il L st S (fun L st S => t_1 L st S (fun x => x = nI 0) (fun L st S => V MX4_read h 278 L st S Q) (fun L st S => V MX4_read h 266 L st S Q)) 1) : V MX4_read h 262 L st S Q :=
  v_iload_n dX4_read_262 rfl (fun L st S k => w_if_eq dX4_read_263 (by decide) rfl k) k
theorem b_X4_read_266 {h : Nat} {L : LVs} {st : List AV} {S : ST} {Q : Option AV → ST → Prop} (k : o_al L st S (fun L st S => o_c L st S (fun L st S => V MX4_read h 268 L st S Q) (nI 0)) 0) : V MX4_read h 266 L st S Q :=
  v_aload_n dX4_read_266 rfl (fun L st S k => v_iconst dX4_read_267 (by decide) (fun L st S k => k) k) k
theorem k_X4_read_268 {h : Nat} {L : LVs} {st : List AV} {S : ST} {Q Q' : Option AV → ST → Prop} {j : Nat} {a0 : AV} (hC : Ct MX4_isNext h [vR 4 j, a0] S Q') (k : ∀ (r : Option AV) (S' : ST), Q' r S' → V MX4_read (h + 1) 271 L (r.toList ++ st) S' Q) (hj : j < NI 4) (hw : wid st ≤ 8) : V MX4_read (h + 1) 268 L (a0 :: vR 4 j :: st) S Q :=
  v_callV (M' := MX4_isNext) (c := 4) (As := [a0]) dX4_read_268 ml_X4_61 im_X4_isNext se_X4_isNext in_X4 cd_X4_isNext rfl LY_4 np_X4_isNext (by decide) hw hj hC k
theorem b_X4_read_271 {h : Nat} {L : LVs} {st : List AV} {S : ST} {Q : Option AV → ST → Prop} (k : t_1 L st S (fun x => x = nI 0) (fun L st S => V MX4_read h 278 L st S Q) (fun L st S => V MX4_read h 274 L st S Q)) : V MX4_read h 271 L st S Q :=
  w_if_eq dX4_read_271 (by decide) rfl k
theorem b_X4_read_274 {h : Nat} {L : LVs} {st : List AV} {S : ST} {Q : Option AV → ST → Prop} (k : o_c L st S (fun L st S => V MX4_read h 279 L st S Q) (nI 1)) : V MX4_read h 274 L st S Q :=
  v_iconst dX4_read_274 (by decide) (fun L st S k => v_goto dX4_read_275 (by decide) k) k
theorem b_X4_read_278 {h : Nat} {L : LVs} {st : List AV} {S : ST} {Q : Option AV → ST → Prop} (k : o_c L st S (fun L st S => V MX4_read h 279 L st S Q) (nI 0)) : V MX4_read h 278 L st S Q :=
  v_iconst dX4_read_278 (by decide) (fun L st S k => k) k
theorem b_X4_read_279 {h : Nat} {L : LVs} {st : List AV} {S : ST} {Q : Option AV → ST → Prop} (k : o_is L st S (fun L st S => o_il L st S (fun L st S => t_1 L st S (fun x => x = nI 0) (fun L st S => V MX4_read h 288 L st S Q) (fun L st S => V MX4_read h 284 L st S Q)) 1) 1) : V MX4_read h 279 L st S Q :=
  v_istore_n dX4_read_279 rfl (by decide) (fun L st S k => v_iload_n dX4_read_280 rfl (fun L st S k => w_if_eq dX4_read_281 (by decide) rfl k) k) k
theorem b_X4_read_284 {h : Nat} {L : LVs} {st : List AV} {S : ST} {Q : Option AV → ST → Prop} (k : o_c L st S (fun L st S => V MX4_read h 294 L st S Q) (nI 0)) : V MX4_read h 284 L st S Q :=
  v_iconst dX4_read_284 (by decide) (fun L st S k => v_goto dX4_read_285 (by decide) k) k
theorem b_X4_read_288 {h : Nat} {L : LVs} {st : List AV} {S : ST} {Q : Option AV → ST → Prop} (k : o_c L st S (fun L st S => o_al L st S (fun L st S => o_get L st S (fun L st S => o_isub L st S (fun L st S => V MX4_read h 294 L st S Q)) 4 2 (0, 0, 0)) 0) (-1)) : V MX4_read h 288 L st S Q :=
  v_iconst dX4_read_288 (by decide) (fun L st S k => v_aload_n dX4_read_289 rfl (fun L st S k => v_get dX4_read_290 rfl iX4 LY_4 rfl (by decide) rfl fl_X4_19 (fun L st S k => v_isub dX4_read_293 (fun L st S k => k) k) k) k) k
theorem b_X4_read_294 {h : Nat} {L : LVs} {st : List AV} {S : ST} {Q : Option AV → ST → Prop} (k : t_ir st S Q) : V MX4_read h 294 L st S Q :=
  w_ir dX4_read_294 rfl k
-- QueryForge$Reader.readTable()Z
theorem dX4_readTable_0 : decode cX4_readTable 0 = .ok (.aload_n 0, 1) := by decide +kernel
theorem dX4_readTable_1 : decode cX4_readTable 1 = .ok (.getfield 15, 3) := by decide +kernel
theorem dX4_readTable_4 : decode cX4_readTable 4 = .ok (.aload_n 0, 1) := by decide +kernel
theorem dX4_readTable_5 : decode cX4_readTable 5 = .ok (.getfield 9, 3) := by decide +kernel
theorem dX4_readTable_8 : decode cX4_readTable 8 = .ok (.aload_n 0, 1) := by decide +kernel
theorem dX4_readTable_9 : decode cX4_readTable 9 = .ok (.getfield 19, 3) := by decide +kernel
theorem dX4_readTable_12 : decode cX4_readTable 12 = .ok (.invokevirtual 64, 3) := by decide +kernel
theorem dX4_readTable_15 : decode cX4_readTable 15 = .ok (.invokevirtual 67, 3) := by decide +kernel
theorem dX4_readTable_18 : decode cX4_readTable 18 = .ok (.aload_n 0, 1) := by decide +kernel
theorem dX4_readTable_19 : decode cX4_readTable 19 = .ok (.iconst 2, 1) := by decide +kernel
theorem dX4_readTable_20 : decode cX4_readTable 20 = .ok (.invokevirtual 42, 3) := by decide +kernel
theorem dX4_readTable_23 : decode cX4_readTable 23 = .ok (.ireturn, 1) := by decide +kernel
theorem b_X4_readTable_0 {h : Nat} {L : LVs} {st : List AV} {S : ST} {Q : Option AV → ST → Prop} (k : o_al L st S (fun L st S => o_get L st S (fun L st S => o_al L st S (fun L st S => o_get L st S (fun L st S => o_al L st S (fun L st S => o_get L st S (fun L st S => V MX4_readTable h 12 L st S Q) 4 2 (0, 0, 0)) 0) 4 0 (4, 9, 0)) 0) 4 1 (4, 6, 0)) 0) : V MX4_readTable h 0 L st S Q :=
  v_aload_n dX4_readTable_0 rfl (fun L st S k => v_get dX4_readTable_1 rfl iX4 LY_4 rfl (by decide) rfl fl_X4_15 (fun L st S k => v_aload_n dX4_readTable_4 rfl (fun L st S k => v_get dX4_readTable_5 rfl iX4 LY_4 rfl (by decide) rfl fl_X4_9 (fun L st S k => v_aload_n dX4_readTable_8 rfl (fun L st S k => v_get dX4_readTable_9 rfl iX4 LY_4 rfl (by decide) rfl fl_X4_19 (fun L st S k => k) k) k) k) k) k) k
theorem k_X4_readTable_12 {h : Nat} {L : LVs} {st : List AV} {S : ST} {Q Q' : Option AV → ST → Prop} {j : Nat} {a0 : AV} (hC : Ct MX9_contentAt h [vR 9 j, a0] S Q') (k : ∀ (r : Option AV) (S' : ST), Q' r S' → V MX4_readTable (h + 1) 15 L (r.toList ++ st) S' Q) (hj : j < NI 9) (hw : wid st ≤ 8) : V MX4_readTable (h + 1) 12 L (a0 :: vR 9 j :: st) S Q :=
  v_callV (M' := MX9_contentAt) (c := 9) (As := [a0]) dX4_readTable_12 ml_X4_64 im_X9_contentAt se_X9_contentAt in_X9 cd_X9_contentAt rfl LY_9 np_X9_contentAt (by decide) hw hj hC k
theorem k_X4_readTable_15 {h : Nat} {L : LVs} {st : List AV} {S : ST} {Q Q' : Option AV → ST → Prop} {j : Nat} {a0 : AV} (hC : Ct MX6_addTable h [vR 6 j, a0] S Q') (k : ∀ (r : Option AV) (S' : ST), Q' r S' → V MX4_readTable (h + 1) 18 L (r.toList ++ st) S' Q) (hj : j < NI 6) (hw : wid st ≤ 8) : V MX4_readTable (h + 1) 15 L (a0 :: vR 6 j :: st) S Q :=
  v_callV (M' := MX6_addTable) (c := 6) (As := [a0]) dX4_readTable_15 ml_X4_67 im_X6_addTable se_X6_addTable in_X6 cd_X6_addTable rfl LY_6 np_X6_addTable (by decide) hw hj hC k
theorem b_X4_readTable_18 {h : Nat} {L : LVs} {st : List AV} {S : ST} {Q : Option AV → ST → Prop} (k : o_al L st S (fun L st S => o_c L st S (fun L st S => V MX4_readTable h 20 L st S Q) (nI 2)) 0) : V MX4_readTable h 18 L st S Q :=
  v_aload_n dX4_readTable_18 rfl (fun L st S k => v_iconst dX4_readTable_19 (by decide) (fun L st S k => k) k) k
theorem k_X4_readTable_20 {h : Nat} {L : LVs} {st : List AV} {S : ST} {Q Q' : Option AV → ST → Prop} {j : Nat} {a0 : AV} (hC : Ct MX4_take h [vR 4 j, a0] S Q') (k : ∀ (r : Option AV) (S' : ST), Q' r S' → V MX4_readTable (h + 1) 23 L (r.toList ++ st) S' Q) (hj : j < NI 4) (hw : wid st ≤ 8) : V MX4_readTable (h + 1) 20 L (a0 :: vR 4 j :: st) S Q :=
  v_callV (M' := MX4_take) (c := 4) (As := [a0]) dX4_readTable_20 ml_X4_42 im_X4_take se_X4_take in_X4 cd_X4_take rfl LY_4 np_X4_take (by decide) hw hj hC k
theorem b_X4_readTable_23 {h : Nat} {L : LVs} {st : List AV} {S : ST} {Q : Option AV → ST → Prop} (k : t_zr st S Q) : V MX4_readTable h 23 L st S Q :=
  w_zr dX4_readTable_23 rfl k
-- QueryForge$Reader.readParts()Z
theorem dX4_readParts_0 : decode cX4_readParts 0 = .ok (.iconst 1, 1) := by decide +kernel
theorem dX4_readParts_1 : decode cX4_readParts 1 = .ok (.istore_n 1, 1) := by decide +kernel
theorem dX4_readParts_2 : decode cX4_readParts 2 = .ok (.iconst 1, 1) := by decide +kernel
theorem dX4_readParts_3 : decode cX4_readParts 3 = .ok (.istore_n 2, 1) := by decide +kernel
theorem dX4_readParts_4 : decode cX4_readParts 4 = .ok (.iload_n 2, 1) := by decide +kernel
theorem dX4_readParts_5 : decode cX4_readParts 5 = .ok (.iconst 4, 1) := by decide +kernel
theorem dX4_readParts_6 : decode cX4_readParts 6 = .ok (.if_icmp .gt 84, 3) := by decide +kernel
theorem dX4_readParts_9 : decode cX4_readParts 9 = .ok (.iload_n 1, 1) := by decide +kernel
theorem dX4_readParts_10 : decode cX4_readParts 10 = .ok (.ifCond .eq 80, 3) := by decide +kernel
theorem dX4_readParts_13 : decode cX4_readParts 13 = .ok (.aload_n 0, 1) := by decide +kernel
theorem dX4_readParts_14 : decode cX4_readParts 14 = .ok (.getfield 15, 3) := by decide +kernel
theorem dX4_readParts_17 : decode cX4_readParts 17 = .ok (.getfield 35, 3) := by decide +kernel
theorem dX4_readParts_20 : decode cX4_readParts 20 = .ok (.sipush 200, 3) := by decide +kernel
theorem dX4_readParts_23 : decode cX4_readParts 23 = .ok (.if_icmp .ne 10, 3) := by decide +kernel
theorem dX4_readParts_26 : decode cX4_readParts 26 = .ok (.aload_n 0, 1) := by decide +kernel
theorem dX4_readParts_27 : decode cX4_readParts 27 = .ok (.invokevirtual 70, 3) := by decide +kernel
theorem dX4_readParts_30 : decode cX4_readParts 30 = .ok (.goto 27, 3) := by decide +kernel
theorem dX4_readParts_33 : decode cX4_readParts 33 = .ok (.aload_n 0, 1) := by decide +kernel
theorem dX4_readParts_34 : decode cX4_readParts 34 = .ok (.getfield 15, 3) := by decide +kernel
theorem dX4_readParts_37 : decode cX4_readParts 37 = .ok (.getfield 35, 3) := by decide +kernel
theorem dX4_readParts_40 : decode cX4_readParts 40 = .ok (.sipush 201, 3) := by decide +kernel
theorem dX4_readParts_43 : decode cX4_readParts 43 = .ok (.if_icmp .ne 10, 3) := by decide +kernel
theorem dX4_readParts_46 : decode cX4_readParts 46 = .ok (.aload_n 0, 1) := by decide +kernel
theorem dX4_readParts_47 : decode cX4_readParts 47 = .ok (.invokevirtual 73, 3) := by decide +kernel
theorem dX4_readParts_50 : decode cX4_readParts 50 = .ok (.goto 7, 3) := by decide +kernel
theorem dX4_readParts_53 : decode cX4_readParts 53 = .ok (.aload_n 0, 1) := by decide +kernel
theorem dX4_readParts_54 : decode cX4_readParts 54 = .ok (.invokevirtual 76, 3) := by decide +kernel
theorem dX4_readParts_57 : decode cX4_readParts 57 = .ok (.istore_n 3, 1) := by decide +kernel
theorem dX4_readParts_58 : decode cX4_readParts 58 = .ok (.iload_n 3, 1) := by decide +kernel
theorem dX4_readParts_59 : decode cX4_readParts 59 = .ok (.ifCond .ne 5, 3) := by decide +kernel
theorem dX4_readParts_62 : decode cX4_readParts 62 = .ok (.iconst 0, 1) := by decide +kernel
theorem dX4_readParts_63 : decode cX4_readParts 63 = .ok (.ireturn, 1) := by decide +kernel
theorem dX4_readParts_64 : decode cX4_readParts 64 = .ok (.iload_n 2, 1) := by decide +kernel
theorem dX4_readParts_65 : decode cX4_readParts 65 = .ok (.iconst 4, 1) := by decide +kernel
theorem dX4_readParts_66 : decode cX4_readParts 66 = .ok (.if_icmp .ge 16, 3) := by decide +kernel
theorem dX4_readParts_69 : decode cX4_readParts 69 = .ok (.aload_n 0, 1) := by decide +kernel
theorem dX4_readParts_70 : decode cX4_readParts 70 = .ok (.bipush 44, 2) := by decide +kernel
theorem dX4_readParts_72 : decode cX4_readParts 72 = .ok (.invokevirtual 42, 3) := by decide +kernel
theorem dX4_readParts_75 : decode cX4_readParts 75 = .ok (.ifCond .eq 7, 3) := by decide +kernel
theorem dX4_readParts_78 : decode cX4_readParts 78 = .ok (.iconst 1, 1) := by decide +kernel
theorem dX4_readParts_79 : decode cX4_readParts 79 = .ok (.goto 4, 3) := by decide +kernel
theorem dX4_readParts_82 : decode cX4_readParts 82 = .ok (.iconst 0, 1) := by decide +kernel
theorem dX4_readParts_83 : decode cX4_readParts 83 = .ok (.istore_n 1, 1) := by decide +kernel
theorem dX4_readParts_84 : decode cX4_readParts 84 = .ok (.iinc 2 1, 3) := by decide +kernel
theorem dX4_readParts_87 : decode cX4_readParts 87 = .ok (.goto (-83), 3) := by decide +kernel
theorem dX4_readParts_90 : decode cX4_readParts 90 = .ok (.iconst 1, 1) := by decide +kernel
theorem dX4_readParts_91 : decode cX4_readParts 91 = .ok (.ireturn, 1) := by decide +kernel
theorem b_X4_readParts_0 {h : Nat} {L : LVs} {st : List AV} {S : ST} {Q : Option AV → ST → Prop} (k : o_c L st S (fun L st S => o_is L st S (fun L st S => o_c L st S (fun L st S => o_is L st S (fun L st S => V MX4_readParts h 4 L st S Q) 2) (nI 1)) 1) (nI 1)) : V MX4_readParts h 0 L st S Q :=
  v_iconst dX4_readParts_0 (by decide) (fun L st S k => v_istore_n dX4_readParts_1 rfl (by decide) (fun L st S k => v_iconst dX4_readParts_2 (by decide) (fun L st S k => v_istore_n dX4_readParts_3 rfl (by decide) (fun L st S k => k) k) k) k) k
theorem b_X4_readParts_4 {h : Nat} {L : LVs} {st : List AV} {S : ST} {Q : Option AV → ST → Prop} (k : o_il L st S (fun L st S => o_c L st S (fun L st S => t_2 L st S (fun x y => y < x) (fun L st S => V MX4_readParts h 90 L st S Q) (fun L st S => V MX4_readParts h 9 L st S Q)) (nI 4)) 2) : V MX4_readParts h 4 L st S Q :=
  v_iload_n dX4_readParts_4 rfl (fun L st S k => v_iconst dX4_readParts_5 (by decide) (fun L st S k => w_icmp_gt dX4_readParts_6 (by decide) rfl k) k) k
theorem b_X4_readParts_9 {h : Nat} {L : LVs} {st : List AV} {S : ST} {Q : Option AV → ST → Prop} (k : o_il L st S (fun L st S => t_1 L st S (fun x => x = nI 0) (fun L st S => V MX4_readParts h 90 L st S Q) (fun L st S => V MX4_readParts h 13 L st S Q)) 1) : V MX4_readParts h 9 L st S Q :=
  v_iload_n dX4_readParts_9 rfl (fun L st S k => w_if_eq dX4_readParts_10 (by decide) rfl k) k
theorem b_X4_readParts_13 {h : Nat} {L : LVs} {st : List AV} {S : ST} {Q : Option AV → ST → Prop} (k : o_al L st S (fun L st S => o_get L st S (fun L st S => o_get L st S (fun L st S => o_c L st S (fun L st S => t_2 L st S (fun x y => x = y) (fun L st S => V MX4_readParts h 26 L st S Q) (fun L st S => V MX4_readParts h 33 L st S Q)) (nI 200)) 6 8 (0, 0, 0)) 4 1 (4, 6, 0)) 0) : V MX4_readParts h 13 L st S Q :=
  v_aload_n dX4_readParts_13 rfl (fun L st S k => v_get dX4_readParts_14 rfl iX4 LY_4 rfl (by decide) rfl fl_X4_15 (fun L st S k => v_get dX4_readParts_17 rfl iX6 LY_6 rfl (by decide) rfl fl_X4_35 (fun L st S k => v_sipush dX4_readParts_20 (by decide) (fun L st S k => w_icmp_ne dX4_readParts_23 (by decide) rfl k) k) k) k) k
theorem b_X4_readParts_26 {h : Nat} {L : LVs} {st : List AV} {S : ST} {Q : Option AV → ST → Prop} (k : o_al L st S (fun L st S => V MX4_readParts h 27 L st S Q) 0) : V MX4_readParts h 26 L st S Q :=
  v_aload_n dX4_readParts_26 rfl (fun L st S k => k) k
theorem k_X4_readParts_27 {h : Nat} {L : LVs} {st : List AV} {S : ST} {Q Q' : Option AV → ST → Prop} {j : Nat} (hC : Ct MX4_readColumn h [vR 4 j] S Q') (k : ∀ (r : Option AV) (S' : ST), Q' r S' → V MX4_readParts (h + 1) 30 L (r.toList ++ st) S' Q) (hj : j < NI 4) (hw : wid st ≤ 8) : V MX4_readParts (h + 1) 27 L (vR 4 j :: st) S Q :=
  v_callV (M' := MX4_readColumn) (c := 4) (As := []) dX4_readParts_27 ml_X4_70 im_X4_readColumn se_X4_readColumn in_X4 cd_X4_readColumn rfl LY_4 np_X4_readColumn (by decide) hw hj hC k
theorem b_X4_readParts_30 {h : Nat} {L : LVs} {st : List AV} {S : ST} {Q : Option AV → ST → Prop} (k : V MX4_readParts h 57 L st S Q) : V MX4_readParts h 30 L st S Q :=
  v_goto dX4_readParts_30 (by decide) k
theorem b_X4_readParts_33 {h : Nat} {L : LVs} {st : List AV} {S : ST} {Q : Option AV → ST → Prop} (k : o_al L st S (fun L st S => o_get L st S (fun L st S => o_get L st S (fun L st S => o_c L st S (fun L st S => t_2 L st S (fun x y => x = y) (fun L st S => V MX4_readParts h 46 L st S Q) (fun L st S => V MX4_readParts h 53 L st S Q)) (nI 201)) 6 8 (0, 0, 0)) 4 1 (4, 6, 0)) 0) : V MX4_readParts h 33 L st S Q :=
  v_aload_n dX4_readParts_33 rfl (fun L st S k => v_get dX4_readParts_34 rfl iX4 LY_4 rfl (by decide) rfl fl_X4_15 (fun L st S k => v_get dX4_readParts_37 rfl iX6 LY_6 rfl (by decide) rfl fl_X4_35 (fun L st S k => v_sipush dX4_readParts_40 (by decide) (fun L st S k => w_icmp_ne dX4_readParts_43 (by decide) rfl k) k) k) k) k
theorem b_X4_readParts_46 {h : Nat} {L : LVs} {st : List AV} {S : ST} {Q : Option AV → ST → Prop} (k : o_al L st S (fun L st S => V MX4_readParts h 47 L st S Q) 0) : V MX4_readParts h 46 L st S Q :=
  v_aload_n dX4_readParts_46 rfl (fun L st S k => k) k
theorem k_X4_readParts_47 {h : Nat} {L : LVs} {st : List AV} {S : ST} {Q Q' : Option AV → ST → Prop} {j : Nat} (hC : Ct MX4_readValue h [vR 4 j] S Q') (k : ∀ (r : Option AV) (S' : ST), Q' r S' → V MX4_readParts (h + 1) 50 L (r.toList ++ st) S' Q) (hj : j < NI 4) (hw : wid st ≤ 8) : V MX4_readParts (h + 1) 47 L (vR 4 j :: st) S Q :=
  v_callV (M' := MX4_readValue) (c := 4) (As := []) dX4_readParts_47 ml_X4_73 im_X4_readValue se_X4_readValue in_X4 cd_X4_readValue rfl LY_4 np_X4_readValue (by decide) hw hj hC k
theorem b_X4_readParts_50 {h : Nat} {L : LVs} {st : List AV} {S : ST} {Q : Option AV → ST → Prop} (k : V MX4_readParts h 57 L st S Q) : V MX4_readParts h 50 L st S Q :=
  v_goto dX4_readParts_50 (by decide) k
theorem b_X4_readParts_53 {h : Nat} {L : LVs} {st : List AV} {S : ST} {Q : Option AV → ST → Prop} (k : o_al L st S (fun L st S => V MX4_readParts h 54 L st S Q) 0) : V MX4_readParts h 53 L st S Q :=
  v_aload_n dX4_readParts_53 rfl (fun L st S k => k) k
theorem k_X4_readParts_54 {h : Nat} {L : LVs} {st : List AV} {S : ST} {Q Q' : Option AV → ST → Prop} {j : Nat} (hC : Ct MX4_readItem h [vR 4 j] S Q') (k : ∀ (r : Option AV) (S' : ST), Q' r S' → V MX4_readParts (h + 1) 57 L (r.toList ++ st) S' Q) (hj : j < NI 4) (hw : wid st ≤ 8) : V MX4_readParts (h + 1) 54 L (vR 4 j :: st) S Q :=
  v_callV (M' := MX4_readItem) (c := 4) (As := []) dX4_readParts_54 ml_X4_76 im_X4_readItem se_X4_readItem in_X4 cd_X4_readItem rfl LY_4 np_X4_readItem (by decide) hw hj hC k
theorem b_X4_readParts_57 {h : Nat} {L : LVs} {st : List AV} {S : ST} {Q : Option AV → ST → Prop} (k : o_is L st S (fun L st S => o_il L st S (fun L st S => t_1 L st S (fun x => x = nI 0) (fun L st S => V MX4_readParts h 62 L st S Q) (fun L st S => V MX4_readParts h 64 L st S Q)) 3) 3) : V MX4_readParts h 57 L st S Q :=
  v_istore_n dX4_readParts_57 rfl (by decide) (fun L st S k => v_iload_n dX4_readParts_58 rfl (fun L st S k => w_if_ne dX4_readParts_59 (by decide) rfl k) k) k
theorem b_X4_readParts_62 {h : Nat} {L : LVs} {st : List AV} {S : ST} {Q : Option AV → ST → Prop} (k : o_c L st S (fun L st S => t_zr st S Q) (nI 0)) : V MX4_readParts h 62 L st S Q :=
  v_iconst dX4_readParts_62 (by decide) (fun L st S k => w_zr dX4_readParts_63 rfl k) k
theorem b_X4_readParts_64 {h : Nat} {L : LVs} {st : List AV} {S : ST} {Q : Option AV → ST → Prop} (k : o_il L st S (fun L st S => o_c L st S (fun L st S => t_2 L st S (fun x y => y ≤ x) (fun L st S => V MX4_readParts h 82 L st S Q) (fun L st S => V MX4_readParts h 69 L st S Q)) (nI 4)) 2) : V MX4_readParts h 64 L st S Q :=
  v_iload_n dX4_readParts_64 rfl (fun L st S k => v_iconst dX4_readParts_65 (by decide) (fun L st S k => w_icmp_ge dX4_readParts_66 (by decide) rfl k) k) k
theorem b_X4_readParts_69 {h : Nat} {L : LVs} {st : List AV} {S : ST} {Q : Option AV → ST → Prop} (k : o_al L st S (fun L st S => o_c L st S (fun L st S => V MX4_readParts h 72 L st S Q) (nI 44)) 0) : V MX4_readParts h 69 L st S Q :=
  v_aload_n dX4_readParts_69 rfl (fun L st S k => v_bipush dX4_readParts_70 (by decide) (fun L st S k => k) k) k
theorem k_X4_readParts_72 {h : Nat} {L : LVs} {st : List AV} {S : ST} {Q Q' : Option AV → ST → Prop} {j : Nat} {a0 : AV} (hC : Ct MX4_take h [vR 4 j, a0] S Q') (k : ∀ (r : Option AV) (S' : ST), Q' r S' → V MX4_readParts (h + 1) 75 L (r.toList ++ st) S' Q) (hj : j < NI 4) (hw : wid st ≤ 8) : V MX4_readParts (h + 1) 72 L (a0 :: vR 4 j :: st) S Q :=
  v_callV (M' := MX4_take) (c := 4) (As := [a0]) dX4_readParts_72 ml_X4_42 im_X4_take se_X4_take in_X4 cd_X4_take rfl LY_4 np_X4_take (by decide) hw hj hC k
theorem b_X4_readParts_75 {h : Nat} {L : LVs} {st : List AV} {S : ST} {Q : Option AV → ST → Prop} (k : t_1 L st S (fun x => x = nI 0) (fun L st S => V MX4_readParts h 82 L st S Q) (fun L st S => V MX4_readParts h 78 L st S Q)) : V MX4_readParts h 75 L st S Q :=
  w_if_eq dX4_readParts_75 (by decide) rfl k
theorem b_X4_readParts_78 {h : Nat} {L : LVs} {st : List AV} {S : ST} {Q : Option AV → ST → Prop} (k : o_c L st S (fun L st S => V MX4_readParts h 83 L st S Q) (nI 1)) : V MX4_readParts h 78 L st S Q :=
  v_iconst dX4_readParts_78 (by decide) (fun L st S k => v_goto dX4_readParts_79 (by decide) k) k
theorem b_X4_readParts_82 {h : Nat} {L : LVs} {st : List AV} {S : ST} {Q : Option AV → ST → Prop} (k : o_c L st S (fun L st S => V MX4_readParts h 83 L st S Q) (nI 0)) : V MX4_readParts h 82 L st S Q :=
  v_iconst dX4_readParts_82 (by decide) (fun L st S k => k) k
theorem b_X4_readParts_83 {h : Nat} {L : LVs} {st : List AV} {S : ST} {Q : Option AV → ST → Prop} (k : o_is L st S (fun L st S => o_inc L st S (fun L st S => V MX4_readParts h 4 L st S Q) 2 (nI 1)) 1) : V MX4_readParts h 83 L st S Q :=
  v_istore_n dX4_readParts_83 rfl (by decide) (fun L st S k => v_iinc dX4_readParts_84 (by decide) (by decide) (fun L st S k => v_goto dX4_readParts_87 (by decide) k) k) k
theorem b_X4_readParts_90 {h : Nat} {L : LVs} {st : List AV} {S : ST} {Q : Option AV → ST → Prop} (k : o_c L st S (fun L st S => t_zr st S Q) (nI 1)) : V MX4_readParts h 90 L st S Q :=
  v_iconst dX4_readParts_90 (by decide) (fun L st S k => w_zr dX4_readParts_91 rfl k) k
-- QueryForge$Reader.readColumn()Z
theorem dX4_readColumn_0 : decode cX4_readColumn 0 = .ok (.aload_n 0, 1) := by decide +kernel
theorem dX4_readColumn_1 : decode cX4_readColumn 1 = .ok (.getfield 9, 3) := by decide +kernel
theorem dX4_readColumn_4 : decode cX4_readColumn 4 = .ok (.aload_n 0, 1) := by decide +kernel
theorem dX4_readColumn_5 : decode cX4_readColumn 5 = .ok (.getfield 19, 3) := by decide +kernel
theorem dX4_readColumn_8 : decode cX4_readColumn 8 = .ok (.invokevirtual 64, 3) := by decide +kernel
theorem dX4_readColumn_11 : decode cX4_readColumn 11 = .ok (.istore_n 1, 1) := by decide +kernel
theorem dX4_readColumn_12 : decode cX4_readColumn 12 = .ok (.aload_n 0, 1) := by decide +kernel
theorem dX4_readColumn_13 : decode cX4_readColumn 13 = .ok (.iconst 2, 1) := by decide +kernel
theorem dX4_readColumn_14 : decode cX4_readColumn 14 = .ok (.invokevirtual 42, 3) := by decide +kernel
theorem dX4_readColumn_17 : decode cX4_readColumn 17 = .ok (.ifCond .ne 5, 3) := by decide +kernel
theorem dX4_readColumn_20 : decode cX4_readColumn 20 = .ok (.iconst 0, 1) := by decide +kernel
theorem dX4_readColumn_21 : decode cX4_readColumn 21 = .ok (.ireturn, 1) := by decide +kernel
theorem dX4_readColumn_22 : decode cX4_readColumn 22 = .ok (.aload_n 0, 1) := by decide +kernel
theorem dX4_readColumn_23 : decode cX4_readColumn 23 = .ok (.getfield 15, 3) := by decide +kernel
theorem dX4_readColumn_26 : decode cX4_readColumn 26 = .ok (.iload_n 1, 1) := by decide +kernel
theorem dX4_readColumn_27 : decode cX4_readColumn 27 = .ok (.aload_n 0, 1) := by decide +kernel
theorem dX4_readColumn_28 : decode cX4_readColumn 28 = .ok (.sipush 211, 3) := by decide +kernel
theorem dX4_readColumn_31 : decode cX4_readColumn 31 = .ok (.invokevirtual 61, 3) := by decide +kernel
theorem dX4_readColumn_34 : decode cX4_readColumn 34 = .ok (.ifCond .eq 7, 3) := by decide +kernel
theorem dX4_readColumn_37 : decode cX4_readColumn 37 = .ok (.iconst 1, 1) := by decide +kernel
theorem dX4_readColumn_38 : decode cX4_readColumn 38 = .ok (.goto 4, 3) := by decide +kernel
theorem dX4_readColumn_41 : decode cX4_readColumn 41 = .ok (.iconst 2, 1) := by decide +kernel
theorem dX4_readColumn_42 : decode cX4_readColumn 42 = .ok (.invokevirtual 79, 3) := by decide +kernel
theorem dX4_readColumn_45 : decode cX4_readColumn 45 = .ok (.aload_n 0, 1) := by decide +kernel
theorem dX4_readColumn_46 : decode cX4_readColumn 46 = .ok (.sipush 211, 3) := by decide +kernel
theorem dX4_readColumn_49 : decode cX4_readColumn 49 = .ok (.invokevirtual 42, 3) := by decide +kernel
theorem dX4_readColumn_52 : decode cX4_readColumn 52 = .ok (.ifCond .ne 13, 3) := by decide +kernel
theorem dX4_readColumn_55 : decode cX4_readColumn 55 = .ok (.aload_n 0, 1) := by decide +kernel
theorem dX4_readColumn_56 : decode cX4_readColumn 56 = .ok (.sipush 212, 3) := by decide +kernel
theorem dX4_readColumn_59 : decode cX4_readColumn 59 = .ok (.invokevirtual 42, 3) := by decide +kernel
theorem dX4_readColumn_62 : decode cX4_readColumn 62 = .ok (.ifCond .eq 7, 3) := by decide +kernel
theorem dX4_readColumn_65 : decode cX4_readColumn 65 = .ok (.iconst 1, 1) := by decide +kernel
theorem dX4_readColumn_66 : decode cX4_readColumn 66 = .ok (.goto 4, 3) := by decide +kernel
theorem dX4_readColumn_69 : decode cX4_readColumn 69 = .ok (.iconst 0, 1) := by decide +kernel
theorem dX4_readColumn_70 : decode cX4_readColumn 70 = .ok (.ireturn, 1) := by decide +kernel
theorem b_X4_readColumn_0 {h : Nat} {L : LVs} {st : List AV} {S : ST} {Q : Option AV → ST → Prop} (k : o_al L st S (fun L st S => o_get L st S (fun L st S => o_al L st S (fun L st S => o_get L st S (fun L st S => V MX4_readColumn h 8 L st S Q) 4 2 (0, 0, 0)) 0) 4 0 (4, 9, 0)) 0) : V MX4_readColumn h 0 L st S Q :=
  v_aload_n dX4_readColumn_0 rfl (fun L st S k => v_get dX4_readColumn_1 rfl iX4 LY_4 rfl (by decide) rfl fl_X4_9 (fun L st S k => v_aload_n dX4_readColumn_4 rfl (fun L st S k => v_get dX4_readColumn_5 rfl iX4 LY_4 rfl (by decide) rfl fl_X4_19 (fun L st S k => k) k) k) k) k
theorem k_X4_readColumn_8 {h : Nat} {L : LVs} {st : List AV} {S : ST} {Q Q' : Option AV → ST → Prop} {j : Nat} {a0 : AV} (hC : Ct MX9_contentAt h [vR 9 j, a0] S Q') (k : ∀ (r : Option AV) (S' : ST), Q' r S' → V MX4_readColumn (h + 1) 11 L (r.toList ++ st) S' Q) (hj : j < NI 9) (hw : wid st ≤ 8) : V MX4_readColumn (h + 1) 8 L (a0 :: vR 9 j :: st) S Q :=
  v_callV (M' := MX9_contentAt) (c := 9) (As := [a0]) dX4_readColumn_8 ml_X4_64 im_X9_contentAt se_X9_contentAt in_X9 cd_X9_contentAt rfl LY_9 np_X9_contentAt (by decide) hw hj hC k
theorem b_X4_readColumn_11 {h : Nat} {L : LVs} {st : List AV} {S : ST} {Q : Option AV → ST → Prop} (k : o_is L st S (fun L st S => o_al L st S (fun L st S => o_c L st S (fun L st S => V MX4_readColumn h 14 L st S Q) (nI 2)) 0) 1) : V MX4_readColumn h 11 L st S Q :=
  v_istore_n dX4_readColumn_11 rfl (by decide) (fun L st S k => v_aload_n dX4_readColumn_12 rfl (fun L st S k => v_iconst dX4_readColumn_13 (by decide) (fun L st S k => k) k) k) k
theorem k_X4_readColumn_14 {h : Nat} {L : LVs} {st : List AV} {S : ST} {Q Q' : Option AV → ST → Prop} {j : Nat} {a0 : AV} (hC : Ct MX4_take h [vR 4 j, a0] S Q') (k : ∀ (r : Option AV) (S' : ST), Q' r S' → V MX4_readColumn (h + 1) 17 L (r.toList ++ st) S' Q) (hj : j < NI 4) (hw : wid st ≤ 8) : V MX4_readColumn (h + 1) 14 L (a0 :: vR 4 j :: st) S Q :=
  v_callV (M' := MX4_take) (c := 4) (As := [a0]) dX4_readColumn_14 ml_X4_42 im_X4_take se_X4_take in_X4 cd_X4_take rfl LY_4 np_X4_take (by decide) hw hj hC k
theorem b_X4_readColumn_17 {h : Nat} {L : LVs} {st : List AV} {S : ST} {Q : Option AV → ST → Prop} (k : t_1 L st S (fun x => x = nI 0) (fun L st S => V MX4_readColumn h 20 L st S Q) (fun L st S => V MX4_readColumn h 22 L st S Q)) : V MX4_readColumn h 17 L st S Q :=
  w_if_ne dX4_readColumn_17 (by decide) rfl k
theorem b_X4_readColumn_20 {h : Nat} {L : LVs} {st : List AV} {S : ST} {Q : Option AV → ST → Prop} (k : o_c L st S (fun L st S => t_zr st S Q) (nI 0)) : V MX4_readColumn h 20 L st S Q :=
  v_iconst dX4_readColumn_20 (by decide) (fun L st S k => w_zr dX4_readColumn_21 rfl k) k
theorem b_X4_readColumn_22 {h : Nat} {L : LVs} {st : List AV} {S : ST} {Q : Option AV → ST → Prop} (k : o_al L st S (fun L st S => o_get L st S (fun L st S => o_il L st S (fun L st S => o_al L st S (fun L st S => o_c L st S (fun L st S => V MX4_readColumn h 31 L st S Q) (nI 211)) 0) 1) 4 1 (4, 6, 0)) 0) : V MX4_readColumn h 22 L st S Q :=
  v_aload_n dX4_readColumn_22 rfl (fun L st S k => v_get dX4_readColumn_23 rfl iX4 LY_4 rfl (by decide) rfl fl_X4_15 (fun L st S k => v_iload_n dX4_readColumn_26 rfl (fun L st S k => v_aload_n dX4_readColumn_27 rfl (fun L st S k => v_sipush dX4_readColumn_28 (by decide) (fun L st S k => k) k) k) k) k) k
theorem k_X4_readColumn_31 {h : Nat} {L : LVs} {st : List AV} {S : ST} {Q Q' : Option AV → ST → Prop} {j : Nat} {a0 : AV} (hC : Ct MX4_isNext h [vR 4 j, a0] S Q') (k : ∀ (r : Option AV) (S' : ST), Q' r S' → V MX4_readColumn (h + 1) 34 L (r.toList ++ st) S' Q) (hj : j < NI 4) (hw : wid st ≤ 8) : V MX4_readColumn (h + 1) 31 L (a0 :: vR 4 j :: st) S Q :=
  v_callV (M' := MX4_isNext) (c := 4) (As := [a0]) dX4_readColumn_31 ml_X4_61 im_X4_isNext se_X4_isNext in_X4 cd_X4_isNext rfl LY_4 np_X4_isNext (by decide) hw hj hC k
theorem b_X4_readColumn_34 {h : Nat} {L : LVs} {st : List AV} {S : ST} {Q : Option AV → ST → Prop} (k : t_1 L st S (fun x => x = nI 0) (fun L st S => V MX4_readColumn h 41 L st S Q) (fun L st S => V MX4_readColumn h 37 L st S Q)) : V MX4_readColumn h 34 L st S Q :=
  w_if_eq dX4_readColumn_34 (by decide) rfl k
theorem b_X4_readColumn_37 {h : Nat} {L : LVs} {st : List AV} {S : ST} {Q : Option AV → ST → Prop} (k : o_c L st S (fun L st S => V MX4_readColumn h 42 L st S Q) (nI 1)) : V MX4_readColumn h 37 L st S Q :=
  v_iconst dX4_readColumn_37 (by decide) (fun L st S k => v_goto dX4_readColumn_38 (by decide) k) k
theorem b_X4_readColumn_41 {h : Nat} {L : LVs} {st : List AV} {S : ST} {Q : Option AV → ST → Prop} (k : o_c L st S (fun L st S => V MX4_readColumn h 42 L st S Q) (nI 2)) : V MX4_readColumn h 41 L st S Q :=
  v_iconst dX4_readColumn_41 (by decide) (fun L st S k => k) k
theorem k_X4_readColumn_42 {h : Nat} {L : LVs} {st : List AV} {S : ST} {Q Q' : Option AV → ST → Prop} {j : Nat} {a0 a1 : AV} (hC : Ct MX6_addColumn h [vR 6 j, a0, a1] S Q') (k : ∀ (r : Option AV) (S' : ST), Q' r S' → V MX4_readColumn (h + 1) 45 L (r.toList ++ st) S' Q) (hj : j < NI 6) (hw : wid st ≤ 8) : V MX4_readColumn (h + 1) 42 L (a1 :: a0 :: vR 6 j :: st) S Q :=
  v_callV (M' := MX6_addColumn) (c := 6) (As := [a0, a1]) dX4_readColumn_42 ml_X4_79 im_X6_addColumn se_X6_addColumn in_X6 cd_X6_addColumn rfl LY_6 np_X6_addColumn (by decide) hw hj hC k
theorem b_X4_readColumn_45 {h : Nat} {L : LVs} {st : List AV} {S : ST} {Q : Option AV → ST → Prop} (k : o_al L st S (fun L st S => o_c L st S (fun L st S => V MX4_readColumn h 49 L st S Q) (nI 211)) 0) : V MX4_readColumn h 45 L st S Q :=
  v_aload_n dX4_readColumn_45 rfl (fun L st S k => v_sipush dX4_readColumn_46 (by decide) (fun L st S k => k) k) k
theorem k_X4_readColumn_49 {h : Nat} {L : LVs} {st : List AV} {S : ST} {Q Q' : Option AV → ST → Prop} {j : Nat} {a0 : AV} (hC : Ct MX4_take h [vR 4 j, a0] S Q') (k : ∀ (r : Option AV) (S' : ST), Q' r S' → V MX4_readColumn (h + 1) 52 L (r.toList ++ st) S' Q) (hj : j < NI 4) (hw : wid st ≤ 8) : V MX4_readColumn (h + 1) 49 L (a0 :: vR 4 j :: st) S Q :=
  v_callV (M' := MX4_take) (c := 4) (As := [a0]) dX4_readColumn_49 ml_X4_42 im_X4_take se_X4_take in_X4 cd_X4_take rfl LY_4 np_X4_take (by decide) hw hj hC k
theorem b_X4_readColumn_52 {h : Nat} {L : LVs} {st : List AV} {S : ST} {Q : Option AV → ST → Prop} (k : t_1 L st S (fun x => x = nI 0) (fun L st S => V MX4_readColumn h 55 L st S Q) (fun L st S => V MX4_readColumn h 65 L st S Q)) : V MX4_readColumn h 52 L st S Q :=
  w_if_ne dX4_readColumn_52 (by decide) rfl k
theorem b_X4_readColumn_55 {h : Nat} {L : LVs} {st : List AV} {S : ST} {Q : Option AV → ST → Prop} (k : o_al L st S (fun L st S => o_c L st S (fun L st S => V MX4_readColumn h 59 L st S Q) (nI 212)) 0) : V MX4_readColumn h 55 L st S Q :=
  v_aload_n dX4_readColumn_55 rfl (fun L st S k => v_sipush dX4_readColumn_56 (by decide) (fun L st S k => k) k) k
theorem k_X4_readColumn_59 {h : Nat} {L : LVs} {st : List AV} {S : ST} {Q Q' : Option AV → ST → Prop} {j : Nat} {a0 : AV} (hC : Ct MX4_take h [vR 4 j, a0] S Q') (k : ∀ (r : Option AV) (S' : ST), Q' r S' → V MX4_readColumn (h + 1) 62 L (r.toList ++ st) S' Q) (hj : j < NI 4) (hw : wid st ≤ 8) : V MX4_readColumn (h + 1) 59 L (a0 :: vR 4 j :: st) S Q :=
  v_callV (M' := MX4_take) (c := 4) (As := [a0]) dX4_readColumn_59 ml_X4_42 im_X4_take se_X4_take in_X4 cd_X4_take rfl LY_4 np_X4_take (by decide) hw hj hC k
theorem b_X4_readColumn_62 {h : Nat} {L : LVs} {st : List AV} {S : ST} {Q : Option AV → ST → Prop} (k : t_1 L st S (fun x => x = nI 0) (fun L st S => V MX4_readColumn h 69 L st S Q) (fun L st S => V MX4_readColumn h 65 L st S Q)) : V MX4_readColumn h 62 L st S Q :=
  w_if_eq dX4_readColumn_62 (by decide) rfl k
theorem b_X4_readColumn_65 {h : Nat} {L : LVs} {st : List AV} {S : ST} {Q : Option AV → ST → Prop} (k : o_c L st S (fun L st S => V MX4_readColumn h 70 L st S Q) (nI 1)) : V MX4_readColumn h 65 L st S Q :=
  v_iconst dX4_readColumn_65 (by decide) (fun L st S k => v_goto dX4_readColumn_66 (by decide) k) k
theorem b_X4_readColumn_69 {h : Nat} {L : LVs} {st : List AV} {S : ST} {Q : Option AV → ST → Prop} (k : o_c L st S (fun L st S => V MX4_readColumn h 70 L st S Q) (nI 0)) : V MX4_readColumn h 69 L st S Q :=
  v_iconst dX4_readColumn_69 (by decide) (fun L st S k => k) k
theorem b_X4_readColumn_70 {h : Nat} {L : LVs} {st : List AV} {S : ST} {Q : Option AV → ST → Prop} (k : t_zr st S Q) : V MX4_readColumn h 70 L st S Q :=
  w_zr dX4_readColumn_70 rfl k
-- QueryForge$Reader.readValue()Z
theorem dX4_readValue_0 : decode cX4_readValue 0 = .ok (.aload_n 0, 1) := by decide +kernel
theorem dX4_readValue_1 : decode cX4_readValue 1 = .ok (.bipush 45, 2) := by decide +kernel
theorem dX4_readValue_3 : decode cX4_readValue 3 = .ok (.invokevirtual 42, 3) := by decide +kernel
theorem dX4_readValue_6 : decode cX4_readValue 6 = .ok (.istore_n 1, 1) := by decide +kernel
theorem dX4_readValue_7 : decode cX4_readValue 7 = .ok (.aload_n 0, 1) := by decide +kernel
theorem dX4_readValue_8 : decode cX4_readValue 8 = .ok (.getfield 9, 3) := by decide +kernel
theorem dX4_readValue_11 : decode cX4_readValue 11 = .ok (.aload_n 0, 1) := by decide +kernel
theorem dX4_readValue_12 : decode cX4_readValue 12 = .ok (.getfield 19, 3) := by decide +kernel
theorem dX4_readValue_15 : decode cX4_readValue 15 = .ok (.invokevirtual 64, 3) := by decide +kernel
theorem dX4_readValue_18 : decode cX4_readValue 18 = .ok (.istore_n 2, 1) := by decide +kernel
theorem dX4_readValue_19 : decode cX4_readValue 19 = .ok (.aload_n 0, 1) := by decide +kernel
theorem dX4_readValue_20 : decode cX4_readValue 20 = .ok (.iconst 3, 1) := by decide +kernel
theorem dX4_readValue_21 : decode cX4_readValue 21 = .ok (.invokevirtual 42, 3) := by decide +kernel
theorem dX4_readValue_24 : decode cX4_readValue 24 = .ok (.ifCond .eq 23, 3) := by decide +kernel
theorem dX4_readValue_27 : decode cX4_readValue 27 = .ok (.aload_n 0, 1) := by decide +kernel
theorem dX4_readValue_28 : decode cX4_readValue 28 = .ok (.getfield 15, 3) := by decide +kernel
theorem dX4_readValue_31 : decode cX4_readValue 31 = .ok (.iload_n 1, 1) := by decide +kernel
theorem dX4_readValue_32 : decode cX4_readValue 32 = .ok (.ifCond .eq 8, 3) := by decide +kernel
theorem dX4_readValue_35 : decode cX4_readValue 35 = .ok (.iload_n 2, 1) := by decide +kernel
theorem dX4_readValue_36 : decode cX4_readValue 36 = .ok (.ineg, 1) := by decide +kernel
theorem dX4_readValue_37 : decode cX4_readValue 37 = .ok (.goto 4, 3) := by decide +kernel
theorem dX4_readValue_40 : decode cX4_readValue 40 = .ok (.iload_n 2, 1) := by decide +kernel
theorem dX4_readValue_41 : decode cX4_readValue 41 = .ok (.iconst 1, 1) := by decide +kernel
theorem dX4_readValue_42 : decode cX4_readValue 42 = .ok (.invokevirtual 83, 3) := by decide +kernel
theorem dX4_readValue_45 : decode cX4_readValue 45 = .ok (.iconst 1, 1) := by decide +kernel
theorem dX4_readValue_46 : decode cX4_readValue 46 = .ok (.ireturn, 1) := by decide +kernel
theorem dX4_readValue_47 : decode cX4_readValue 47 = .ok (.iload_n 1, 1) := by decide +kernel
theorem dX4_readValue_48 : decode cX4_readValue 48 = .ok (.ifCond .eq 5, 3) := by decide +kernel
theorem dX4_readValue_51 : decode cX4_readValue 51 = .ok (.iconst 0, 1) := by decide +kernel
theorem dX4_readValue_52 : decode cX4_readValue 52 = .ok (.ireturn, 1) := by decide +kernel
theorem dX4_readValue_53 : decode cX4_readValue 53 = .ok (.aload_n 0, 1) := by decide +kernel
theorem dX4_readValue_54 : decode cX4_readValue 54 = .ok (.getfield 15, 3) := by decide +kernel
theorem dX4_readValue_57 : decode cX4_readValue 57 = .ok (.iload_n 2, 1) := by decide +kernel
theorem dX4_readValue_58 : decode cX4_readValue 58 = .ok (.aload_n 0, 1) := by decide +kernel
theorem dX4_readValue_59 : decode cX4_readValue 59 = .ok (.iconst 4, 1) := by decide +kernel
theorem dX4_readValue_60 : decode cX4_readValue 60 = .ok (.invokevirtual 61, 3) := by decide +kernel
theorem dX4_readValue_63 : decode cX4_readValue 63 = .ok (.ifCond .eq 7, 3) := by decide +kernel
theorem dX4_readValue_66 : decode cX4_readValue 66 = .ok (.iconst 2, 1) := by decide +kernel
theorem dX4_readValue_67 : decode cX4_readValue 67 = .ok (.goto 4, 3) := by decide +kernel
theorem dX4_readValue_70 : decode cX4_readValue 70 = .ok (.iconst 0, 1) := by decide +kernel
theorem dX4_readValue_71 : decode cX4_readValue 71 = .ok (.invokevirtual 83, 3) := by decide +kernel
theorem dX4_readValue_74 : decode cX4_readValue 74 = .ok (.aload_n 0, 1) := by decide +kernel
theorem dX4_readValue_75 : decode cX4_readValue 75 = .ok (.iconst 4, 1) := by decide +kernel
theorem dX4_readValue_76 : decode cX4_readValue 76 = .ok (.invokevirtual 42, 3) := by decide +kernel
theorem dX4_readValue_79 : decode cX4_readValue 79 = .ok (.ifCond .ne 13, 3) := by decide +kernel
theorem dX4_readValue_82 : decode cX4_readValue 82 = .ok (.aload_n 0, 1) := by decide +kernel
theorem dX4_readValue_83 : decode cX4_readValue 83 = .ok (.sipush 213, 3) := by decide +kernel
theorem dX4_readValue_86 : decode cX4_readValue 86 = .ok (.invokevirtual 42, 3) := by decide +kernel
theorem dX4_readValue_89 : decode cX4_readValue 89 = .ok (.ifCond .eq 7, 3) := by decide +kernel
theorem dX4_readValue_92 : decode cX4_readValue 92 = .ok (.iconst 1, 1) := by decide +kernel
theorem dX4_readValue_93 : decode cX4_readValue 93 = .ok (.goto 4, 3) := by decide +kernel
theorem dX4_readValue_96 : decode cX4_readValue 96 = .ok (.iconst 0, 1) := by decide +kernel
theorem dX4_readValue_97 : decode cX4_readValue 97 = .ok (.ireturn, 1) := by decide +kernel
theorem b_X4_readValue_0 {h : Nat} {L : LVs} {st : List AV} {S : ST} {Q : Option AV → ST → Prop} (k : o_al L st S (fun L st S => o_c L st S (fun L st S => V MX4_readValue h 3 L st S Q) (nI 45)) 0) : V MX4_readValue h 0 L st S Q :=
  v_aload_n dX4_readValue_0 rfl (fun L st S k => v_bipush dX4_readValue_1 (by decide) (fun L st S k => k) k) k
theorem k_X4_readValue_3 {h : Nat} {L : LVs} {st : List AV} {S : ST} {Q Q' : Option AV → ST → Prop} {j : Nat} {a0 : AV} (hC : Ct MX4_take h [vR 4 j, a0] S Q') (k : ∀ (r : Option AV) (S' : ST), Q' r S' → V MX4_readValue (h + 1) 6 L (r.toList ++ st) S' Q) (hj : j < NI 4) (hw : wid st ≤ 8) : V MX4_readValue (h + 1) 3 L (a0 :: vR 4 j :: st) S Q :=
  v_callV (M' := MX4_take) (c := 4) (As := [a0]) dX4_readValue_3 ml_X4_42 im_X4_take se_X4_take in_X4 cd_X4_take rfl LY_4 np_X4_take (by decide) hw hj hC k
theorem b_X4_readValue_6 {h : Nat} {L : LVs} {st : List AV} {S : ST} {Q : Option AV → ST → Prop} (k : o_is L st S (fun L st S => o_al L st S (fun L st S => o_get L st S (fun L st S => o_al L st S (fun L st S => o_get L st S (fun L st S => V MX4_readValue h 15 L st S Q) 4 2 (0, 0, 0)) 0) 4 0 (4, 9, 0)) 0) 1) : V MX4_readValue h 6 L st S Q :=
  v_istore_n dX4_readValue_6 rfl (by decide) (fun L st S k => v_aload_n dX4_readValue_7 rfl (fun L st S k => v_get dX4_readValue_8 rfl iX4 LY_4 rfl (by decide) rfl fl_X4_9 (fun L st S k => v_aload_n dX4_readValue_11 rfl (fun L st S k => v_get dX4_readValue_12 rfl iX4 LY_4 rfl (by decide) rfl fl_X4_19 (fun L st S k => k) k) k) k) k) k
theorem k_X4_readValue_15 {h : Nat} {L : LVs} {st : List AV} {S : ST} {Q Q' : Option AV → ST → Prop} {j : Nat} {a0 : AV} (hC : Ct MX9_contentAt h [vR 9 j, a0] S Q') (k : ∀ (r : Option AV) (S' : ST), Q' r S' → V MX4_readValue (h + 1) 18 L (r.toList ++ st) S' Q) (hj : j < NI 9) (hw : wid st ≤ 8) : V MX4_readValue (h + 1) 15 L (a0 :: vR 9 j :: st) S Q :=
  v_callV (M' := MX9_contentAt) (c := 9) (As := [a0]) dX4_readValue_15 ml_X4_64 im_X9_contentAt se_X9_contentAt in_X9 cd_X9_contentAt rfl LY_9 np_X9_contentAt (by decide) hw hj hC k
theorem b_X4_readValue_18 {h : Nat} {L : LVs} {st : List AV} {S : ST} {Q : Option AV → ST → Prop} (k : o_is L st S (fun L st S => o_al L st S (fun L st S => o_c L st S (fun L st S => V MX4_readValue h 21 L st S Q) (nI 3)) 0) 2) : V MX4_readValue h 18 L st S Q :=
  v_istore_n dX4_readValue_18 rfl (by decide) (fun L st S k => v_aload_n dX4_readValue_19 rfl (fun L st S k => v_iconst dX4_readValue_20 (by decide) (fun L st S k => k) k) k) k
theorem k_X4_readValue_21 {h : Nat} {L : LVs} {st : List AV} {S : ST} {Q Q' : Option AV → ST → Prop} {j : Nat} {a0 : AV} (hC : Ct MX4_take h [vR 4 j, a0] S Q') (k : ∀ (r : Option AV) (S' : ST), Q' r S' → V MX4_readValue (h + 1) 24 L (r.toList ++ st) S' Q) (hj : j < NI 4) (hw : wid st ≤ 8) : V MX4_readValue (h + 1) 21 L (a0 :: vR 4 j :: st) S Q :=
  v_callV (M' := MX4_take) (c := 4) (As := [a0]) dX4_readValue_21 ml_X4_42 im_X4_take se_X4_take in_X4 cd_X4_take rfl LY_4 np_X4_take (by decide) hw hj hC k
theorem b_X4_readValue_24 {h : Nat} {L : LVs} {st : List AV} {S : ST} {Q : Option AV → ST → Prop} (k : t_1 L st S (fun x => x = nI 0) (fun L st S => V MX4_readValue h 47 L st S Q) (fun L st S => V MX4_readValue h 27 L st S Q)) : V MX4_readValue h 24 L st S Q :=
  w_if_eq dX4_readValue_24 (by decide) rfl k
theorem b_X4_readValue_27 {h : Nat} {L : LVs} {st : List AV} {S : ST} {Q : Option AV → ST → Prop} (k : o_al L st S (fun L st S => o_get L st S (fun L st S => o_il L st S (fun L st S => t_1 L st S (fun x => x = nI 0) (fun L st S => V MX4_readValue h 40 L st S Q) (fun L st S => V MX4_readValue h 35 L st S Q)) 1) 4 1 (4, 6, 0)) 0) : V MX4_readValue h 27 L st S Q :=
  v_aload_n dX4_readValue_27 rfl (fun L st S k => v_get dX4_readValue_28 rfl iX4 LY_4 rfl (by decide) rfl fl_X4_15 (fun L st S k => v_iload_n dX4_readValue_31 rfl (fun L st S k => w_if_eq dX4_readValue_32 (by decide) rfl k) k) k) k
theorem b_X4_readValue_35 {h : Nat} {L : LVs} {st : List AV} {S : ST} {Q : Option AV → ST → Prop} (k : o_il L st S (fun L st S => o_ineg L st S (fun L st S => V MX4_readValue h 41 L st S Q)) 2) : V MX4_readValue h 35 L st S Q :=
  v_iload_n dX4_readValue_35 rfl (fun L st S k => v_ineg dX4_readValue_36 (fun L st S k => v_goto dX4_readValue_37 (by decide) k) k) k
theorem b_X4_readValue_40 {h : Nat} {L : LVs} {st : List AV} {S : ST} {Q : Option AV → ST → Prop} (k : o_il L st S (fun L st S => V MX4_readValue h 41 L st S Q) 2) : V MX4_readValue h 40 L st S Q :=
  v_iload_n dX4_readValue_40 rfl (fun L st S k => k) k
theorem b_X4_readValue_41 {h : Nat} {L : LVs} {st : List AV} {S : ST} {Q : Option AV → ST → Prop} (k : o_c L st S (fun L st S => V MX4_readValue h 42 L st S Q) (nI 1)) : V MX4_readValue h 41 L st S Q :=
  v_iconst dX4_readValue_41 (by decide) (fun L st S k => k) k
theorem k_X4_readValue_42 {h : Nat} {L : LVs} {st : List AV} {S : ST} {Q Q' : Option AV → ST → Prop} {j : Nat} {a0 a1 : AV} (hC : Ct MX6_addValue h [vR 6 j, a0, a1] S Q') (k : ∀ (r : Option AV) (S' : ST), Q' r S' → V MX4_readValue (h + 1) 45 L (r.toList ++ st) S' Q) (hj : j < NI 6) (hw : wid st ≤ 8) : V MX4_readValue (h + 1) 42 L (a1 :: a0 :: vR 6 j :: st) S Q :=
  v_callV (M' := MX6_addValue) (c := 6) (As := [a0, a1]) dX4_readValue_42 ml_X4_83 im_X6_addValue se_X6_addValue in_X6 cd_X6_addValue rfl LY_6 np_X6_addValue (by decide) hw hj hC k
theorem b_X4_readValue_45 {h : Nat} {L : LVs} {st : List AV} {S : ST} {Q : Option AV → ST → Prop} (k : o_c L st S (fun L st S => t_zr st S Q) (nI 1)) : V MX4_readValue h 45 L st S Q :=
  v_iconst dX4_readValue_45 (by decide) (fun L st S k => w_zr dX4_readValue_46 rfl k) k
theorem b_X4_readValue_47 {h : Nat} {L : LVs} {st : List AV} {S : ST} {Q : Option AV → ST → Prop} (k : o_il L st S (fun L st S => t_1 L st S (fun x => x = nI 0) (fun L st S => V MX4_readValue h 53 L st S Q) (fun L st S => V MX4_readValue h 51 L st S Q)) 1) : V MX4_readValue h 47 L st S Q :=
  v_iload_n dX4_readValue_47 rfl (fun L st S k => w_if_eq dX4_readValue_48 (by decide) rfl k) k
theorem b_X4_readValue_51 {h : Nat} {L : LVs} {st : List AV} {S : ST} {Q : Option AV → ST → Prop} (k : o_c L st S (fun L st S => t_zr st S Q) (nI 0)) : V MX4_readValue h 51 L st S Q :=
  v_iconst dX4_readValue_51 (by decide) (fun L st S k => w_zr dX4_readValue_52 rfl k) k
theorem b_X4_readValue_53 {h : Nat} {L : LVs} {st : List AV} {S : ST} {Q : Option AV → ST → Prop} (k : o_al L st S (fun L st S => o_get L st S (fun L st S => o_il L st S (fun L st S => o_al L st S (fun L st S => o_c L st S (fun L st S => V MX4_readValue h 60 L st S Q) (nI 4)) 0) 2) 4 1 (4, 6, 0)) 0) : V MX4_readValue h 53 L st S Q :=
  v_aload_n dX4_readValue_53 rfl (fun L st S k => v_get dX4_readValue_54 rfl iX4 LY_4 rfl (by decide) rfl fl_X4_15 (fun L st S k => v_iload_n dX4_readValue_57 rfl (fun L st S k => v_aload_n dX4_readValue_58 rfl (fun L st S k => v_iconst dX4_readValue_59 (by decide) (fun L st S k => k) k) k) k) k) k
theorem k_X4_readValue_60 {h : Nat} {L : LVs} {st : List AV} {S : ST} {Q Q' : Option AV → ST → Prop} {j : Nat} {a0 : AV} (hC : Ct MX4_isNext h [vR 4 j, a0] S Q') (k : ∀ (r : Option AV) (S' : ST), Q' r S' → V MX4_readValue (h + 1) 63 L (r.toList ++ st) S' Q) (hj : j < NI 4) (hw : wid st ≤ 8) : V MX4_readValue (h + 1) 60 L (a0 :: vR 4 j :: st) S Q :=
  v_callV (M' := MX4_isNext) (c := 4) (As := [a0]) dX4_readValue_60 ml_X4_61 im_X4_isNext se_X4_isNext in_X4 cd_X4_isNext rfl LY_4 np_X4_isNext (by decide) hw hj hC k
theorem b_X4_readValue_63 {h : Nat} {L : LVs} {st : List AV} {S : ST} {Q : Option AV → ST → Prop} (k : t_1 L st S (fun x => x = nI 0) (fun L st S => V MX4_readValue h 70 L st S Q) (fun L st S => V MX4_readValue h 66 L st S Q)) : V MX4_readValue h 63 L st S Q :=
  w_if_eq dX4_readValue_63 (by decide) rfl k
theorem b_X4_readValue_66 {h : Nat} {L : LVs} {st : List AV} {S : ST} {Q : Option AV → ST → Prop} (k : o_c L st S (fun L st S => V MX4_readValue h 71 L st S Q) (nI 2)) : V MX4_readValue h 66 L st S Q :=
  v_iconst dX4_readValue_66 (by decide) (fun L st S k => v_goto dX4_readValue_67 (by decide) k) k
theorem b_X4_readValue_70 {h : Nat} {L : LVs} {st : List AV} {S : ST} {Q : Option AV → ST → Prop} (k : o_c L st S (fun L st S => V MX4_readValue h 71 L st S Q) (nI 0)) : V MX4_readValue h 70 L st S Q :=
  v_iconst dX4_readValue_70 (by decide) (fun L st S k => k) k
theorem k_X4_readValue_71 {h : Nat} {L : LVs} {st : List AV} {S : ST} {Q Q' : Option AV → ST → Prop} {j : Nat} {a0 a1 : AV} (hC : Ct MX6_addValue h [vR 6 j, a0, a1] S Q') (k : ∀ (r : Option AV) (S' : ST), Q' r S' → V MX4_readValue (h + 1) 74 L (r.toList ++ st) S' Q) (hj : j < NI 6) (hw : wid st ≤ 8) : V MX4_readValue (h + 1) 71 L (a1 :: a0 :: vR 6 j :: st) S Q :=
  v_callV (M' := MX6_addValue) (c := 6) (As := [a0, a1]) dX4_readValue_71 ml_X4_83 im_X6_addValue se_X6_addValue in_X6 cd_X6_addValue rfl LY_6 np_X6_addValue (by decide) hw hj hC k
theorem b_X4_readValue_74 {h : Nat} {L : LVs} {st : List AV} {S : ST} {Q : Option AV → ST → Prop} (k : o_al L st S (fun L st S => o_c L st S (fun L st S => V MX4_readValue h 76 L st S Q) (nI 4)) 0) : V MX4_readValue h 74 L st S Q :=
  v_aload_n dX4_readValue_74 rfl (fun L st S k => v_iconst dX4_readValue_75 (by decide) (fun L st S k => k) k) k
theorem k_X4_readValue_76 {h : Nat} {L : LVs} {st : List AV} {S : ST} {Q Q' : Option AV → ST → Prop} {j : Nat} {a0 : AV} (hC : Ct MX4_take h [vR 4 j, a0] S Q') (k : ∀ (r : Option AV) (S' : ST), Q' r S' → V MX4_readValue (h + 1) 79 L (r.toList ++ st) S' Q) (hj : j < NI 4) (hw : wid st ≤ 8) : V MX4_readValue (h + 1) 76 L (a0 :: vR 4 j :: st) S Q :=
  v_callV (M' := MX4_take) (c := 4) (As := [a0]) dX4_readValue_76 ml_X4_42 im_X4_take se_X4_take in_X4 cd_X4_take rfl LY_4 np_X4_take (by decide) hw hj hC k
theorem b_X4_readValue_79 {h : Nat} {L : LVs} {st : List AV} {S : ST} {Q : Option AV → ST → Prop} (k : t_1 L st S (fun x => x = nI 0) (fun L st S => V MX4_readValue h 82 L st S Q) (fun L st S => V MX4_readValue h 92 L st S Q)) : V MX4_readValue h 79 L st S Q :=
  w_if_ne dX4_readValue_79 (by decide) rfl k
theorem b_X4_readValue_82 {h : Nat} {L : LVs} {st : List AV} {S : ST} {Q : Option AV → ST → Prop} (k : o_al L st S (fun L st S => o_c L st S (fun L st S => V MX4_readValue h 86 L st S Q) (nI 213)) 0) : V MX4_readValue h 82 L st S Q :=
  v_aload_n dX4_readValue_82 rfl (fun L st S k => v_sipush dX4_readValue_83 (by decide) (fun L st S k => k) k) k
theorem k_X4_readValue_86 {h : Nat} {L : LVs} {st : List AV} {S : ST} {Q Q' : Option AV → ST → Prop} {j : Nat} {a0 : AV} (hC : Ct MX4_take h [vR 4 j, a0] S Q') (k : ∀ (r : Option AV) (S' : ST), Q' r S' → V MX4_readValue (h + 1) 89 L (r.toList ++ st) S' Q) (hj : j < NI 4) (hw : wid st ≤ 8) : V MX4_readValue (h + 1) 86 L (a0 :: vR 4 j :: st) S Q :=
  v_callV (M' := MX4_take) (c := 4) (As := [a0]) dX4_readValue_86 ml_X4_42 im_X4_take se_X4_take in_X4 cd_X4_take rfl LY_4 np_X4_take (by decide) hw hj hC k
theorem b_X4_readValue_89 {h : Nat} {L : LVs} {st : List AV} {S : ST} {Q : Option AV → ST → Prop} (k : t_1 L st S (fun x => x = nI 0) (fun L st S => V MX4_readValue h 96 L st S Q) (fun L st S => V MX4_readValue h 92 L st S Q)) : V MX4_readValue h 89 L st S Q :=
  w_if_eq dX4_readValue_89 (by decide) rfl k
theorem b_X4_readValue_92 {h : Nat} {L : LVs} {st : List AV} {S : ST} {Q : Option AV → ST → Prop} (k : o_c L st S (fun L st S => V MX4_readValue h 97 L st S Q) (nI 1)) : V MX4_readValue h 92 L st S Q :=
  v_iconst dX4_readValue_92 (by decide) (fun L st S k => v_goto dX4_readValue_93 (by decide) k) k
theorem b_X4_readValue_96 {h : Nat} {L : LVs} {st : List AV} {S : ST} {Q : Option AV → ST → Prop} (k : o_c L st S (fun L st S => V MX4_readValue h 97 L st S Q) (nI 0)) : V MX4_readValue h 96 L st S Q :=
  v_iconst dX4_readValue_96 (by decide) (fun L st S k => k) k
theorem b_X4_readValue_97 {h : Nat} {L : LVs} {st : List AV} {S : ST} {Q : Option AV → ST → Prop} (k : t_zr st S Q) : V MX4_readValue h 97 L st S Q :=
  w_zr dX4_readValue_97 rfl k
-- QueryForge$Reader.readItem()Z
theorem dX4_readItem_0 : decode cX4_readItem 0 = .ok (.aload_n 0, 1) := by decide +kernel
theorem dX4_readItem_1 : decode cX4_readItem 1 = .ok (.getfield 9, 3) := by decide +kernel
theorem dX4_readItem_4 : decode cX4_readItem 4 = .ok (.aload_n 0, 1) := by decide +kernel
theorem dX4_readItem_5 : decode cX4_readItem 5 = .ok (.getfield 19, 3) := by decide +kernel
theorem dX4_readItem_8 : decode cX4_readItem 8 = .ok (.invokevirtual 23, 3) := by decide +kernel
theorem dX4_readItem_11 : decode cX4_readItem 11 = .ok (.istore_n 1, 1) := by decide +kernel
theorem dX4_readItem_12 : decode cX4_readItem 12 = .ok (.iload_n 1, 1) := by decide +kernel
theorem dX4_readItem_13 : decode cX4_readItem 13 = .ok (.sipush 218, 3) := by decide +kernel
theorem dX4_readItem_16 : decode cX4_readItem 16 = .ok (.if_icmp .eq 24, 3) := by decide +kernel
theorem dX4_readItem_19 : decode cX4_readItem 19 = .ok (.iload_n 1, 1) := by decide +kernel
theorem dX4_readItem_20 : decode cX4_readItem 20 = .ok (.sipush 219, 3) := by decide +kernel
theorem dX4_readItem_23 : decode cX4_readItem 23 = .ok (.if_icmp .eq 17, 3) := by decide +kernel
theorem dX4_readItem_26 : decode cX4_readItem 26 = .ok (.iload_n 1, 1) := by decide +kernel
theorem dX4_readItem_27 : decode cX4_readItem 27 = .ok (.sipush 220, 3) := by decide +kernel
theorem dX4_readItem_30 : decode cX4_readItem 30 = .ok (.if_icmp .eq 10, 3) := by decide +kernel
theorem dX4_readItem_33 : decode cX4_readItem 33 = .ok (.iload_n 1, 1) := by decide +kernel
theorem dX4_readItem_34 : decode cX4_readItem 34 = .ok (.sipush 221, 3) := by decide +kernel
theorem dX4_readItem_37 : decode cX4_readItem 37 = .ok (.if_icmp .ne 7, 3) := by decide +kernel
theorem dX4_readItem_40 : decode cX4_readItem 40 = .ok (.iconst 1, 1) := by decide +kernel
theorem dX4_readItem_41 : decode cX4_readItem 41 = .ok (.goto 4, 3) := by decide +kernel
theorem dX4_readItem_44 : decode cX4_readItem 44 = .ok (.iconst 0, 1) := by decide +kernel
theorem dX4_readItem_45 : decode cX4_readItem 45 = .ok (.istore_n 2, 1) := by decide +kernel
theorem dX4_readItem_46 : decode cX4_readItem 46 = .ok (.iload_n 2, 1) := by decide +kernel
theorem dX4_readItem_47 : decode cX4_readItem 47 = .ok (.ifCond .eq 13, 3) := by decide +kernel
theorem dX4_readItem_50 : decode cX4_readItem 50 = .ok (.aload_n 0, 1) := by decide +kernel
theorem dX4_readItem_51 : decode cX4_readItem 51 = .ok (.dup, 1) := by decide +kernel
theorem dX4_readItem_52 : decode cX4_readItem 52 = .ok (.getfield 19, 3) := by decide +kernel
theorem dX4_readItem_55 : decode cX4_readItem 55 = .ok (.iconst 1, 1) := by decide +kernel
theorem dX4_readItem_56 : decode cX4_readItem 56 = .ok (.iadd, 1) := by decide +kernel
theorem dX4_readItem_57 : decode cX4_readItem 57 = .ok (.putfield 19, 3) := by decide +kernel
theorem dX4_readItem_60 : decode cX4_readItem 60 = .ok (.iload_n 2, 1) := by decide +kernel
theorem dX4_readItem_61 : decode cX4_readItem 61 = .ok (.ifCond .eq 37, 3) := by decide +kernel
theorem dX4_readItem_64 : decode cX4_readItem 64 = .ok (.aload_n 0, 1) := by decide +kernel
theorem dX4_readItem_65 : decode cX4_readItem 65 = .ok (.bipush 40, 2) := by decide +kernel
theorem dX4_readItem_67 : decode cX4_readItem 67 = .ok (.invokevirtual 42, 3) := by decide +kernel
theorem dX4_readItem_70 : decode cX4_readItem 70 = .ok (.ifCond .eq 24, 3) := by decide +kernel
theorem dX4_readItem_73 : decode cX4_readItem 73 = .ok (.aload_n 0, 1) := by decide +kernel
theorem dX4_readItem_74 : decode cX4_readItem 74 = .ok (.iconst 0, 1) := by decide +kernel
theorem dX4_readItem_75 : decode cX4_readItem 75 = .ok (.invokevirtual 86, 3) := by decide +kernel
theorem dX4_readItem_78 : decode cX4_readItem 78 = .ok (.ifCond .eq 16, 3) := by decide +kernel
theorem dX4_readItem_81 : decode cX4_readItem 81 = .ok (.aload_n 0, 1) := by decide +kernel
theorem dX4_readItem_82 : decode cX4_readItem 82 = .ok (.bipush 41, 2) := by decide +kernel
theorem dX4_readItem_84 : decode cX4_readItem 84 = .ok (.invokevirtual 42, 3) := by decide +kernel
theorem dX4_readItem_87 : decode cX4_readItem 87 = .ok (.ifCond .eq 7, 3) := by decide +kernel
theorem dX4_readItem_90 : decode cX4_readItem 90 = .ok (.iconst 1, 1) := by decide +kernel
theorem dX4_readItem_91 : decode cX4_readItem 91 = .ok (.goto 12, 3) := by decide +kernel
theorem dX4_readItem_94 : decode cX4_readItem 94 = .ok (.iconst 0, 1) := by decide +kernel
theorem dX4_readItem_95 : decode cX4_readItem 95 = .ok (.goto 8, 3) := by decide +kernel
theorem dX4_readItem_98 : decode cX4_readItem 98 = .ok (.aload_n 0, 1) := by decide +kernel
theorem dX4_readItem_99 : decode cX4_readItem 99 = .ok (.iconst 0, 1) := by decide +kernel
theorem dX4_readItem_100 : decode cX4_readItem 100 = .ok (.invokevirtual 86, 3) := by decide +kernel
theorem dX4_readItem_103 : decode cX4_readItem 103 = .ok (.istore_n 3, 1) := by decide +kernel
theorem dX4_readItem_104 : decode cX4_readItem 104 = .ok (.aload_n 0, 1) := by decide +kernel
theorem dX4_readItem_105 : decode cX4_readItem 105 = .ok (.getfield 15, 3) := by decide +kernel
theorem dX4_readItem_108 : decode cX4_readItem 108 = .ok (.iload_n 2, 1) := by decide +kernel
theorem dX4_readItem_109 : decode cX4_readItem 109 = .ok (.ifCond .eq 7, 3) := by decide +kernel
theorem dX4_readItem_112 : decode cX4_readItem 112 = .ok (.iload_n 1, 1) := by decide +kernel
theorem dX4_readItem_113 : decode cX4_readItem 113 = .ok (.goto 4, 3) := by decide +kernel
theorem dX4_readItem_116 : decode cX4_readItem 116 = .ok (.iconst (-1), 1) := by decide +kernel
theorem dX4_readItem_117 : decode cX4_readItem 117 = .ok (.invokevirtual 89, 3) := by decide +kernel
theorem dX4_readItem_120 : decode cX4_readItem 120 = .ok (.iload_n 3, 1) := by decide +kernel
theorem dX4_readItem_121 : decode cX4_readItem 121 = .ok (.ireturn, 1) := by decide +kernel
theorem b_X4_readItem_0 {h : Nat} {L : LVs} {st : List AV} {S : ST} {Q : Option AV → ST → Prop} (k : o_al L st S (fun L st S => o_get L st S (fun L st S => o_al L st S (fun L st S => o_get L st S (fun L st S => V MX4_readItem h 8 L st S Q) 4 2 (0, 0, 0)) 0) 4 0 (4, 9, 0)) 0) : V MX4_readItem h 0 L st S Q :=
  v_aload_n dX4_readItem_0 rfl (fun L st S k => v_get dX4_readItem_1 rfl iX4 LY_4 rfl (by decide) rfl fl_X4_9 (fun L st S k => v_aload_n dX4_readItem_4 rfl (fun L st S k => v_get dX4_readItem_5 rfl iX4 LY_4 rfl (by decide) rfl fl_X4_19 (fun L st S k => k) k) k) k) k
theorem k_X4_readItem_8 {h : Nat} {L : LVs} {st : List AV} {S : ST} {Q Q' : Option AV → ST → Prop} {j : Nat} {a0 : AV} (hC : Ct MX9_kindAt h [vR 9 j, a0] S Q') (k : ∀ (r : Option AV) (S' : ST), Q' r S' → V MX4_readItem (h + 1) 11 L (r.toList ++ st) S' Q) (hj : j < NI 9) (hw : wid st ≤ 8) : V MX4_readItem (h + 1) 8 L (a0 :: vR 9 j :: st) S Q :=
  v_callV (M' := MX9_kindAt) (c := 9) (As := [a0]) dX4_readItem_8 ml_X4_23 im_X9_kindAt se_X9_kindAt in_X9 cd_X9_kindAt rfl LY_9 np_X9_kindAt (by decide) hw hj hC k
theorem b_X4_readItem_11 {h : Nat} {L : LVs} {st : List AV} {S : ST} {Q : Option AV → ST → Prop} (k : o_is L st S (fun L st S => o_il L st S (fun L st S => o_c L st S (fun L st S => t_2 L st S (fun x y => x = y) (fun L st S => V MX4_readItem h 40 L st S Q) (fun L st S => V MX4_readItem h 19 L st S Q)) (nI 218)) 1) 1) : V MX4_readItem h 11 L st S Q :=
  v_istore_n dX4_readItem_11 rfl (by decide) (fun L st S k => v_iload_n dX4_readItem_12 rfl (fun L st S k => v_sipush dX4_readItem_13 (by decide) (fun L st S k => w_icmp_eq dX4_readItem_16 (by decide) rfl k) k) k) k
theorem b_X4_readItem_19 {h : Nat} {L : LVs} {st : List AV} {S : ST} {Q : Option AV → ST → Prop} (k : o_il L st S (fun L st S => o_c L st S (fun L st S => t_2 L st S (fun x y => x = y) (fun L st S => V MX4_readItem h 40 L st S Q) (fun L st S => V MX4_readItem h 26 L st S Q)) (nI 219)) 1) : V MX4_readItem h 19 L st S Q :=
  v_iload_n dX4_readItem_19 rfl (fun L st S k => v_sipush dX4_readItem_20 (by decide) (fun L st S k => w_icmp_eq dX4_readItem_23 (by decide) rfl k) k) k
theorem b_X4_readItem_26 {h : Nat} {L : LVs} {st : List AV} {S : ST} {Q : Option AV → ST → Prop} (k : o_il L st S (fun L st S => o_c L st S (fun L st S => t_2 L st S (fun x y => x = y) (fun L st S => V MX4_readItem h 40 L st S Q) (fun L st S => V MX4_readItem h 33 L st S Q)) (nI 220)) 1) : V MX4_readItem h 26 L st S Q :=
  v_iload_n dX4_readItem_26 rfl (fun L st S k => v_sipush dX4_readItem_27 (by decide) (fun L st S k => w_icmp_eq dX4_readItem_30 (by decide) rfl k) k) k
theorem b_X4_readItem_33 {h : Nat} {L : LVs} {st : List AV} {S : ST} {Q : Option AV → ST → Prop} (k : o_il L st S (fun L st S => o_c L st S (fun L st S => t_2 L st S (fun x y => x = y) (fun L st S => V MX4_readItem h 40 L st S Q) (fun L st S => V MX4_readItem h 44 L st S Q)) (nI 221)) 1) : V MX4_readItem h 33 L st S Q :=
  v_iload_n dX4_readItem_33 rfl (fun L st S k => v_sipush dX4_readItem_34 (by decide) (fun L st S k => w_icmp_ne dX4_readItem_37 (by decide) rfl k) k) k
theorem b_X4_readItem_40 {h : Nat} {L : LVs} {st : List AV} {S : ST} {Q : Option AV → ST → Prop} (k : o_c L st S (fun L st S => V MX4_readItem h 45 L st S Q) (nI 1)) : V MX4_readItem h 40 L st S Q :=
  v_iconst dX4_readItem_40 (by decide) (fun L st S k => v_goto dX4_readItem_41 (by decide) k) k
theorem b_X4_readItem_44 {h : Nat} {L : LVs} {st : List AV} {S : ST} {Q : Option AV → ST → Prop} (k : o_c L st S (fun L st S => V MX4_readItem h 45 L st S Q) (nI 0)) : V MX4_readItem h 44 L st S Q :=
  v_iconst dX4_readItem_44 (by decide) (fun L st S k => k) k
theorem b_X4_readItem_45 {h : Nat} {L : LVs} {st : List AV} {S : ST} {Q : Option AV → ST → Prop} (k : o_is L st S (fun L st S => o_il L st S (fun L st S => t_1 L st S (fun x => x = nI 0) (fun L st S => V MX4_readItem h 60 L st S Q) (fun L st S => V MX4_readItem h 50 L st S Q)) 2) 2) : V MX4_readItem h 45 L st S Q :=
  v_istore_n dX4_readItem_45 rfl (by decide) (fun L st S k => v_iload_n dX4_readItem_46 rfl (fun L st S k => w_if_eq dX4_readItem_47 (by decide) rfl k) k) k
theorem b_X4_readItem_50 {h : Nat} {L : LVs} {st : List AV} {S : ST} {Q : Option AV → ST → Prop} (k : o_al L st S (fun L st S => o_dup L st S (fun L st S => o_get L st S (fun L st S => o_c L st S (fun L st S => o_iadd L st S (fun L st S => o_puti L st S (fun L st S => V MX4_readItem h 60 L st S Q) 4 2)) (nI 1)) 4 2 (0, 0, 0))) 0) : V MX4_readItem h 50 L st S Q :=
  v_aload_n dX4_readItem_50 rfl (fun L st S k => v_dup dX4_readItem_51 (fun L st S k => v_get dX4_readItem_52 rfl iX4 LY_4 rfl (by decide) rfl fl_X4_19 (fun L st S k => v_iconst dX4_readItem_55 (by decide) (fun L st S k => v_iadd dX4_readItem_56 (fun L st S k => v_puti dX4_readItem_57 rfl iX4 tyX4_ok nmX4 LY_4 rfl (by decide) rfl fl_X4_19 rfl rfl (fun L st S k => k) k) k) k) k) k) k
theorem b_X4_readItem_60 {h : Nat} {L : LVs} {st : List AV} {S : ST} {Q : Option AV → ST → Prop} (k : o_il L st S (fun L st S => t_1 L st S (fun x => x = nI 0) (fun L st S => V MX4_readItem h 98 L st S Q) (fun L st S => V MX4_readItem h 64 L st S Q)) 2) : V MX4_readItem h 60 L st S Q :=
  v_iload_n dX4_readItem_60 rfl (fun L st S k => w_if_eq dX4_readItem_61 (by decide) rfl k) k
theorem b_X4_readItem_64 {h : Nat} {L : LVs} {st : List AV} {S : ST} {Q : Option AV → ST → Prop} (k : o_al L st S (fun L st S => o_c L st S (fun L st S => V MX4_readItem h 67 L st S Q) (nI 40)) 0) : V MX4_readItem h 64 L st S Q :=
  v_aload_n dX4_readItem_64 rfl (fun L st S k => v_bipush dX4_readItem_65 (by decide) (fun L st S k => k) k) k
theorem k_X4_readItem_67 {h : Nat} {L : LVs} {st : List AV} {S : ST} {Q Q' : Option AV → ST → Prop} {j : Nat} {a0 : AV} (hC : Ct MX4_take h [vR 4 j, a0] S Q') (k : ∀ (r : Option AV) (S' : ST), Q' r S' → V MX4_readItem (h + 1) 70 L (r.toList ++ st) S' Q) (hj : j < NI 4) (hw : wid st ≤ 8) : V MX4_readItem (h + 1) 67 L (a0 :: vR 4 j :: st) S Q :=
  v_callV (M' := MX4_take) (c := 4) (As := [a0]) dX4_readItem_67 ml_X4_42 im_X4_take se_X4_take in_X4 cd_X4_take rfl LY_4 np_X4_take (by decide) hw hj hC k
theorem b_X4_readItem_70 {h : Nat} {L : LVs} {st : List AV} {S : ST} {Q : Option AV → ST → Prop} (k : t_1 L st S (fun x => x = nI 0) (fun L st S => V MX4_readItem h 94 L st S Q) (fun L st S => V MX4_readItem h 73 L st S Q)) : V MX4_readItem h 70 L st S Q :=
  w_if_eq dX4_readItem_70 (by decide) rfl k
theorem b_X4_readItem_73 {h : Nat} {L : LVs} {st : List AV} {S : ST} {Q : Option AV → ST → Prop} (k : o_al L st S (fun L st S => o_c L st S (fun L st S => V MX4_readItem h 75 L st S Q) (nI 0)) 0) : V MX4_readItem h 73 L st S Q :=
  v_aload_n dX4_readItem_73 rfl (fun L st S k => v_iconst dX4_readItem_74 (by decide) (fun L st S k => k) k) k
theorem k_X4_readItem_75 {h : Nat} {L : LVs} {st : List AV} {S : ST} {Q Q' : Option AV → ST → Prop} {j : Nat} {a0 : AV} (hC : Ct MX4_expression h [vR 4 j, a0] S Q') (k : ∀ (r : Option AV) (S' : ST), Q' r S' → V MX4_readItem (h + 1) 78 L (r.toList ++ st) S' Q) (hj : j < NI 4) (hw : wid st ≤ 8) : V MX4_readItem (h + 1) 75 L (a0 :: vR 4 j :: st) S Q :=
  v_callV (M' := MX4_expression) (c := 4) (As := [a0]) dX4_readItem_75 ml_X4_86 im_X4_expression se_X4_expression in_X4 cd_X4_expression rfl LY_4 np_X4_expression (by decide) hw hj hC k
theorem b_X4_readItem_78 {h : Nat} {L : LVs} {st : List AV} {S : ST} {Q : Option AV → ST → Prop} (k : t_1 L st S (fun x => x = nI 0) (fun L st S => V MX4_readItem h 94 L st S Q) (fun L st S => V MX4_readItem h 81 L st S Q)) : V MX4_readItem h 78 L st S Q :=
  w_if_eq dX4_readItem_78 (by decide) rfl k
theorem b_X4_readItem_81 {h : Nat} {L : LVs} {st : List AV} {S : ST} {Q : Option AV → ST → Prop} (k : o_al L st S (fun L st S => o_c L st S (fun L st S => V MX4_readItem h 84 L st S Q) (nI 41)) 0) : V MX4_readItem h 81 L st S Q :=
  v_aload_n dX4_readItem_81 rfl (fun L st S k => v_bipush dX4_readItem_82 (by decide) (fun L st S k => k) k) k
theorem k_X4_readItem_84 {h : Nat} {L : LVs} {st : List AV} {S : ST} {Q Q' : Option AV → ST → Prop} {j : Nat} {a0 : AV} (hC : Ct MX4_take h [vR 4 j, a0] S Q') (k : ∀ (r : Option AV) (S' : ST), Q' r S' → V MX4_readItem (h + 1) 87 L (r.toList ++ st) S' Q) (hj : j < NI 4) (hw : wid st ≤ 8) : V MX4_readItem (h + 1) 84 L (a0 :: vR 4 j :: st) S Q :=
  v_callV (M' := MX4_take) (c := 4) (As := [a0]) dX4_readItem_84 ml_X4_42 im_X4_take se_X4_take in_X4 cd_X4_take rfl LY_4 np_X4_take (by decide) hw hj hC k
theorem b_X4_readItem_87 {h : Nat} {L : LVs} {st : List AV} {S : ST} {Q : Option AV → ST → Prop} (k : t_1 L st S (fun x => x = nI 0) (fun L st S => V MX4_readItem h 94 L st S Q) (fun L st S => V MX4_readItem h 90 L st S Q)) : V MX4_readItem h 87 L st S Q :=
  w_if_eq dX4_readItem_87 (by decide) rfl k
theorem b_X4_readItem_90 {h : Nat} {L : LVs} {st : List AV} {S : ST} {Q : Option AV → ST → Prop} (k : o_c L st S (fun L st S => V MX4_readItem h 103 L st S Q) (nI 1)) : V MX4_readItem h 90 L st S Q :=
  v_iconst dX4_readItem_90 (by decide) (fun L st S k => v_goto dX4_readItem_91 (by decide) k) k
theorem b_X4_readItem_94 {h : Nat} {L : LVs} {st : List AV} {S : ST} {Q : Option AV → ST → Prop} (k : o_c L st S (fun L st S => V MX4_readItem h 103 L st S Q) (nI 0)) : V MX4_readItem h 94 L st S Q :=
  v_iconst dX4_readItem_94 (by decide) (fun L st S k => v_goto dX4_readItem_95 (by decide) k) k
theorem b_X4_readItem_98 {h : Nat} {L : LVs} {st : List AV} {S : ST} {Q : Option AV → ST → Prop} (k : o_al L st S (fun L st S => o_c L st S (fun L st S => V MX4_readItem h 100 L st S Q) (nI 0)) 0) : V MX4_readItem h 98 L st S Q :=
  v_aload_n dX4_readItem_98 rfl (fun L st S k => v_iconst dX4_readItem_99 (by decide) (fun L st S k => k) k) k
theorem k_X4_readItem_100 {h : Nat} {L : LVs} {st : List AV} {S : ST} {Q Q' : Option AV → ST → Prop} {j : Nat} {a0 : AV} (hC : Ct MX4_expression h [vR 4 j, a0] S Q') (k : ∀ (r : Option AV) (S' : ST), Q' r S' → V MX4_readItem (h + 1) 103 L (r.toList ++ st) S' Q) (hj : j < NI 4) (hw : wid st ≤ 8) : V MX4_readItem (h + 1) 100 L (a0 :: vR 4 j :: st) S Q :=
  v_callV (M' := MX4_expression) (c := 4) (As := [a0]) dX4_readItem_100 ml_X4_86 im_X4_expression se_X4_expression in_X4 cd_X4_expression rfl LY_4 np_X4_expression (by decide) hw hj hC k
theorem b_X4_readItem_103 {h : Nat} {L : LVs} {st : List AV} {S : ST} {Q : Option AV → ST → Prop} (k : o_is L st S (fun L st S => o_al L st S (fun L st S => o_get L st S (fun L st S => o_il L st S (fun L st S => t_1 L st S (fun x => x = nI 0) (fun L st S => V MX4_readItem h 116 L st S Q) (fun L st S => V MX4_readItem h 112 L st S Q)) 2) 4 1 (4, 6, 0)) 0) 3) : V MX4_readItem h 103 L st S Q :=
  v_istore_n dX4_readItem_103 rfl (by decide) (fun L st S k => v_aload_n dX4_readItem_104 rfl (fun L st S k => v_get dX4_readItem_105 rfl iX4 LY_4 rfl (by decide) rfl fl_X4_15 (fun L st S k => v_iload_n dX4_readItem_108 rfl (fun L st S k => w_if_eq dX4_readItem_109 (by decide) rfl k) k) k) k) k
theorem b_X4_readItem_112 {h : Nat} {L : LVs} {st : List AV} {S : ST} {Q : Option AV → ST → Prop} (k : o_il L st S (fun L st S => V MX4_readItem h 117 L st S Q) 1) : V MX4_readItem h 112 L st S Q :=
  v_iload_n dX4_readItem_112 rfl (fun L st S k => v_goto dX4_readItem_113 (by decide) k) k
theorem b_X4_readItem_116 {h : Nat} {L : LVs} {st : List AV} {S : ST} {Q : Option AV → ST → Prop} (k : o_c L st S (fun L st S => V MX4_readItem h 117 L st S Q) (-1)) : V MX4_readItem h 116 L st S Q :=
  v_iconst dX4_readItem_116 (by decide) (fun L st S k => k) k
theorem k_X4_readItem_117 {h : Nat} {L : LVs} {st : List AV} {S : ST} {Q Q' : Option AV → ST → Prop} {j : Nat} {a0 : AV} (hC : Ct MX6_addItem h [vR 6 j, a0] S Q') (k : ∀ (r : Option AV) (S' : ST), Q' r S' → V MX4_readItem (h + 1) 120 L (r.toList ++ st) S' Q) (hj : j < NI 6) (hw : wid st ≤ 8) : V MX4_readItem (h + 1) 117 L (a0 :: vR 6 j :: st) S Q :=
  v_callV (M' := MX6_addItem) (c := 6) (As := [a0]) dX4_readItem_117 ml_X4_89 im_X6_addItem se_X6_addItem in_X6 cd_X6_addItem rfl LY_6 np_X6_addItem (by decide) hw hj hC k
theorem b_X4_readItem_120 {h : Nat} {L : LVs} {st : List AV} {S : ST} {Q : Option AV → ST → Prop} (k : o_il L st S (fun L st S => t_zr st S Q) 3) : V MX4_readItem h 120 L st S Q :=
  v_iload_n dX4_readItem_120 rfl (fun L st S k => w_zr dX4_readItem_121 rfl k) k
-- QueryForge$Reader.readAssignment()Z
theorem dX4_readAssignment_0 : decode cX4_readAssignment 0 = .ok (.aload_n 0, 1) := by decide +kernel
theorem dX4_readAssignment_1 : decode cX4_readAssignment 1 = .ok (.getfield 15, 3) := by decide +kernel
theorem dX4_readAssignment_4 : decode cX4_readAssignment 4 = .ok (.aload_n 0, 1) := by decide +kernel
theorem dX4_readAssignment_5 : decode cX4_readAssignment 5 = .ok (.getfield 9, 3) := by decide +kernel
theorem dX4_readAssignment_8 : decode cX4_readAssignment 8 = .ok (.aload_n 0, 1) := by decide +kernel
theorem dX4_readAssignment_9 : decode cX4_readAssignment 9 = .ok (.getfield 19, 3) := by decide +kernel
theorem dX4_readAssignment_12 : decode cX4_readAssignment 12 = .ok (.invokevirtual 64, 3) := by decide +kernel
theorem dX4_readAssignment_15 : decode cX4_readAssignment 15 = .ok (.putfield 92, 3) := by decide +kernel
theorem dX4_readAssignment_18 : decode cX4_readAssignment 18 = .ok (.aload_n 0, 1) := by decide +kernel
theorem dX4_readAssignment_19 : decode cX4_readAssignment 19 = .ok (.iconst 2, 1) := by decide +kernel
theorem dX4_readAssignment_20 : decode cX4_readAssignment 20 = .ok (.invokevirtual 42, 3) := by decide +kernel
theorem dX4_readAssignment_23 : decode cX4_readAssignment 23 = .ok (.ifCond .eq 24, 3) := by decide +kernel
theorem dX4_readAssignment_26 : decode cX4_readAssignment 26 = .ok (.aload_n 0, 1) := by decide +kernel
theorem dX4_readAssignment_27 : decode cX4_readAssignment 27 = .ok (.bipush 61, 2) := by decide +kernel
theorem dX4_readAssignment_29 : decode cX4_readAssignment 29 = .ok (.invokevirtual 42, 3) := by decide +kernel
theorem dX4_readAssignment_32 : decode cX4_readAssignment 32 = .ok (.ifCond .eq 15, 3) := by decide +kernel
theorem dX4_readAssignment_35 : decode cX4_readAssignment 35 = .ok (.aload_n 0, 1) := by decide +kernel
theorem dX4_readAssignment_36 : decode cX4_readAssignment 36 = .ok (.iconst 0, 1) := by decide +kernel
theorem dX4_readAssignment_37 : decode cX4_readAssignment 37 = .ok (.invokevirtual 86, 3) := by decide +kernel
theorem dX4_readAssignment_40 : decode cX4_readAssignment 40 = .ok (.ifCond .eq 7, 3) := by decide +kernel
theorem dX4_readAssignment_43 : decode cX4_readAssignment 43 = .ok (.iconst 1, 1) := by decide +kernel
theorem dX4_readAssignment_44 : decode cX4_readAssignment 44 = .ok (.goto 4, 3) := by decide +kernel
theorem dX4_readAssignment_47 : decode cX4_readAssignment 47 = .ok (.iconst 0, 1) := by decide +kernel
theorem dX4_readAssignment_48 : decode cX4_readAssignment 48 = .ok (.istore_n 1, 1) := by decide +kernel
theorem dX4_readAssignment_49 : decode cX4_readAssignment 49 = .ok (.aload_n 0, 1) := by decide +kernel
theorem dX4_readAssignment_50 : decode cX4_readAssignment 50 = .ok (.getfield 15, 3) := by decide +kernel
theorem dX4_readAssignment_53 : decode cX4_readAssignment 53 = .ok (.iconst (-1), 1) := by decide +kernel
theorem dX4_readAssignment_54 : decode cX4_readAssignment 54 = .ok (.invokevirtual 89, 3) := by decide +kernel
theorem dX4_readAssignment_57 : decode cX4_readAssignment 57 = .ok (.iload_n 1, 1) := by decide +kernel
theorem dX4_readAssignment_58 : decode cX4_readAssignment 58 = .ok (.ireturn, 1) := by decide +kernel
theorem b_X4_readAssignment_0 {h : Nat} {L : LVs} {st : List AV} {S : ST} {Q : Option AV → ST → Prop} (k : o_al L st S (fun L st S => o_get L st S (fun L st S => o_al L st S (fun L st S => o_get L st S (fun L st S => o_al L st S (fun L st S => o_get L st S (fun L st S => V MX4_readAssignment h 12 L st S Q) 4 2 (0, 0, 0)) 0) 4 0 (4, 9, 0)) 0) 4 1 (4, 6, 0)) 0) : V MX4_readAssignment h 0 L st S Q :=
  v_aload_n dX4_readAssignment_0 rfl (fun L st S k => v_get dX4_readAssignment_1 rfl iX4 LY_4 rfl (by decide) rfl fl_X4_15 (fun L st S k => v_aload_n dX4_readAssignment_4 rfl (fun L st S k => v_get dX4_readAssignment_5 rfl iX4 LY_4 rfl (by decide) rfl fl_X4_9 (fun L st S k => v_aload_n dX4_readAssignment_8 rfl (fun L st S k => v_get dX4_readAssignment_9 rfl iX4 LY_4 rfl (by decide) rfl fl_X4_19 (fun L st S k => k) k) k) k) k) k) k
theorem k_X4_readAssignment_12 {h : Nat} {L : LVs} {st : List AV} {S : ST} {Q Q' : Option AV → ST → Prop} {j : Nat} {a0 : AV} (hC : Ct MX9_contentAt h [vR 9 j, a0] S Q') (k : ∀ (r : Option AV) (S' : ST), Q' r S' → V MX4_readAssignment (h + 1) 15 L (r.toList ++ st) S' Q) (hj : j < NI 9) (hw : wid st ≤ 8) : V MX4_readAssignment (h + 1) 12 L (a0 :: vR 9 j :: st) S Q :=
  v_callV (M' := MX9_contentAt) (c := 9) (As := [a0]) dX4_readAssignment_12 ml_X4_64 im_X9_contentAt se_X9_contentAt in_X9 cd_X9_contentAt rfl LY_9 np_X9_contentAt (by decide) hw hj hC k
theorem b_X4_readAssignment_15 {h : Nat} {L : LVs} {st : List AV} {S : ST} {Q : Option AV → ST → Prop} (k : o_puti L st S (fun L st S => o_al L st S (fun L st S => o_c L st S (fun L st S => V MX4_readAssignment h 20 L st S Q) (nI 2)) 0) 6 11) : V MX4_readAssignment h 15 L st S Q :=
  v_puti dX4_readAssignment_15 rfl iX6 tyX6_ok nmX6 LY_6 rfl (by decide) rfl fl_X4_92 rfl rfl (fun L st S k => v_aload_n dX4_readAssignment_18 rfl (fun L st S k => v_iconst dX4_readAssignment_19 (by decide) (fun L st S k => k) k) k) k
theorem k_X4_readAssignment_20 {h : Nat} {L : LVs} {st : List AV} {S : ST} {Q Q' : Option AV → ST → Prop} {j : Nat} {a0 : AV} (hC : Ct MX4_take h [vR 4 j, a0] S Q') (k : ∀ (r : Option AV) (S' : ST), Q' r S' → V MX4_readAssignment (h + 1) 23 L (r.toList ++ st) S' Q) (hj : j < NI 4) (hw : wid st ≤ 8) : V MX4_readAssignment (h + 1) 20 L (a0 :: vR 4 j :: st) S Q :=
  v_callV (M' := MX4_take) (c := 4) (As := [a0]) dX4_readAssignment_20 ml_X4_42 im_X4_take se_X4_take in_X4 cd_X4_take rfl LY_4 np_X4_take (by decide) hw hj hC k
theorem b_X4_readAssignment_23 {h : Nat} {L : LVs} {st : List AV} {S : ST} {Q : Option AV → ST → Prop} (k : t_1 L st S (fun x => x = nI 0) (fun L st S => V MX4_readAssignment h 47 L st S Q) (fun L st S => V MX4_readAssignment h 26 L st S Q)) : V MX4_readAssignment h 23 L st S Q :=
  w_if_eq dX4_readAssignment_23 (by decide) rfl k
theorem b_X4_readAssignment_26 {h : Nat} {L : LVs} {st : List AV} {S : ST} {Q : Option AV → ST → Prop} (k : o_al L st S (fun L st S => o_c L st S (fun L st S => V MX4_readAssignment h 29 L st S Q) (nI 61)) 0) : V MX4_readAssignment h 26 L st S Q :=
  v_aload_n dX4_readAssignment_26 rfl (fun L st S k => v_bipush dX4_readAssignment_27 (by decide) (fun L st S k => k) k) k
theorem k_X4_readAssignment_29 {h : Nat} {L : LVs} {st : List AV} {S : ST} {Q Q' : Option AV → ST → Prop} {j : Nat} {a0 : AV} (hC : Ct MX4_take h [vR 4 j, a0] S Q') (k : ∀ (r : Option AV) (S' : ST), Q' r S' → V MX4_readAssignment (h + 1) 32 L (r.toList ++ st) S' Q) (hj : j < NI 4) (hw : wid st ≤ 8) : V MX4_readAssignment (h + 1) 29 L (a0 :: vR 4 j :: st) S Q :=
  v_callV (M' := MX4_take) (c := 4) (As := [a0]) dX4_readAssignment_29 ml_X4_42 im_X4_take se_X4_take in_X4 cd_X4_take rfl LY_4 np_X4_take (by decide) hw hj hC k
theorem b_X4_readAssignment_32 {h : Nat} {L : LVs} {st : List AV} {S : ST} {Q : Option AV → ST → Prop} (k : t_1 L st S (fun x => x = nI 0) (fun L st S => V MX4_readAssignment h 47 L st S Q) (fun L st S => V MX4_readAssignment h 35 L st S Q)) : V MX4_readAssignment h 32 L st S Q :=
  w_if_eq dX4_readAssignment_32 (by decide) rfl k
theorem b_X4_readAssignment_35 {h : Nat} {L : LVs} {st : List AV} {S : ST} {Q : Option AV → ST → Prop} (k : o_al L st S (fun L st S => o_c L st S (fun L st S => V MX4_readAssignment h 37 L st S Q) (nI 0)) 0) : V MX4_readAssignment h 35 L st S Q :=
  v_aload_n dX4_readAssignment_35 rfl (fun L st S k => v_iconst dX4_readAssignment_36 (by decide) (fun L st S k => k) k) k
theorem k_X4_readAssignment_37 {h : Nat} {L : LVs} {st : List AV} {S : ST} {Q Q' : Option AV → ST → Prop} {j : Nat} {a0 : AV} (hC : Ct MX4_expression h [vR 4 j, a0] S Q') (k : ∀ (r : Option AV) (S' : ST), Q' r S' → V MX4_readAssignment (h + 1) 40 L (r.toList ++ st) S' Q) (hj : j < NI 4) (hw : wid st ≤ 8) : V MX4_readAssignment (h + 1) 37 L (a0 :: vR 4 j :: st) S Q :=
  v_callV (M' := MX4_expression) (c := 4) (As := [a0]) dX4_readAssignment_37 ml_X4_86 im_X4_expression se_X4_expression in_X4 cd_X4_expression rfl LY_4 np_X4_expression (by decide) hw hj hC k
theorem b_X4_readAssignment_40 {h : Nat} {L : LVs} {st : List AV} {S : ST} {Q : Option AV → ST → Prop} (k : t_1 L st S (fun x => x = nI 0) (fun L st S => V MX4_readAssignment h 47 L st S Q) (fun L st S => V MX4_readAssignment h 43 L st S Q)) : V MX4_readAssignment h 40 L st S Q :=
  w_if_eq dX4_readAssignment_40 (by decide) rfl k
theorem b_X4_readAssignment_43 {h : Nat} {L : LVs} {st : List AV} {S : ST} {Q : Option AV → ST → Prop} (k : o_c L st S (fun L st S => V MX4_readAssignment h 48 L st S Q) (nI 1)) : V MX4_readAssignment h 43 L st S Q :=
  v_iconst dX4_readAssignment_43 (by decide) (fun L st S k => v_goto dX4_readAssignment_44 (by decide) k) k
theorem b_X4_readAssignment_47 {h : Nat} {L : LVs} {st : List AV} {S : ST} {Q : Option AV → ST → Prop} (k : o_c L st S (fun L st S => V MX4_readAssignment h 48 L st S Q) (nI 0)) : V MX4_readAssignment h 47 L st S Q :=
  v_iconst dX4_readAssignment_47 (by decide) (fun L st S k => k) k
theorem b_X4_readAssignment_48 {h : Nat} {L : LVs} {st : List AV} {S : ST} {Q : Option AV → ST → Prop} (k : o_is L st S (fun L st S => o_al L st S (fun L st S => o_get L st S (fun L st S => o_c L st S (fun L st S => V MX4_readAssignment h 54 L st S Q) (-1)) 4 1 (4, 6, 0)) 0) 1) : V MX4_readAssignment h 48 L st S Q :=
  v_istore_n dX4_readAssignment_48 rfl (by decide) (fun L st S k => v_aload_n dX4_readAssignment_49 rfl (fun L st S k => v_get dX4_readAssignment_50 rfl iX4 LY_4 rfl (by decide) rfl fl_X4_15 (fun L st S k => v_iconst dX4_readAssignment_53 (by decide) (fun L st S k => k) k) k) k) k
theorem k_X4_readAssignment_54 {h : Nat} {L : LVs} {st : List AV} {S : ST} {Q Q' : Option AV → ST → Prop} {j : Nat} {a0 : AV} (hC : Ct MX6_addItem h [vR 6 j, a0] S Q') (k : ∀ (r : Option AV) (S' : ST), Q' r S' → V MX4_readAssignment (h + 1) 57 L (r.toList ++ st) S' Q) (hj : j < NI 6) (hw : wid st ≤ 8) : V MX4_readAssignment (h + 1) 54 L (a0 :: vR 6 j :: st) S Q :=
  v_callV (M' := MX6_addItem) (c := 6) (As := [a0]) dX4_readAssignment_54 ml_X4_89 im_X6_addItem se_X6_addItem in_X6 cd_X6_addItem rfl LY_6 np_X6_addItem (by decide) hw hj hC k
theorem b_X4_readAssignment_57 {h : Nat} {L : LVs} {st : List AV} {S : ST} {Q : Option AV → ST → Prop} (k : o_il L st S (fun L st S => t_zr st S Q) 1) : V MX4_readAssignment h 57 L st S Q :=
  v_iload_n dX4_readAssignment_57 rfl (fun L st S k => w_zr dX4_readAssignment_58 rfl k) k
-- QueryForge$Reader.readWhere()Z
theorem dX4_readWhere_0 : decode cX4_readWhere 0 = .ok (.aload_n 0, 1) := by decide +kernel
theorem dX4_readWhere_1 : decode cX4_readWhere 1 = .ok (.sipush 207, 3) := by decide +kernel
theorem dX4_readWhere_4 : decode cX4_readWhere 4 = .ok (.invokevirtual 42, 3) := by decide +kernel
theorem dX4_readWhere_7 : decode cX4_readWhere 7 = .ok (.ifCond .ne 5, 3) := by decide +kernel
theorem dX4_readWhere_10 : decode cX4_readWhere 10 = .ok (.iconst 1, 1) := by decide +kernel
theorem dX4_readWhere_11 : decode cX4_readWhere 11 = .ok (.ireturn, 1) := by decide +kernel
theorem dX4_readWhere_12 : decode cX4_readWhere 12 = .ok (.aload_n 0, 1) := by decide +kernel
theorem dX4_readWhere_13 : decode cX4_readWhere 13 = .ok (.getfield 15, 3) := by decide +kernel
theorem dX4_readWhere_16 : decode cX4_readWhere 16 = .ok (.aload_n 0, 1) := by decide +kernel
theorem dX4_readWhere_17 : decode cX4_readWhere 17 = .ok (.getfield 15, 3) := by decide +kernel
theorem dX4_readWhere_20 : decode cX4_readWhere 20 = .ok (.getfield 95, 3) := by decide +kernel
theorem dX4_readWhere_23 : decode cX4_readWhere 23 = .ok (.invokevirtual 99, 3) := by decide +kernel
theorem dX4_readWhere_26 : decode cX4_readWhere 26 = .ok (.putfield 105, 3) := by decide +kernel
theorem dX4_readWhere_29 : decode cX4_readWhere 29 = .ok (.aload_n 0, 1) := by decide +kernel
theorem dX4_readWhere_30 : decode cX4_readWhere 30 = .ok (.iconst 0, 1) := by decide +kernel
theorem dX4_readWhere_31 : decode cX4_readWhere 31 = .ok (.invokevirtual 108, 3) := by decide +kernel
theorem dX4_readWhere_34 : decode cX4_readWhere 34 = .ok (.ireturn, 1) := by decide +kernel
theorem b_X4_readWhere_0 {h : Nat} {L : LVs} {st : List AV} {S : ST} {Q : Option AV → ST → Prop} (k : o_al L st S (fun L st S => o_c L st S (fun L st S => V MX4_readWhere h 4 L st S Q) (nI 207)) 0) : V MX4_readWhere h 0 L st S Q :=
  v_aload_n dX4_readWhere_0 rfl (fun L st S k => v_sipush dX4_readWhere_1 (by decide) (fun L st S k => k) k) k
theorem k_X4_readWhere_4 {h : Nat} {L : LVs} {st : List AV} {S : ST} {Q Q' : Option AV → ST → Prop} {j : Nat} {a0 : AV} (hC : Ct MX4_take h [vR 4 j, a0] S Q') (k : ∀ (r : Option AV) (S' : ST), Q' r S' → V MX4_readWhere (h + 1) 7 L (r.toList ++ st) S' Q) (hj : j < NI 4) (hw : wid st ≤ 8) : V MX4_readWhere (h + 1) 4 L (a0 :: vR 4 j :: st) S Q :=
  v_callV (M' := MX4_take) (c := 4) (As := [a0]) dX4_readWhere_4 ml_X4_42 im_X4_take se_X4_take in_X4 cd_X4_take rfl LY_4 np_X4_take (by decide) hw hj hC k
theorem b_X4_readWhere_7 {h : Nat} {L : LVs} {st : List AV} {S : ST} {Q : Option AV → ST → Prop} (k : t_1 L st S (fun x => x = nI 0) (fun L st S => V MX4_readWhere h 10 L st S Q) (fun L st S => V MX4_readWhere h 12 L st S Q)) : V MX4_readWhere h 7 L st S Q :=
  w_if_ne dX4_readWhere_7 (by decide) rfl k
theorem b_X4_readWhere_10 {h : Nat} {L : LVs} {st : List AV} {S : ST} {Q : Option AV → ST → Prop} (k : o_c L st S (fun L st S => t_zr st S Q) (nI 1)) : V MX4_readWhere h 10 L st S Q :=
  v_iconst dX4_readWhere_10 (by decide) (fun L st S k => w_zr dX4_readWhere_11 rfl k) k
theorem b_X4_readWhere_12 {h : Nat} {L : LVs} {st : List AV} {S : ST} {Q : Option AV → ST → Prop} (k : o_al L st S (fun L st S => o_get L st S (fun L st S => o_al L st S (fun L st S => o_get L st S (fun L st S => o_get L st S (fun L st S => V MX4_readWhere h 23 L st S Q) 6 0 (4, 1, 0)) 4 1 (4, 6, 0)) 0) 4 1 (4, 6, 0)) 0) : V MX4_readWhere h 12 L st S Q :=
  v_aload_n dX4_readWhere_12 rfl (fun L st S k => v_get dX4_readWhere_13 rfl iX4 LY_4 rfl (by decide) rfl fl_X4_15 (fun L st S k => v_aload_n dX4_readWhere_16 rfl (fun L st S k => v_get dX4_readWhere_17 rfl iX4 LY_4 rfl (by decide) rfl fl_X4_15 (fun L st S k => v_get dX4_readWhere_20 rfl iX6 LY_6 rfl (by decide) rfl fl_X4_95 (fun L st S k => k) k) k) k) k) k
theorem k_X4_readWhere_23 {h : Nat} {L : LVs} {st : List AV} {S : ST} {Q Q' : Option AV → ST → Prop} {j : Nat} (hC : Ct MX1_end h [vR 1 j] S Q') (k : ∀ (r : Option AV) (S' : ST), Q' r S' → V MX4_readWhere (h + 1) 26 L (r.toList ++ st) S' Q) (hj : j < NI 1) (hw : wid st ≤ 8) : V MX4_readWhere (h + 1) 23 L (vR 1 j :: st) S Q :=
  v_callV (M' := MX1_end) (c := 1) (As := []) dX4_readWhere_23 ml_X4_99 im_X1_end se_X1_end in_X1 cd_X1_end rfl LY_1 np_X1_end (by decide) hw hj hC k
theorem b_X4_readWhere_26 {h : Nat} {L : LVs} {st : List AV} {S : ST} {Q : Option AV → ST → Prop} (k : o_puti L st S (fun L st S => o_al L st S (fun L st S => o_c L st S (fun L st S => V MX4_readWhere h 31 L st S Q) (nI 0)) 0) 6 13) : V MX4_readWhere h 26 L st S Q :=
  v_puti dX4_readWhere_26 rfl iX6 tyX6_ok nmX6 LY_6 rfl (by decide) rfl fl_X4_105 rfl rfl (fun L st S k => v_aload_n dX4_readWhere_29 rfl (fun L st S k => v_iconst dX4_readWhere_30 (by decide) (fun L st S k => k) k) k) k
theorem k_X4_readWhere_31 {h : Nat} {L : LVs} {st : List AV} {S : ST} {Q Q' : Option AV → ST → Prop} {j : Nat} {a0 : AV} (hC : Ct MX4_condition h [vR 4 j, a0] S Q') (k : ∀ (r : Option AV) (S' : ST), Q' r S' → V MX4_readWhere (h + 1) 34 L (r.toList ++ st) S' Q) (hj : j < NI 4) (hw : wid st ≤ 8) : V MX4_readWhere (h + 1) 31 L (a0 :: vR 4 j :: st) S Q :=
  v_callV (M' := MX4_condition) (c := 4) (As := [a0]) dX4_readWhere_31 ml_X4_108 im_X4_condition se_X4_condition in_X4 cd_X4_condition rfl LY_4 np_X4_condition (by decide) hw hj hC k
theorem b_X4_readWhere_34 {h : Nat} {L : LVs} {st : List AV} {S : ST} {Q : Option AV → ST → Prop} (k : t_zr st S Q) : V MX4_readWhere h 34 L st S Q :=
  w_zr dX4_readWhere_34 rfl k
-- QueryForge$Reader.readGroup()Z
theorem dX4_readGroup_0 : decode cX4_readGroup 0 = .ok (.aload_n 0, 1) := by decide +kernel
theorem dX4_readGroup_1 : decode cX4_readGroup 1 = .ok (.sipush 208, 3) := by decide +kernel
theorem dX4_readGroup_4 : decode cX4_readGroup 4 = .ok (.invokevirtual 42, 3) := by decide +kernel
theorem dX4_readGroup_7 : decode cX4_readGroup 7 = .ok (.ifCond .ne 5, 3) := by decide +kernel
theorem dX4_readGroup_10 : decode cX4_readGroup 10 = .ok (.iconst 1, 1) := by decide +kernel
theorem dX4_readGroup_11 : decode cX4_readGroup 11 = .ok (.ireturn, 1) := by decide +kernel
theorem dX4_readGroup_12 : decode cX4_readGroup 12 = .ok (.aload_n 0, 1) := by decide +kernel
theorem dX4_readGroup_13 : decode cX4_readGroup 13 = .ok (.getfield 15, 3) := by decide +kernel
theorem dX4_readGroup_16 : decode cX4_readGroup 16 = .ok (.aload_n 0, 1) := by decide +kernel
theorem dX4_readGroup_17 : decode cX4_readGroup 17 = .ok (.getfield 19, 3) := by decide +kernel
theorem dX4_readGroup_20 : decode cX4_readGroup 20 = .ok (.putfield 111, 3) := by decide +kernel
theorem dX4_readGroup_23 : decode cX4_readGroup 23 = .ok (.aload_n 0, 1) := by decide +kernel
theorem dX4_readGroup_24 : decode cX4_readGroup 24 = .ok (.invokevirtual 114, 3) := by decide +kernel
theorem dX4_readGroup_27 : decode cX4_readGroup 27 = .ok (.ireturn, 1) := by decide +kernel
theorem b_X4_readGroup_0 {h : Nat} {L : LVs} {st : List AV} {S : ST} {Q : Option AV → ST → Prop} (k : o_al L st S (fun L st S => o_c L st S (fun L st S => V MX4_readGroup h 4 L st S Q) (nI 208)) 0) : V MX4_readGroup h 0 L st S Q :=
  v_aload_n dX4_readGroup_0 rfl (fun L st S k => v_sipush dX4_readGroup_1 (by decide) (fun L st S k => k) k) k
theorem k_X4_readGroup_4 {h : Nat} {L : LVs} {st : List AV} {S : ST} {Q Q' : Option AV → ST → Prop} {j : Nat} {a0 : AV} (hC : Ct MX4_take h [vR 4 j, a0] S Q') (k : ∀ (r : Option AV) (S' : ST), Q' r S' → V MX4_readGroup (h + 1) 7 L (r.toList ++ st) S' Q) (hj : j < NI 4) (hw : wid st ≤ 8) : V MX4_readGroup (h + 1) 4 L (a0 :: vR 4 j :: st) S Q :=
  v_callV (M' := MX4_take) (c := 4) (As := [a0]) dX4_readGroup_4 ml_X4_42 im_X4_take se_X4_take in_X4 cd_X4_take rfl LY_4 np_X4_take (by decide) hw hj hC k
theorem b_X4_readGroup_7 {h : Nat} {L : LVs} {st : List AV} {S : ST} {Q : Option AV → ST → Prop} (k : t_1 L st S (fun x => x = nI 0) (fun L st S => V MX4_readGroup h 10 L st S Q) (fun L st S => V MX4_readGroup h 12 L st S Q)) : V MX4_readGroup h 7 L st S Q :=
  w_if_ne dX4_readGroup_7 (by decide) rfl k
theorem b_X4_readGroup_10 {h : Nat} {L : LVs} {st : List AV} {S : ST} {Q : Option AV → ST → Prop} (k : o_c L st S (fun L st S => t_zr st S Q) (nI 1)) : V MX4_readGroup h 10 L st S Q :=
  v_iconst dX4_readGroup_10 (by decide) (fun L st S k => w_zr dX4_readGroup_11 rfl k) k
theorem b_X4_readGroup_12 {h : Nat} {L : LVs} {st : List AV} {S : ST} {Q : Option AV → ST → Prop} (k : o_al L st S (fun L st S => o_get L st S (fun L st S => o_al L st S (fun L st S => o_get L st S (fun L st S => o_puti L st S (fun L st S => o_al L st S (fun L st S => V MX4_readGroup h 24 L st S Q) 0) 6 14) 4 2 (0, 0, 0)) 0) 4 1 (4, 6, 0)) 0) : V MX4_readGroup h 12 L st S Q :=
  v_aload_n dX4_readGroup_12 rfl (fun L st S k => v_get dX4_readGroup_13 rfl iX4 LY_4 rfl (by decide) rfl fl_X4_15 (fun L st S k => v_aload_n dX4_readGroup_16 rfl (fun L st S k => v_get dX4_readGroup_17 rfl iX4 LY_4 rfl (by decide) rfl fl_X4_19 (fun L st S k => v_puti dX4_readGroup_20 rfl iX6 tyX6_ok nmX6 LY_6 rfl (by decide) rfl fl_X4_111 rfl rfl (fun L st S k => v_aload_n dX4_readGroup_23 rfl (fun L st S k => k) k) k) k) k) k) k
theorem k_X4_readGroup_24 {h : Nat} {L : LVs} {st : List AV} {S : ST} {Q Q' : Option AV → ST → Prop} {j : Nat} (hC : Ct MX4_readPlace h [vR 4 j] S Q') (k : ∀ (r : Option AV) (S' : ST), Q' r S' → V MX4_readGroup (h + 1) 27 L (r.toList ++ st) S' Q) (hj : j < NI 4) (hw : wid st ≤ 8) : V MX4_readGroup (h + 1) 24 L (vR 4 j :: st) S Q :=
  v_callV (M' := MX4_readPlace) (c := 4) (As := []) dX4_readGroup_24 ml_X4_114 im_X4_readPlace se_X4_readPlace in_X4 cd_X4_readPlace rfl LY_4 np_X4_readPlace (by decide) hw hj hC k
theorem b_X4_readGroup_27 {h : Nat} {L : LVs} {st : List AV} {S : ST} {Q : Option AV → ST → Prop} (k : t_zr st S Q) : V MX4_readGroup h 27 L st S Q :=
  w_zr dX4_readGroup_27 rfl k
-- QueryForge$Reader.readOrder()Z
theorem dX4_readOrder_0 : decode cX4_readOrder 0 = .ok (.aload_n 0, 1) := by decide +kernel
theorem dX4_readOrder_1 : decode cX4_readOrder 1 = .ok (.sipush 209, 3) := by decide +kernel
theorem dX4_readOrder_4 : decode cX4_readOrder 4 = .ok (.invokevirtual 42, 3) := by decide +kernel
theorem dX4_readOrder_7 : decode cX4_readOrder 7 = .ok (.ifCond .ne 5, 3) := by decide +kernel
theorem dX4_readOrder_10 : decode cX4_readOrder 10 = .ok (.iconst 1, 1) := by decide +kernel
theorem dX4_readOrder_11 : decode cX4_readOrder 11 = .ok (.ireturn, 1) := by decide +kernel
theorem dX4_readOrder_12 : decode cX4_readOrder 12 = .ok (.aload_n 0, 1) := by decide +kernel
theorem dX4_readOrder_13 : decode cX4_readOrder 13 = .ok (.getfield 15, 3) := by decide +kernel
theorem dX4_readOrder_16 : decode cX4_readOrder 16 = .ok (.aload_n 0, 1) := by decide +kernel
theorem dX4_readOrder_17 : decode cX4_readOrder 17 = .ok (.getfield 9, 3) := by decide +kernel
theorem dX4_readOrder_20 : decode cX4_readOrder 20 = .ok (.aload_n 0, 1) := by decide +kernel
theorem dX4_readOrder_21 : decode cX4_readOrder 21 = .ok (.getfield 19, 3) := by decide +kernel
theorem dX4_readOrder_24 : decode cX4_readOrder 24 = .ok (.invokevirtual 64, 3) := by decide +kernel
theorem dX4_readOrder_27 : decode cX4_readOrder 27 = .ok (.putfield 117, 3) := by decide +kernel
theorem dX4_readOrder_30 : decode cX4_readOrder 30 = .ok (.aload_n 0, 1) := by decide +kernel
theorem dX4_readOrder_31 : decode cX4_readOrder 31 = .ok (.iconst 3, 1) := by decide +kernel
theorem dX4_readOrder_32 : decode cX4_readOrder 32 = .ok (.invokevirtual 42, 3) := by decide +kernel
theorem dX4_readOrder_35 : decode cX4_readOrder 35 = .ok (.ifCond .ne 5, 3) := by decide +kernel
theorem dX4_readOrder_38 : decode cX4_readOrder 38 = .ok (.iconst 0, 1) := by decide +kernel
theorem dX4_readOrder_39 : decode cX4_readOrder 39 = .ok (.ireturn, 1) := by decide +kernel
theorem dX4_readOrder_40 : decode cX4_readOrder 40 = .ok (.aload_n 0, 1) := by decide +kernel
theorem dX4_readOrder_41 : decode cX4_readOrder 41 = .ok (.getfield 15, 3) := by decide +kernel
theorem dX4_readOrder_44 : decode cX4_readOrder 44 = .ok (.aload_n 0, 1) := by decide +kernel
theorem dX4_readOrder_45 : decode cX4_readOrder 45 = .ok (.sipush 210, 3) := by decide +kernel
theorem dX4_readOrder_48 : decode cX4_readOrder 48 = .ok (.invokevirtual 42, 3) := by decide +kernel
theorem dX4_readOrder_51 : decode cX4_readOrder 51 = .ok (.putfield 120, 3) := by decide +kernel
theorem dX4_readOrder_54 : decode cX4_readOrder 54 = .ok (.iconst 1, 1) := by decide +kernel
theorem dX4_readOrder_55 : decode cX4_readOrder 55 = .ok (.ireturn, 1) := by decide +kernel
theorem b_X4_readOrder_0 {h : Nat} {L : LVs} {st : List AV} {S : ST} {Q : Option AV → ST → Prop} (k : o_al L st S (fun L st S => o_c L st S (fun L st S => V MX4_readOrder h 4 L st S Q) (nI 209)) 0) : V MX4_readOrder h 0 L st S Q :=
  v_aload_n dX4_readOrder_0 rfl (fun L st S k => v_sipush dX4_readOrder_1 (by decide) (fun L st S k => k) k) k
theorem k_X4_readOrder_4 {h : Nat} {L : LVs} {st : List AV} {S : ST} {Q Q' : Option AV → ST → Prop} {j : Nat} {a0 : AV} (hC : Ct MX4_take h [vR 4 j, a0] S Q') (k : ∀ (r : Option AV) (S' : ST), Q' r S' → V MX4_readOrder (h + 1) 7 L (r.toList ++ st) S' Q) (hj : j < NI 4) (hw : wid st ≤ 8) : V MX4_readOrder (h + 1) 4 L (a0 :: vR 4 j :: st) S Q :=
  v_callV (M' := MX4_take) (c := 4) (As := [a0]) dX4_readOrder_4 ml_X4_42 im_X4_take se_X4_take in_X4 cd_X4_take rfl LY_4 np_X4_take (by decide) hw hj hC k
theorem b_X4_readOrder_7 {h : Nat} {L : LVs} {st : List AV} {S : ST} {Q : Option AV → ST → Prop} (k : t_1 L st S (fun x => x = nI 0) (fun L st S => V MX4_readOrder h 10 L st S Q) (fun L st S => V MX4_readOrder h 12 L st S Q)) : V MX4_readOrder h 7 L st S Q :=
  w_if_ne dX4_readOrder_7 (by decide) rfl k
theorem b_X4_readOrder_10 {h : Nat} {L : LVs} {st : List AV} {S : ST} {Q : Option AV → ST → Prop} (k : o_c L st S (fun L st S => t_zr st S Q) (nI 1)) : V MX4_readOrder h 10 L st S Q :=
  v_iconst dX4_readOrder_10 (by decide) (fun L st S k => w_zr dX4_readOrder_11 rfl k) k
theorem b_X4_readOrder_12 {h : Nat} {L : LVs} {st : List AV} {S : ST} {Q : Option AV → ST → Prop} (k : o_al L st S (fun L st S => o_get L st S (fun L st S => o_al L st S (fun L st S => o_get L st S (fun L st S => o_al L st S (fun L st S => o_get L st S (fun L st S => V MX4_readOrder h 24 L st S Q) 4 2 (0, 0, 0)) 0) 4 0 (4, 9, 0)) 0) 4 1 (4, 6, 0)) 0) : V MX4_readOrder h 12 L st S Q :=
  v_aload_n dX4_readOrder_12 rfl (fun L st S k => v_get dX4_readOrder_13 rfl iX4 LY_4 rfl (by decide) rfl fl_X4_15 (fun L st S k => v_aload_n dX4_readOrder_16 rfl (fun L st S k => v_get dX4_readOrder_17 rfl iX4 LY_4 rfl (by decide) rfl fl_X4_9 (fun L st S k => v_aload_n dX4_readOrder_20 rfl (fun L st S k => v_get dX4_readOrder_21 rfl iX4 LY_4 rfl (by decide) rfl fl_X4_19 (fun L st S k => k) k) k) k) k) k) k
theorem k_X4_readOrder_24 {h : Nat} {L : LVs} {st : List AV} {S : ST} {Q Q' : Option AV → ST → Prop} {j : Nat} {a0 : AV} (hC : Ct MX9_contentAt h [vR 9 j, a0] S Q') (k : ∀ (r : Option AV) (S' : ST), Q' r S' → V MX4_readOrder (h + 1) 27 L (r.toList ++ st) S' Q) (hj : j < NI 9) (hw : wid st ≤ 8) : V MX4_readOrder (h + 1) 24 L (a0 :: vR 9 j :: st) S Q :=
  v_callV (M' := MX9_contentAt) (c := 9) (As := [a0]) dX4_readOrder_24 ml_X4_64 im_X9_contentAt se_X9_contentAt in_X9 cd_X9_contentAt rfl LY_9 np_X9_contentAt (by decide) hw hj hC k
theorem b_X4_readOrder_27 {h : Nat} {L : LVs} {st : List AV} {S : ST} {Q : Option AV → ST → Prop} (k : o_puti L st S (fun L st S => o_al L st S (fun L st S => o_c L st S (fun L st S => V MX4_readOrder h 32 L st S Q) (nI 3)) 0) 6 15) : V MX4_readOrder h 27 L st S Q :=
  v_puti dX4_readOrder_27 rfl iX6 tyX6_ok nmX6 LY_6 rfl (by decide) rfl fl_X4_117 rfl rfl (fun L st S k => v_aload_n dX4_readOrder_30 rfl (fun L st S k => v_iconst dX4_readOrder_31 (by decide) (fun L st S k => k) k) k) k
theorem k_X4_readOrder_32 {h : Nat} {L : LVs} {st : List AV} {S : ST} {Q Q' : Option AV → ST → Prop} {j : Nat} {a0 : AV} (hC : Ct MX4_take h [vR 4 j, a0] S Q') (k : ∀ (r : Option AV) (S' : ST), Q' r S' → V MX4_readOrder (h + 1) 35 L (r.toList ++ st) S' Q) (hj : j < NI 4) (hw : wid st ≤ 8) : V MX4_readOrder (h + 1) 32 L (a0 :: vR 4 j :: st) S Q :=
  v_callV (M' := MX4_take) (c := 4) (As := [a0]) dX4_readOrder_32 ml_X4_42 im_X4_take se_X4_take in_X4 cd_X4_take rfl LY_4 np_X4_take (by decide) hw hj hC k
theorem b_X4_readOrder_35 {h : Nat} {L : LVs} {st : List AV} {S : ST} {Q : Option AV → ST → Prop} (k : t_1 L st S (fun x => x = nI 0) (fun L st S => V MX4_readOrder h 38 L st S Q) (fun L st S => V MX4_readOrder h 40 L st S Q)) : V MX4_readOrder h 35 L st S Q :=
  w_if_ne dX4_readOrder_35 (by decide) rfl k
theorem b_X4_readOrder_38 {h : Nat} {L : LVs} {st : List AV} {S : ST} {Q : Option AV → ST → Prop} (k : o_c L st S (fun L st S => t_zr st S Q) (nI 0)) : V MX4_readOrder h 38 L st S Q :=
  v_iconst dX4_readOrder_38 (by decide) (fun L st S k => w_zr dX4_readOrder_39 rfl k) k
theorem b_X4_readOrder_40 {h : Nat} {L : LVs} {st : List AV} {S : ST} {Q : Option AV → ST → Prop} (k : o_al L st S (fun L st S => o_get L st S (fun L st S => o_al L st S (fun L st S => o_c L st S (fun L st S => V MX4_readOrder h 48 L st S Q) (nI 210)) 0) 4 1 (4, 6, 0)) 0) : V MX4_readOrder h 40 L st S Q :=
  v_aload_n dX4_readOrder_40 rfl (fun L st S k => v_get dX4_readOrder_41 rfl iX4 LY_4 rfl (by decide) rfl fl_X4_15 (fun L st S k => v_aload_n dX4_readOrder_44 rfl (fun L st S k => v_sipush dX4_readOrder_45 (by decide) (fun L st S k => k) k) k) k) k
theorem k_X4_readOrder_48 {h : Nat} {L : LVs} {st : List AV} {S : ST} {Q Q' : Option AV → ST → Prop} {j : Nat} {a0 : AV} (hC : Ct MX4_take h [vR 4 j, a0] S Q') (k : ∀ (r : Option AV) (S' : ST), Q' r S' → V MX4_readOrder (h + 1) 51 L (r.toList ++ st) S' Q) (hj : j < NI 4) (hw : wid st ≤ 8) : V MX4_readOrder (h + 1) 48 L (a0 :: vR 4 j :: st) S Q :=
  v_callV (M' := MX4_take) (c := 4) (As := [a0]) dX4_readOrder_48 ml_X4_42 im_X4_take se_X4_take in_X4 cd_X4_take rfl LY_4 np_X4_take (by decide) hw hj hC k
theorem b_X4_readOrder_51 {h : Nat} {L : LVs} {st : List AV} {S : ST} {Q : Option AV → ST → Prop} (k : o_putz L st S (fun L st S => o_c L st S (fun L st S => t_zr st S Q) (nI 1)) 6 16) : V MX4_readOrder h 51 L st S Q :=
  v_putz dX4_readOrder_51 rfl iX6 tyX6_ok nmX6 LY_6 rfl (by decide) rfl fl_X4_120 rfl rfl (fun L st S k => v_iconst dX4_readOrder_54 (by decide) (fun L st S k => w_zr dX4_readOrder_55 rfl k) k) k
-- QueryForge$Reader.readPlace()Z
theorem dX4_readPlace_0 : decode cX4_readPlace 0 = .ok (.aload_n 0, 1) := by decide +kernel
theorem dX4_readPlace_1 : decode cX4_readPlace 1 = .ok (.iconst 2, 1) := by decide +kernel
theorem dX4_readPlace_2 : decode cX4_readPlace 2 = .ok (.invokevirtual 42, 3) := by decide +kernel
theorem dX4_readPlace_5 : decode cX4_readPlace 5 = .ok (.ifCond .eq 24, 3) := by decide +kernel
theorem dX4_readPlace_8 : decode cX4_readPlace 8 = .ok (.aload_n 0, 1) := by decide +kernel
theorem dX4_readPlace_9 : decode cX4_readPlace 9 = .ok (.bipush 46, 2) := by decide +kernel
theorem dX4_readPlace_11 : decode cX4_readPlace 11 = .ok (.invokevirtual 42, 3) := by decide +kernel
theorem dX4_readPlace_14 : decode cX4_readPlace 14 = .ok (.ifCond .eq 11, 3) := by decide +kernel
theorem dX4_readPlace_17 : decode cX4_readPlace 17 = .ok (.aload_n 0, 1) := by decide +kernel
theorem dX4_readPlace_18 : decode cX4_readPlace 18 = .ok (.iconst 2, 1) := by decide +kernel
theorem dX4_readPlace_19 : decode cX4_readPlace 19 = .ok (.invokevirtual 42, 3) := by decide +kernel
theorem dX4_readPlace_22 : decode cX4_readPlace 22 = .ok (.ifCond .eq 7, 3) := by decide +kernel
theorem dX4_readPlace_25 : decode cX4_readPlace 25 = .ok (.iconst 1, 1) := by decide +kernel
theorem dX4_readPlace_26 : decode cX4_readPlace 26 = .ok (.goto 4, 3) := by decide +kernel
theorem dX4_readPlace_29 : decode cX4_readPlace 29 = .ok (.iconst 0, 1) := by decide +kernel
theorem dX4_readPlace_30 : decode cX4_readPlace 30 = .ok (.ireturn, 1) := by decide +kernel
theorem b_X4_readPlace_0 {h : Nat} {L : LVs} {st : List AV} {S : ST} {Q : Option AV → ST → Prop} (k : o_al L st S (fun L st S => o_c L st S (fun L st S => V MX4_readPlace h 2 L st S Q) (nI 2)) 0) : V MX4_readPlace h 0 L st S Q :=
  v_aload_n dX4_readPlace_0 rfl (fun L st S k => v_iconst dX4_readPlace_1 (by decide) (fun L st S k => k) k) k
theorem k_X4_readPlace_2 {h : Nat} {L : LVs} {st : List AV} {S : ST} {Q Q' : Option AV → ST → Prop} {j : Nat} {a0 : AV} (hC : Ct MX4_take h [vR 4 j, a0] S Q') (k : ∀ (r : Option AV) (S' : ST), Q' r S' → V MX4_readPlace (h + 1) 5 L (r.toList ++ st) S' Q) (hj : j < NI 4) (hw : wid st ≤ 8) : V MX4_readPlace (h + 1) 2 L (a0 :: vR 4 j :: st) S Q :=
  v_callV (M' := MX4_take) (c := 4) (As := [a0]) dX4_readPlace_2 ml_X4_42 im_X4_take se_X4_take in_X4 cd_X4_take rfl LY_4 np_X4_take (by decide) hw hj hC k
theorem b_X4_readPlace_5 {h : Nat} {L : LVs} {st : List AV} {S : ST} {Q : Option AV → ST → Prop} (k : t_1 L st S (fun x => x = nI 0) (fun L st S => V MX4_readPlace h 29 L st S Q) (fun L st S => V MX4_readPlace h 8 L st S Q)) : V MX4_readPlace h 5 L st S Q :=
  w_if_eq dX4_readPlace_5 (by decide) rfl k
theorem b_X4_readPlace_8 {h : Nat} {L : LVs} {st : List AV} {S : ST} {Q : Option AV → ST → Prop} (k : o_al L st S (fun L st S => o_c L st S (fun L st S => V MX4_readPlace h 11 L st S Q) (nI 46)) 0) : V MX4_readPlace h 8 L st S Q :=
  v_aload_n dX4_readPlace_8 rfl (fun L st S k => v_bipush dX4_readPlace_9 (by decide) (fun L st S k => k) k) k
theorem k_X4_readPlace_11 {h : Nat} {L : LVs} {st : List AV} {S : ST} {Q Q' : Option AV → ST → Prop} {j : Nat} {a0 : AV} (hC : Ct MX4_take h [vR 4 j, a0] S Q') (k : ∀ (r : Option AV) (S' : ST), Q' r S' → V MX4_readPlace (h + 1) 14 L (r.toList ++ st) S' Q) (hj : j < NI 4) (hw : wid st ≤ 8) : V MX4_readPlace (h + 1) 11 L (a0 :: vR 4 j :: st) S Q :=
  v_callV (M' := MX4_take) (c := 4) (As := [a0]) dX4_readPlace_11 ml_X4_42 im_X4_take se_X4_take in_X4 cd_X4_take rfl LY_4 np_X4_take (by decide) hw hj hC k
theorem b_X4_readPlace_14 {h : Nat} {L : LVs} {st : List AV} {S : ST} {Q : Option AV → ST → Prop} (k : t_1 L st S (fun x => x = nI 0) (fun L st S => V MX4_readPlace h 25 L st S Q) (fun L st S => V MX4_readPlace h 17 L st S Q)) : V MX4_readPlace h 14 L st S Q :=
  w_if_eq dX4_readPlace_14 (by decide) rfl k
theorem b_X4_readPlace_17 {h : Nat} {L : LVs} {st : List AV} {S : ST} {Q : Option AV → ST → Prop} (k : o_al L st S (fun L st S => o_c L st S (fun L st S => V MX4_readPlace h 19 L st S Q) (nI 2)) 0) : V MX4_readPlace h 17 L st S Q :=
  v_aload_n dX4_readPlace_17 rfl (fun L st S k => v_iconst dX4_readPlace_18 (by decide) (fun L st S k => k) k) k
theorem k_X4_readPlace_19 {h : Nat} {L : LVs} {st : List AV} {S : ST} {Q Q' : Option AV → ST → Prop} {j : Nat} {a0 : AV} (hC : Ct MX4_take h [vR 4 j, a0] S Q') (k : ∀ (r : Option AV) (S' : ST), Q' r S' → V MX4_readPlace (h + 1) 22 L (r.toList ++ st) S' Q) (hj : j < NI 4) (hw : wid st ≤ 8) : V MX4_readPlace (h + 1) 19 L (a0 :: vR 4 j :: st) S Q :=
  v_callV (M' := MX4_take) (c := 4) (As := [a0]) dX4_readPlace_19 ml_X4_42 im_X4_take se_X4_take in_X4 cd_X4_take rfl LY_4 np_X4_take (by decide) hw hj hC k
theorem b_X4_readPlace_22 {h : Nat} {L : LVs} {st : List AV} {S : ST} {Q : Option AV → ST → Prop} (k : t_1 L st S (fun x => x = nI 0) (fun L st S => V MX4_readPlace h 29 L st S Q) (fun L st S => V MX4_readPlace h 25 L st S Q)) : V MX4_readPlace h 22 L st S Q :=
  w_if_eq dX4_readPlace_22 (by decide) rfl k
theorem b_X4_readPlace_25 {h : Nat} {L : LVs} {st : List AV} {S : ST} {Q : Option AV → ST → Prop} (k : o_c L st S (fun L st S => V MX4_readPlace h 30 L st S Q) (nI 1)) : V MX4_readPlace h 25 L st S Q :=
  v_iconst dX4_readPlace_25 (by decide) (fun L st S k => v_goto dX4_readPlace_26 (by decide) k) k
theorem b_X4_readPlace_29 {h : Nat} {L : LVs} {st : List AV} {S : ST} {Q : Option AV → ST → Prop} (k : o_c L st S (fun L st S => V MX4_readPlace h 30 L st S Q) (nI 0)) : V MX4_readPlace h 29 L st S Q :=
  v_iconst dX4_readPlace_29 (by decide) (fun L st S k => k) k
theorem b_X4_readPlace_30 {h : Nat} {L : LVs} {st : List AV} {S : ST} {Q : Option AV → ST → Prop} (k : t_zr st S Q) : V MX4_readPlace h 30 L st S Q :=
  w_zr dX4_readPlace_30 rfl k
-- QueryForge$Reader.condition(I)Z
theorem dX4_condition_0 : decode cX4_condition 0 = .ok (.aload_n 0, 1) := by decide +kernel
theorem dX4_condition_1 : decode cX4_condition 1 = .ok (.iload_n 1, 1) := by decide +kernel
theorem dX4_condition_2 : decode cX4_condition 2 = .ok (.invokevirtual 124, 3) := by decide +kernel
theorem dX4_condition_5 : decode cX4_condition 5 = .ok (.istore_n 2, 1) := by decide +kernel
theorem dX4_condition_6 : decode cX4_condition 6 = .ok (.iconst 0, 1) := by decide +kernel
theorem dX4_condition_7 : decode cX4_condition 7 = .ok (.istore_n 3, 1) := by decide +kernel
theorem dX4_condition_8 : decode cX4_condition 8 = .ok (.iload_n 3, 1) := by decide +kernel
theorem dX4_condition_9 : decode cX4_condition 9 = .ok (.sipush 200, 3) := by decide +kernel
theorem dX4_condition_12 : decode cX4_condition 12 = .ok (.if_icmp .ge 42, 3) := by decide +kernel
theorem dX4_condition_15 : decode cX4_condition 15 = .ok (.iload_n 2, 1) := by decide +kernel
theorem dX4_condition_16 : decode cX4_condition 16 = .ok (.ifCond .eq 38, 3) := by decide +kernel
theorem dX4_condition_19 : decode cX4_condition 19 = .ok (.aload_n 0, 1) := by decide +kernel
theorem dX4_condition_20 : decode cX4_condition 20 = .ok (.sipush 216, 3) := by decide +kernel
theorem dX4_condition_23 : decode cX4_condition 23 = .ok (.invokevirtual 42, 3) := by decide +kernel
theorem dX4_condition_26 : decode cX4_condition 26 = .ok (.ifCond .eq 28, 3) := by decide +kernel
theorem dX4_condition_29 : decode cX4_condition 29 = .ok (.aload_n 0, 1) := by decide +kernel
theorem dX4_condition_30 : decode cX4_condition 30 = .ok (.iload_n 1, 1) := by decide +kernel
theorem dX4_condition_31 : decode cX4_condition 31 = .ok (.invokevirtual 124, 3) := by decide +kernel
theorem dX4_condition_34 : decode cX4_condition 34 = .ok (.istore_n 2, 1) := by decide +kernel
theorem dX4_condition_35 : decode cX4_condition 35 = .ok (.aload_n 0, 1) := by decide +kernel
theorem dX4_condition_36 : decode cX4_condition 36 = .ok (.getfield 15, 3) := by decide +kernel
theorem dX4_condition_39 : decode cX4_condition 39 = .ok (.getfield 95, 3) := by decide +kernel
theorem dX4_condition_42 : decode cX4_condition 42 = .ok (.bipush 20, 2) := by decide +kernel
theorem dX4_condition_44 : decode cX4_condition 44 = .ok (.iconst 0, 1) := by decide +kernel
theorem dX4_condition_45 : decode cX4_condition 45 = .ok (.invokevirtual 129, 3) := by decide +kernel
theorem dX4_condition_48 : decode cX4_condition 48 = .ok (.iinc 3 1, 3) := by decide +kernel
theorem dX4_condition_51 : decode cX4_condition 51 = .ok (.goto (-43), 3) := by decide +kernel
theorem dX4_condition_54 : decode cX4_condition 54 = .ok (.iload_n 2, 1) := by decide +kernel
theorem dX4_condition_55 : decode cX4_condition 55 = .ok (.ireturn, 1) := by decide +kernel
theorem b_X4_condition_0 {h : Nat} {L : LVs} {st : List AV} {S : ST} {Q : Option AV → ST → Prop} (k : o_al L st S (fun L st S => o_il L st S (fun L st S => V MX4_condition h 2 L st S Q) 1) 0) : V MX4_condition h 0 L st S Q :=
  v_aload_n dX4_condition_0 rfl (fun L st S k => v_iload_n dX4_condition_1 rfl (fun L st S k => k) k) k
theorem k_X4_condition_2 {h : Nat} {L : LVs} {st : List AV} {S : ST} {Q Q' : Option AV → ST → Prop} {j : Nat} {a0 : AV} (hC : Ct MX4_both h [vR 4 j, a0] S Q') (k : ∀ (r : Option AV) (S' : ST), Q' r S' → V MX4_condition (h + 1) 5 L (r.toList ++ st) S' Q) (hj : j < NI 4) (hw : wid st ≤ 8) : V MX4_condition (h + 1) 2 L (a0 :: vR 4 j :: st) S Q :=
  v_callV (M' := MX4_both) (c := 4) (As := [a0]) dX4_condition_2 ml_X4_124 im_X4_both se_X4_both in_X4 cd_X4_both rfl LY_4 np_X4_both (by decide) hw hj hC k
theorem b_X4_condition_5 {h : Nat} {L : LVs} {st : List AV} {S : ST} {Q : Option AV → ST → Prop} (k : o_is L st S (fun L st S => o_c L st S (fun L st S => o_is L st S (fun L st S => V MX4_condition h 8 L st S Q) 3) (nI 0)) 2) : V MX4_condition h 5 L st S Q :=
  v_istore_n dX4_condition_5 rfl (by decide) (fun L st S k => v_iconst dX4_condition_6 (by decide) (fun L st S k => v_istore_n dX4_condition_7 rfl (by decide) (fun L st S k => k) k) k) k
theorem b_X4_condition_8 {h : Nat} {L : LVs} {st : List AV} {S : ST} {Q : Option AV → ST → Prop} (k : o_il L st S (fun L st S => o_c L st S (fun L st S => t_2 L st S (fun x y => y ≤ x) (fun L st S => V MX4_condition h 54 L st S Q) (fun L st S => V MX4_condition h 15 L st S Q)) (nI 200)) 3) : V MX4_condition h 8 L st S Q :=
  v_iload_n dX4_condition_8 rfl (fun L st S k => v_sipush dX4_condition_9 (by decide) (fun L st S k => w_icmp_ge dX4_condition_12 (by decide) rfl k) k) k
theorem b_X4_condition_15 {h : Nat} {L : LVs} {st : List AV} {S : ST} {Q : Option AV → ST → Prop} (k : o_il L st S (fun L st S => t_1 L st S (fun x => x = nI 0) (fun L st S => V MX4_condition h 54 L st S Q) (fun L st S => V MX4_condition h 19 L st S Q)) 2) : V MX4_condition h 15 L st S Q :=
  v_iload_n dX4_condition_15 rfl (fun L st S k => w_if_eq dX4_condition_16 (by decide) rfl k) k
theorem b_X4_condition_19 {h : Nat} {L : LVs} {st : List AV} {S : ST} {Q : Option AV → ST → Prop} (k : o_al L st S (fun L st S => o_c L st S (fun L st S => V MX4_condition h 23 L st S Q) (nI 216)) 0) : V MX4_condition h 19 L st S Q :=
  v_aload_n dX4_condition_19 rfl (fun L st S k => v_sipush dX4_condition_20 (by decide) (fun L st S k => k) k) k
theorem k_X4_condition_23 {h : Nat} {L : LVs} {st : List AV} {S : ST} {Q Q' : Option AV → ST → Prop} {j : Nat} {a0 : AV} (hC : Ct MX4_take h [vR 4 j, a0] S Q') (k : ∀ (r : Option AV) (S' : ST), Q' r S' → V MX4_condition (h + 1) 26 L (r.toList ++ st) S' Q) (hj : j < NI 4) (hw : wid st ≤ 8) : V MX4_condition (h + 1) 23 L (a0 :: vR 4 j :: st) S Q :=
  v_callV (M' := MX4_take) (c := 4) (As := [a0]) dX4_condition_23 ml_X4_42 im_X4_take se_X4_take in_X4 cd_X4_take rfl LY_4 np_X4_take (by decide) hw hj hC k
theorem b_X4_condition_26 {h : Nat} {L : LVs} {st : List AV} {S : ST} {Q : Option AV → ST → Prop} (k : t_1 L st S (fun x => x = nI 0) (fun L st S => V MX4_condition h 54 L st S Q) (fun L st S => V MX4_condition h 29 L st S Q)) : V MX4_condition h 26 L st S Q :=
  w_if_eq dX4_condition_26 (by decide) rfl k
theorem b_X4_condition_29 {h : Nat} {L : LVs} {st : List AV} {S : ST} {Q : Option AV → ST → Prop} (k : o_al L st S (fun L st S => o_il L st S (fun L st S => V MX4_condition h 31 L st S Q) 1) 0) : V MX4_condition h 29 L st S Q :=
  v_aload_n dX4_condition_29 rfl (fun L st S k => v_iload_n dX4_condition_30 rfl (fun L st S k => k) k) k
theorem k_X4_condition_31 {h : Nat} {L : LVs} {st : List AV} {S : ST} {Q Q' : Option AV → ST → Prop} {j : Nat} {a0 : AV} (hC : Ct MX4_both h [vR 4 j, a0] S Q') (k : ∀ (r : Option AV) (S' : ST), Q' r S' → V MX4_condition (h + 1) 34 L (r.toList ++ st) S' Q) (hj : j < NI 4) (hw : wid st ≤ 8) : V MX4_condition (h + 1) 31 L (a0 :: vR 4 j :: st) S Q :=
  v_callV (M' := MX4_both) (c := 4) (As := [a0]) dX4_condition_31 ml_X4_124 im_X4_both se_X4_both in_X4 cd_X4_both rfl LY_4 np_X4_both (by decide) hw hj hC k
theorem b_X4_condition_34 {h : Nat} {L : LVs} {st : List AV} {S : ST} {Q : Option AV → ST → Prop} (k : o_is L st S (fun L st S => o_al L st S (fun L st S => o_get L st S (fun L st S => o_get L st S (fun L st S => o_c L st S (fun L st S => o_c L st S (fun L st S => V MX4_condition h 45 L st S Q) (nI 0)) (nI 20)) 6 0 (4, 1, 0)) 4 1 (4, 6, 0)) 0) 2) : V MX4_condition h 34 L st S Q :=
  v_istore_n dX4_condition_34 rfl (by decide) (fun L st S k => v_aload_n dX4_condition_35 rfl (fun L st S k => v_get dX4_condition_36 rfl iX4 LY_4 rfl (by decide) rfl fl_X4_15 (fun L st S k => v_get dX4_condition_39 rfl iX6 LY_6 rfl (by decide) rfl fl_X4_95 (fun L st S k => v_bipush dX4_condition_42 (by decide) (fun L st S k => v_iconst dX4_condition_44 (by decide) (fun L st S k => k) k) k) k) k) k) k
theorem k_X4_condition_45 {h : Nat} {L : LVs} {st : List AV} {S : ST} {Q Q' : Option AV → ST → Prop} {j : Nat} {a0 a1 : AV} (hC : Ct MX1_add h [vR 1 j, a0, a1] S Q') (k : ∀ (r : Option AV) (S' : ST), Q' r S' → V MX4_condition (h + 1) 48 L (r.toList ++ st) S' Q) (hj : j < NI 1) (hw : wid st ≤ 8) : V MX4_condition (h + 1) 45 L (a1 :: a0 :: vR 1 j :: st) S Q :=
  v_callV (M' := MX1_add) (c := 1) (As := [a0, a1]) dX4_condition_45 ml_X4_129 im_X1_add se_X1_add in_X1 cd_X1_add rfl LY_1 np_X1_add (by decide) hw hj hC k
theorem b_X4_condition_48 {h : Nat} {L : LVs} {st : List AV} {S : ST} {Q : Option AV → ST → Prop} (k : o_inc L st S (fun L st S => V MX4_condition h 8 L st S Q) 3 (nI 1)) : V MX4_condition h 48 L st S Q :=
  v_iinc dX4_condition_48 (by decide) (by decide) (fun L st S k => v_goto dX4_condition_51 (by decide) k) k
theorem b_X4_condition_54 {h : Nat} {L : LVs} {st : List AV} {S : ST} {Q : Option AV → ST → Prop} (k : o_il L st S (fun L st S => t_zr st S Q) 2) : V MX4_condition h 54 L st S Q :=
  v_iload_n dX4_condition_54 rfl (fun L st S k => w_zr dX4_condition_55 rfl k) k
-- QueryForge$Reader.both(I)Z
theorem dX4_both_0 : decode cX4_both 0 = .ok (.aload_n 0, 1) := by decide +kernel
theorem dX4_both_1 : decode cX4_both 1 = .ok (.iload_n 1, 1) := by decide +kernel
theorem dX4_both_2 : decode cX4_both 2 = .ok (.invokevirtual 132, 3) := by decide +kernel
theorem dX4_both_5 : decode cX4_both 5 = .ok (.istore_n 2, 1) := by decide +kernel
theorem dX4_both_6 : decode cX4_both 6 = .ok (.iconst 0, 1) := by decide +kernel
theorem dX4_both_7 : decode cX4_both 7 = .ok (.istore_n 3, 1) := by decide +kernel
theorem dX4_both_8 : decode cX4_both 8 = .ok (.iload_n 3, 1) := by decide +kernel
theorem dX4_both_9 : decode cX4_both 9 = .ok (.sipush 200, 3) := by decide +kernel
theorem dX4_both_12 : decode cX4_both 12 = .ok (.if_icmp .ge 42, 3) := by decide +kernel
theorem dX4_both_15 : decode cX4_both 15 = .ok (.iload_n 2, 1) := by decide +kernel
theorem dX4_both_16 : decode cX4_both 16 = .ok (.ifCond .eq 38, 3) := by decide +kernel
theorem dX4_both_19 : decode cX4_both 19 = .ok (.aload_n 0, 1) := by decide +kernel
theorem dX4_both_20 : decode cX4_both 20 = .ok (.sipush 215, 3) := by decide +kernel
theorem dX4_both_23 : decode cX4_both 23 = .ok (.invokevirtual 42, 3) := by decide +kernel
theorem dX4_both_26 : decode cX4_both 26 = .ok (.ifCond .eq 28, 3) := by decide +kernel
theorem dX4_both_29 : decode cX4_both 29 = .ok (.aload_n 0, 1) := by decide +kernel
theorem dX4_both_30 : decode cX4_both 30 = .ok (.iload_n 1, 1) := by decide +kernel
theorem dX4_both_31 : decode cX4_both 31 = .ok (.invokevirtual 132, 3) := by decide +kernel
theorem dX4_both_34 : decode cX4_both 34 = .ok (.istore_n 2, 1) := by decide +kernel
theorem dX4_both_35 : decode cX4_both 35 = .ok (.aload_n 0, 1) := by decide +kernel
theorem dX4_both_36 : decode cX4_both 36 = .ok (.getfield 15, 3) := by decide +kernel
theorem dX4_both_39 : decode cX4_both 39 = .ok (.getfield 95, 3) := by decide +kernel
theorem dX4_both_42 : decode cX4_both 42 = .ok (.bipush 19, 2) := by decide +kernel
theorem dX4_both_44 : decode cX4_both 44 = .ok (.iconst 0, 1) := by decide +kernel
theorem dX4_both_45 : decode cX4_both 45 = .ok (.invokevirtual 129, 3) := by decide +kernel
theorem dX4_both_48 : decode cX4_both 48 = .ok (.iinc 3 1, 3) := by decide +kernel
theorem dX4_both_51 : decode cX4_both 51 = .ok (.goto (-43), 3) := by decide +kernel
theorem dX4_both_54 : decode cX4_both 54 = .ok (.iload_n 2, 1) := by decide +kernel
theorem dX4_both_55 : decode cX4_both 55 = .ok (.ireturn, 1) := by decide +kernel
theorem b_X4_both_0 {h : Nat} {L : LVs} {st : List AV} {S : ST} {Q : Option AV → ST → Prop} (k : o_al L st S (fun L st S => o_il L st S (fun L st S => V MX4_both h 2 L st S Q) 1) 0) : V MX4_both h 0 L st S Q :=
  v_aload_n dX4_both_0 rfl (fun L st S k => v_iload_n dX4_both_1 rfl (fun L st S k => k) k) k
theorem k_X4_both_2 {h : Nat} {L : LVs} {st : List AV} {S : ST} {Q Q' : Option AV → ST → Prop} {j : Nat} {a0 : AV} (hC : Ct MX4_single h [vR 4 j, a0] S Q') (k : ∀ (r : Option AV) (S' : ST), Q' r S' → V MX4_both (h + 1) 5 L (r.toList ++ st) S' Q) (hj : j < NI 4) (hw : wid st ≤ 8) : V MX4_both (h + 1) 2 L (a0 :: vR 4 j :: st) S Q :=
  v_callV (M' := MX4_single) (c := 4) (As := [a0]) dX4_both_2 ml_X4_132 im_X4_single se_X4_single in_X4 cd_X4_single rfl LY_4 np_X4_single (by decide) hw hj hC k
theorem b_X4_both_5 {h : Nat} {L : LVs} {st : List AV} {S : ST} {Q : Option AV → ST → Prop} (k : o_is L st S (fun L st S => o_c L st S (fun L st S => o_is L st S (fun L st S => V MX4_both h 8 L st S Q) 3) (nI 0)) 2) : V MX4_both h 5 L st S Q :=
  v_istore_n dX4_both_5 rfl (by decide) (fun L st S k => v_iconst dX4_both_6 (by decide) (fun L st S k => v_istore_n dX4_both_7 rfl (by decide) (fun L st S k => k) k) k) k
theorem b_X4_both_8 {h : Nat} {L : LVs} {st : List AV} {S : ST} {Q : Option AV → ST → Prop} (k : o_il L st S (fun L st S => o_c L st S (fun L st S => t_2 L st S (fun x y => y ≤ x) (fun L st S => V MX4_both h 54 L st S Q) (fun L st S => V MX4_both h 15 L st S Q)) (nI 200)) 3) : V MX4_both h 8 L st S Q :=
  v_iload_n dX4_both_8 rfl (fun L st S k => v_sipush dX4_both_9 (by decide) (fun L st S k => w_icmp_ge dX4_both_12 (by decide) rfl k) k) k
theorem b_X4_both_15 {h : Nat} {L : LVs} {st : List AV} {S : ST} {Q : Option AV → ST → Prop} (k : o_il L st S (fun L st S => t_1 L st S (fun x => x = nI 0) (fun L st S => V MX4_both h 54 L st S Q) (fun L st S => V MX4_both h 19 L st S Q)) 2) : V MX4_both h 15 L st S Q :=
  v_iload_n dX4_both_15 rfl (fun L st S k => w_if_eq dX4_both_16 (by decide) rfl k) k
theorem b_X4_both_19 {h : Nat} {L : LVs} {st : List AV} {S : ST} {Q : Option AV → ST → Prop} (k : o_al L st S (fun L st S => o_c L st S (fun L st S => V MX4_both h 23 L st S Q) (nI 215)) 0) : V MX4_both h 19 L st S Q :=
  v_aload_n dX4_both_19 rfl (fun L st S k => v_sipush dX4_both_20 (by decide) (fun L st S k => k) k) k
theorem k_X4_both_23 {h : Nat} {L : LVs} {st : List AV} {S : ST} {Q Q' : Option AV → ST → Prop} {j : Nat} {a0 : AV} (hC : Ct MX4_take h [vR 4 j, a0] S Q') (k : ∀ (r : Option AV) (S' : ST), Q' r S' → V MX4_both (h + 1) 26 L (r.toList ++ st) S' Q) (hj : j < NI 4) (hw : wid st ≤ 8) : V MX4_both (h + 1) 23 L (a0 :: vR 4 j :: st) S Q :=
  v_callV (M' := MX4_take) (c := 4) (As := [a0]) dX4_both_23 ml_X4_42 im_X4_take se_X4_take in_X4 cd_X4_take rfl LY_4 np_X4_take (by decide) hw hj hC k
theorem b_X4_both_26 {h : Nat} {L : LVs} {st : List AV} {S : ST} {Q : Option AV → ST → Prop} (k : t_1 L st S (fun x => x = nI 0) (fun L st S => V MX4_both h 54 L st S Q) (fun L st S => V MX4_both h 29 L st S Q)) : V MX4_both h 26 L st S Q :=
  w_if_eq dX4_both_26 (by decide) rfl k
theorem b_X4_both_29 {h : Nat} {L : LVs} {st : List AV} {S : ST} {Q : Option AV → ST → Prop} (k : o_al L st S (fun L st S => o_il L st S (fun L st S => V MX4_both h 31 L st S Q) 1) 0) : V MX4_both h 29 L st S Q :=
  v_aload_n dX4_both_29 rfl (fun L st S k => v_iload_n dX4_both_30 rfl (fun L st S k => k) k) k
theorem k_X4_both_31 {h : Nat} {L : LVs} {st : List AV} {S : ST} {Q Q' : Option AV → ST → Prop} {j : Nat} {a0 : AV} (hC : Ct MX4_single h [vR 4 j, a0] S Q') (k : ∀ (r : Option AV) (S' : ST), Q' r S' → V MX4_both (h + 1) 34 L (r.toList ++ st) S' Q) (hj : j < NI 4) (hw : wid st ≤ 8) : V MX4_both (h + 1) 31 L (a0 :: vR 4 j :: st) S Q :=
  v_callV (M' := MX4_single) (c := 4) (As := [a0]) dX4_both_31 ml_X4_132 im_X4_single se_X4_single in_X4 cd_X4_single rfl LY_4 np_X4_single (by decide) hw hj hC k
theorem b_X4_both_34 {h : Nat} {L : LVs} {st : List AV} {S : ST} {Q : Option AV → ST → Prop} (k : o_is L st S (fun L st S => o_al L st S (fun L st S => o_get L st S (fun L st S => o_get L st S (fun L st S => o_c L st S (fun L st S => o_c L st S (fun L st S => V MX4_both h 45 L st S Q) (nI 0)) (nI 19)) 6 0 (4, 1, 0)) 4 1 (4, 6, 0)) 0) 2) : V MX4_both h 34 L st S Q :=
  v_istore_n dX4_both_34 rfl (by decide) (fun L st S k => v_aload_n dX4_both_35 rfl (fun L st S k => v_get dX4_both_36 rfl iX4 LY_4 rfl (by decide) rfl fl_X4_15 (fun L st S k => v_get dX4_both_39 rfl iX6 LY_6 rfl (by decide) rfl fl_X4_95 (fun L st S k => v_bipush dX4_both_42 (by decide) (fun L st S k => v_iconst dX4_both_44 (by decide) (fun L st S k => k) k) k) k) k) k) k
theorem k_X4_both_45 {h : Nat} {L : LVs} {st : List AV} {S : ST} {Q Q' : Option AV → ST → Prop} {j : Nat} {a0 a1 : AV} (hC : Ct MX1_add h [vR 1 j, a0, a1] S Q') (k : ∀ (r : Option AV) (S' : ST), Q' r S' → V MX4_both (h + 1) 48 L (r.toList ++ st) S' Q) (hj : j < NI 1) (hw : wid st ≤ 8) : V MX4_both (h + 1) 45 L (a1 :: a0 :: vR 1 j :: st) S Q :=
  v_callV (M' := MX1_add) (c := 1) (As := [a0, a1]) dX4_both_45 ml_X4_129 im_X1_add se_X1_add in_X1 cd_X1_add rfl LY_1 np_X1_add (by decide) hw hj hC k
theorem b_X4_both_48 {h : Nat} {L : LVs} {st : List AV} {S : ST} {Q : Option AV → ST → Prop} (k : o_inc L st S (fun L st S => V MX4_both h 8 L st S Q) 3 (nI 1)) : V MX4_both h 48 L st S Q :=
  v_iinc dX4_both_48 (by decide) (by decide) (fun L st S k => v_goto dX4_both_51 (by decide) k) k
theorem b_X4_both_54 {h : Nat} {L : LVs} {st : List AV} {S : ST} {Q : Option AV → ST → Prop} (k : o_il L st S (fun L st S => t_zr st S Q) 2) : V MX4_both h 54 L st S Q :=
  v_iload_n dX4_both_54 rfl (fun L st S k => w_zr dX4_both_55 rfl k) k
-- QueryForge$Reader.single(I)Z
theorem dX4_single_0 : decode cX4_single 0 = .ok (.iload_n 1, 1) := by decide +kernel
theorem dX4_single_1 : decode cX4_single 1 = .ok (.bipush 20, 2) := by decide +kernel
theorem dX4_single_3 : decode cX4_single 3 = .ok (.if_icmp .lt 24, 3) := by decide +kernel
theorem dX4_single_6 : decode cX4_single 6 = .ok (.aload_n 0, 1) := by decide +kernel
theorem dX4_single_7 : decode cX4_single 7 = .ok (.sipush 217, 3) := by decide +kernel
theorem dX4_single_10 : decode cX4_single 10 = .ok (.invokevirtual 61, 3) := by decide +kernel
theorem dX4_single_13 : decode cX4_single 13 = .ok (.ifCond .ne 12, 3) := by decide +kernel
theorem dX4_single_16 : decode cX4_single 16 = .ok (.aload_n 0, 1) := by decide +kernel
theorem dX4_single_17 : decode cX4_single 17 = .ok (.bipush 91, 2) := by decide +kernel
theorem dX4_single_19 : decode cX4_single 19 = .ok (.invokevirtual 61, 3) := by decide +kernel
theorem dX4_single_22 : decode cX4_single 22 = .ok (.ifCond .eq 5, 3) := by decide +kernel
theorem dX4_single_25 : decode cX4_single 25 = .ok (.iconst 0, 1) := by decide +kernel
theorem dX4_single_26 : decode cX4_single 26 = .ok (.ireturn, 1) := by decide +kernel
theorem dX4_single_27 : decode cX4_single 27 = .ok (.aload_n 0, 1) := by decide +kernel
theorem dX4_single_28 : decode cX4_single 28 = .ok (.sipush 217, 3) := by decide +kernel
theorem dX4_single_31 : decode cX4_single 31 = .ok (.invokevirtual 42, 3) := by decide +kernel
theorem dX4_single_34 : decode cX4_single 34 = .ok (.ifCond .eq 26, 3) := by decide +kernel
theorem dX4_single_37 : decode cX4_single 37 = .ok (.aload_n 0, 1) := by decide +kernel
theorem dX4_single_38 : decode cX4_single 38 = .ok (.iload_n 1, 1) := by decide +kernel
theorem dX4_single_39 : decode cX4_single 39 = .ok (.iconst 1, 1) := by decide +kernel
theorem dX4_single_40 : decode cX4_single 40 = .ok (.iadd, 1) := by decide +kernel
theorem dX4_single_41 : decode cX4_single 41 = .ok (.invokevirtual 132, 3) := by decide +kernel
theorem dX4_single_44 : decode cX4_single 44 = .ok (.istore_n 2, 1) := by decide +kernel
theorem dX4_single_45 : decode cX4_single 45 = .ok (.aload_n 0, 1) := by decide +kernel
theorem dX4_single_46 : decode cX4_single 46 = .ok (.getfield 15, 3) := by decide +kernel
theorem dX4_single_49 : decode cX4_single 49 = .ok (.getfield 95, 3) := by decide +kernel
theorem dX4_single_52 : decode cX4_single 52 = .ok (.bipush 18, 2) := by decide +kernel
theorem dX4_single_54 : decode cX4_single 54 = .ok (.iconst 0, 1) := by decide +kernel
theorem dX4_single_55 : decode cX4_single 55 = .ok (.invokevirtual 129, 3) := by decide +kernel
theorem dX4_single_58 : decode cX4_single 58 = .ok (.iload_n 2, 1) := by decide +kernel
theorem dX4_single_59 : decode cX4_single 59 = .ok (.ireturn, 1) := by decide +kernel
theorem dX4_single_60 : decode cX4_single 60 = .ok (.aload_n 0, 1) := by decide +kernel
theorem dX4_single_61 : decode cX4_single 61 = .ok (.bipush 91, 2) := by decide +kernel
theorem dX4_single_63 : decode cX4_single 63 = .ok (.invokevirtual 42, 3) := by decide +kernel
theorem dX4_single_66 : decode cX4_single 66 = .ok (.ifCond .eq 28, 3) := by decide +kernel
theorem dX4_single_69 : decode cX4_single 69 = .ok (.aload_n 0, 1) := by decide +kernel
theorem dX4_single_70 : decode cX4_single 70 = .ok (.iload_n 1, 1) := by decide +kernel
theorem dX4_single_71 : decode cX4_single 71 = .ok (.iconst 1, 1) := by decide +kernel
theorem dX4_single_72 : decode cX4_single 72 = .ok (.iadd, 1) := by decide +kernel
theorem dX4_single_73 : decode cX4_single 73 = .ok (.invokevirtual 108, 3) := by decide +kernel
theorem dX4_single_76 : decode cX4_single 76 = .ok (.ifCond .eq 16, 3) := by decide +kernel
theorem dX4_single_79 : decode cX4_single 79 = .ok (.aload_n 0, 1) := by decide +kernel
theorem dX4_single_80 : decode cX4_single 80 = .ok (.bipush 93, 2) := by decide +kernel
theorem dX4_single_82 : decode cX4_single 82 = .ok (.invokevirtual 42, 3) := by decide +kernel
theorem dX4_single_85 : decode cX4_single 85 = .ok (.ifCond .eq 7, 3) := by decide +kernel
theorem dX4_single_88 : decode cX4_single 88 = .ok (.iconst 1, 1) := by decide +kernel
theorem dX4_single_89 : decode cX4_single 89 = .ok (.goto 4, 3) := by decide +kernel
theorem dX4_single_92 : decode cX4_single 92 = .ok (.iconst 0, 1) := by decide +kernel
theorem dX4_single_93 : decode cX4_single 93 = .ok (.ireturn, 1) := by decide +kernel
theorem dX4_single_94 : decode cX4_single 94 = .ok (.aload_n 0, 1) := by decide +kernel
theorem dX4_single_95 : decode cX4_single 95 = .ok (.iload_n 1, 1) := by decide +kernel
theorem dX4_single_96 : decode cX4_single 96 = .ok (.invokevirtual 86, 3) := by decide +kernel
theorem dX4_single_99 : decode cX4_single 99 = .ok (.ifCond .ne 5, 3) := by decide +kernel
theorem dX4_single_102 : decode cX4_single 102 = .ok (.iconst 0, 1) := by decide +kernel
theorem dX4_single_103 : decode cX4_single 103 = .ok (.ireturn, 1) := by decide +kernel
theorem dX4_single_104 : decode cX4_single 104 = .ok (.aload_n 0, 1) := by decide +kernel
theorem dX4_single_105 : decode cX4_single 105 = .ok (.sipush 214, 3) := by decide +kernel
theorem dX4_single_108 : decode cX4_single 108 = .ok (.invokevirtual 42, 3) := by decide +kernel
theorem dX4_single_111 : decode cX4_single 111 = .ok (.ifCond .eq 24, 3) := by decide +kernel
theorem dX4_single_114 : decode cX4_single 114 = .ok (.aload_n 0, 1) := by decide +kernel
theorem dX4_single_115 : decode cX4_single 115 = .ok (.getfield 15, 3) := by decide +kernel
theorem dX4_single_118 : decode cX4_single 118 = .ok (.getfield 95, 3) := by decide +kernel
theorem dX4_single_121 : decode cX4_single 121 = .ok (.bipush 17, 2) := by decide +kernel
theorem dX4_single_123 : decode cX4_single 123 = .ok (.iconst 0, 1) := by decide +kernel
theorem dX4_single_124 : decode cX4_single 124 = .ok (.invokevirtual 129, 3) := by decide +kernel
theorem dX4_single_127 : decode cX4_single 127 = .ok (.aload_n 0, 1) := by decide +kernel
theorem dX4_single_128 : decode cX4_single 128 = .ok (.sipush 213, 3) := by decide +kernel
theorem dX4_single_131 : decode cX4_single 131 = .ok (.invokevirtual 42, 3) := by decide +kernel
theorem dX4_single_134 : decode cX4_single 134 = .ok (.ireturn, 1) := by decide +kernel
theorem dX4_single_135 : decode cX4_single 135 = .ok (.aload_n 0, 1) := by decide +kernel
theorem dX4_single_136 : decode cX4_single 136 = .ok (.getfield 9, 3) := by decide +kernel
theorem dX4_single_139 : decode cX4_single 139 = .ok (.aload_n 0, 1) := by decide +kernel
theorem dX4_single_140 : decode cX4_single 140 = .ok (.getfield 19, 3) := by decide +kernel
theorem dX4_single_143 : decode cX4_single 143 = .ok (.invokevirtual 23, 3) := by decide +kernel
theorem dX4_single_146 : decode cX4_single 146 = .ok (.invokestatic 135, 3) := by decide +kernel
theorem dX4_single_149 : decode cX4_single 149 = .ok (.istore_n 2, 1) := by decide +kernel
theorem dX4_single_150 : decode cX4_single 150 = .ok (.iload_n 2, 1) := by decide +kernel
theorem dX4_single_151 : decode cX4_single 151 = .ok (.iconst (-1), 1) := by decide +kernel
theorem dX4_single_152 : decode cX4_single 152 = .ok (.if_icmp .ne 5, 3) := by decide +kernel
theorem dX4_single_155 : decode cX4_single 155 = .ok (.iconst 0, 1) := by decide +kernel
theorem dX4_single_156 : decode cX4_single 156 = .ok (.ireturn, 1) := by decide +kernel
theorem dX4_single_157 : decode cX4_single 157 = .ok (.aload_n 0, 1) := by decide +kernel
theorem dX4_single_158 : decode cX4_single 158 = .ok (.dup, 1) := by decide +kernel
theorem dX4_single_159 : decode cX4_single 159 = .ok (.getfield 19, 3) := by decide +kernel
theorem dX4_single_162 : decode cX4_single 162 = .ok (.iconst 1, 1) := by decide +kernel
theorem dX4_single_163 : decode cX4_single 163 = .ok (.iadd, 1) := by decide +kernel
theorem dX4_single_164 : decode cX4_single 164 = .ok (.putfield 19, 3) := by decide +kernel
theorem dX4_single_167 : decode cX4_single 167 = .ok (.aload_n 0, 1) := by decide +kernel
theorem dX4_single_168 : decode cX4_single 168 = .ok (.iload_n 1, 1) := by decide +kernel
theorem dX4_single_169 : decode cX4_single 169 = .ok (.invokevirtual 86, 3) := by decide +kernel
theorem dX4_single_172 : decode cX4_single 172 = .ok (.istore_n 3, 1) := by decide +kernel
theorem dX4_single_173 : decode cX4_single 173 = .ok (.aload_n 0, 1) := by decide +kernel
theorem dX4_single_174 : decode cX4_single 174 = .ok (.getfield 15, 3) := by decide +kernel
theorem dX4_single_177 : decode cX4_single 177 = .ok (.getfield 95, 3) := by decide +kernel
theorem dX4_single_180 : decode cX4_single 180 = .ok (.iload_n 2, 1) := by decide +kernel
theorem dX4_single_181 : decode cX4_single 181 = .ok (.iconst 0, 1) := by decide +kernel
theorem dX4_single_182 : decode cX4_single 182 = .ok (.invokevirtual 129, 3) := by decide +kernel
theorem dX4_single_185 : decode cX4_single 185 = .ok (.iload_n 3, 1) := by decide +kernel
theorem dX4_single_186 : decode cX4_single 186 = .ok (.ireturn, 1) := by decide +kernel
theorem b_X4_single_0 {h : Nat} {L : LVs} {st : List AV} {S : ST} {Q : Option AV → ST → Prop} (k : o_il L st S (fun L st S => o_c L st S (fun L st S => t_2 L st S (fun x y => x < y) (fun L st S => V MX4_single h 27 L st S Q) (fun L st S => V MX4_single h 6 L st S Q)) (nI 20)) 1) : V MX4_single h 0 L st S Q :=
  v_iload_n dX4_single_0 rfl (fun L st S k => v_bipush dX4_single_1 (by decide) (fun L st S k => w_icmp_lt dX4_single_3 (by decide) rfl k) k) k
theorem b_X4_single_6 {h : Nat} {L : LVs} {st : List AV} {S : ST} {Q : Option AV → ST → Prop} (k : o_al L st S (fun L st S => o_c L st S (fun L st S => V MX4_single h 10 L st S Q) (nI 217)) 0) : V MX4_single h 6 L st S Q :=
  v_aload_n dX4_single_6 rfl (fun L st S k => v_sipush dX4_single_7 (by decide) (fun L st S k => k) k) k
theorem k_X4_single_10 {h : Nat} {L : LVs} {st : List AV} {S : ST} {Q Q' : Option AV → ST → Prop} {j : Nat} {a0 : AV} (hC : Ct MX4_isNext h [vR 4 j, a0] S Q') (k : ∀ (r : Option AV) (S' : ST), Q' r S' → V MX4_single (h + 1) 13 L (r.toList ++ st) S' Q) (hj : j < NI 4) (hw : wid st ≤ 8) : V MX4_single (h + 1) 10 L (a0 :: vR 4 j :: st) S Q :=
  v_callV (M' := MX4_isNext) (c := 4) (As := [a0]) dX4_single_10 ml_X4_61 im_X4_isNext se_X4_isNext in_X4 cd_X4_isNext rfl LY_4 np_X4_isNext (by decide) hw hj hC k
theorem b_X4_single_13 {h : Nat} {L : LVs} {st : List AV} {S : ST} {Q : Option AV → ST → Prop} (k : t_1 L st S (fun x => x = nI 0) (fun L st S => V MX4_single h 16 L st S Q) (fun L st S => V MX4_single h 25 L st S Q)) : V MX4_single h 13 L st S Q :=
  w_if_ne dX4_single_13 (by decide) rfl k
theorem b_X4_single_16 {h : Nat} {L : LVs} {st : List AV} {S : ST} {Q : Option AV → ST → Prop} (k : o_al L st S (fun L st S => o_c L st S (fun L st S => V MX4_single h 19 L st S Q) (nI 91)) 0) : V MX4_single h 16 L st S Q :=
  v_aload_n dX4_single_16 rfl (fun L st S k => v_bipush dX4_single_17 (by decide) (fun L st S k => k) k) k
theorem k_X4_single_19 {h : Nat} {L : LVs} {st : List AV} {S : ST} {Q Q' : Option AV → ST → Prop} {j : Nat} {a0 : AV} (hC : Ct MX4_isNext h [vR 4 j, a0] S Q') (k : ∀ (r : Option AV) (S' : ST), Q' r S' → V MX4_single (h + 1) 22 L (r.toList ++ st) S' Q) (hj : j < NI 4) (hw : wid st ≤ 8) : V MX4_single (h + 1) 19 L (a0 :: vR 4 j :: st) S Q :=
  v_callV (M' := MX4_isNext) (c := 4) (As := [a0]) dX4_single_19 ml_X4_61 im_X4_isNext se_X4_isNext in_X4 cd_X4_isNext rfl LY_4 np_X4_isNext (by decide) hw hj hC k
theorem b_X4_single_22 {h : Nat} {L : LVs} {st : List AV} {S : ST} {Q : Option AV → ST → Prop} (k : t_1 L st S (fun x => x = nI 0) (fun L st S => V MX4_single h 27 L st S Q) (fun L st S => V MX4_single h 25 L st S Q)) : V MX4_single h 22 L st S Q :=
  w_if_eq dX4_single_22 (by decide) rfl k
theorem b_X4_single_25 {h : Nat} {L : LVs} {st : List AV} {S : ST} {Q : Option AV → ST → Prop} (k : o_c L st S (fun L st S => t_zr st S Q) (nI 0)) : V MX4_single h 25 L st S Q :=
  v_iconst dX4_single_25 (by decide) (fun L st S k => w_zr dX4_single_26 rfl k) k
theorem b_X4_single_27 {h : Nat} {L : LVs} {st : List AV} {S : ST} {Q : Option AV → ST → Prop} (k : o_al L st S (fun L st S => o_c L st S (fun L st S => V MX4_single h 31 L st S Q) (nI 217)) 0) : V MX4_single h 27 L st S Q :=
  v_aload_n dX4_single_27 rfl (fun L st S k => v_sipush dX4_single_28 (by decide) (fun L st S k => k) k) k
theorem k_X4_single_31 {h : Nat} {L : LVs} {st : List AV} {S : ST} {Q Q' : Option AV → ST → Prop} {j : Nat} {a0 : AV} (hC : Ct MX4_take h [vR 4 j, a0] S Q') (k : ∀ (r : Option AV) (S' : ST), Q' r S' → V MX4_single (h + 1) 34 L (r.toList ++ st) S' Q) (hj : j < NI 4) (hw : wid st ≤ 8) : V MX4_single (h + 1) 31 L (a0 :: vR 4 j :: st) S Q :=
  v_callV (M' := MX4_take) (c := 4) (As := [a0]) dX4_single_31 ml_X4_42 im_X4_take se_X4_take in_X4 cd_X4_take rfl LY_4 np_X4_take (by decide) hw hj hC k
theorem b_X4_single_34 {h : Nat} {L : LVs} {st : List AV} {S : ST} {Q : Option AV → ST → Prop} (k : t_1 L st S (fun x => x = nI 0) (fun L st S => V MX4_single h 60 L st S Q) (fun L st S => V MX4_single h 37 L st S Q)) : V MX4_single h 34 L st S Q :=
  w_if_eq dX4_single_34 (by decide) rfl k
theorem b_X4_single_37 {h : Nat} {L : LVs} {st : List AV} {S : ST} {Q : Option AV → ST → Prop} (k : o_al L st S (fun L st S => o_il L st S (fun L st S => o_c L st S (fun L st S => o_iadd L st S (fun L st S => V MX4_single h 41 L st S Q)) (nI 1)) 1) 0) : V MX4_single h 37 L st S Q :=
  v_aload_n dX4_single_37 rfl (fun L st S k => v_iload_n dX4_single_38 rfl (fun L st S k => v_iconst dX4_single_39 (by decide) (fun L st S k => v_iadd dX4_single_40 (fun L st S k => k) k) k) k) k
theorem k_X4_single_41 {h : Nat} {L : LVs} {st : List AV} {S : ST} {Q Q' : Option AV → ST → Prop} {j : Nat} {a0 : AV} (hC : Ct MX4_single h [vR 4 j, a0] S Q') (k : ∀ (r : Option AV) (S' : ST), Q' r S' → V MX4_single (h + 1) 44 L (r.toList ++ st) S' Q) (hj : j < NI 4) (hw : wid st ≤ 8) : V MX4_single (h + 1) 41 L (a0 :: vR 4 j :: st) S Q :=
  v_callV (M' := MX4_single) (c := 4) (As := [a0]) dX4_single_41 ml_X4_132 im_X4_single se_X4_single in_X4 cd_X4_single rfl LY_4 np_X4_single (by decide) hw hj hC k
theorem b_X4_single_44 {h : Nat} {L : LVs} {st : List AV} {S : ST} {Q : Option AV → ST → Prop} (k : o_is L st S (fun L st S => o_al L st S (fun L st S => o_get L st S (fun L st S => o_get L st S (fun L st S => o_c L st S (fun L st S => o_c L st S (fun L st S => V MX4_single h 55 L st S Q) (nI 0)) (nI 18)) 6 0 (4, 1, 0)) 4 1 (4, 6, 0)) 0) 2) : V MX4_single h 44 L st S Q :=
  v_istore_n dX4_single_44 rfl (by decide) (fun L st S k => v_aload_n dX4_single_45 rfl (fun L st S k => v_get dX4_single_46 rfl iX4 LY_4 rfl (by decide) rfl fl_X4_15 (fun L st S k => v_get dX4_single_49 rfl iX6 LY_6 rfl (by decide) rfl fl_X4_95 (fun L st S k => v_bipush dX4_single_52 (by decide) (fun L st S k => v_iconst dX4_single_54 (by decide) (fun L st S k => k) k) k) k) k) k) k
theorem k_X4_single_55 {h : Nat} {L : LVs} {st : List AV} {S : ST} {Q Q' : Option AV → ST → Prop} {j : Nat} {a0 a1 : AV} (hC : Ct MX1_add h [vR 1 j, a0, a1] S Q') (k : ∀ (r : Option AV) (S' : ST), Q' r S' → V MX4_single (h + 1) 58 L (r.toList ++ st) S' Q) (hj : j < NI 1) (hw : wid st ≤ 8) : V MX4_single (h + 1) 55 L (a1 :: a0 :: vR 1 j :: st) S Q :=
  v_callV (M' := MX1_add) (c := 1) (As := [a0, a1]) dX4_single_55 ml_X4_129 im_X1_add se_X1_add in_X1 cd_X1_add rfl LY_1 np_X1_add (by decide) hw hj hC k
theorem b_X4_single_58 {h : Nat} {L : LVs} {st : List AV} {S : ST} {Q : Option AV → ST → Prop} (k : o_il L st S (fun L st S => t_zr st S Q) 2) : V MX4_single h 58 L st S Q :=
  v_iload_n dX4_single_58 rfl (fun L st S k => w_zr dX4_single_59 rfl k) k
theorem b_X4_single_60 {h : Nat} {L : LVs} {st : List AV} {S : ST} {Q : Option AV → ST → Prop} (k : o_al L st S (fun L st S => o_c L st S (fun L st S => V MX4_single h 63 L st S Q) (nI 91)) 0) : V MX4_single h 60 L st S Q :=
  v_aload_n dX4_single_60 rfl (fun L st S k => v_bipush dX4_single_61 (by decide) (fun L st S k => k) k) k
theorem k_X4_single_63 {h : Nat} {L : LVs} {st : List AV} {S : ST} {Q Q' : Option AV → ST → Prop} {j : Nat} {a0 : AV} (hC : Ct MX4_take h [vR 4 j, a0] S Q') (k : ∀ (r : Option AV) (S' : ST), Q' r S' → V MX4_single (h + 1) 66 L (r.toList ++ st) S' Q) (hj : j < NI 4) (hw : wid st ≤ 8) : V MX4_single (h + 1) 63 L (a0 :: vR 4 j :: st) S Q :=
  v_callV (M' := MX4_take) (c := 4) (As := [a0]) dX4_single_63 ml_X4_42 im_X4_take se_X4_take in_X4 cd_X4_take rfl LY_4 np_X4_take (by decide) hw hj hC k
theorem b_X4_single_66 {h : Nat} {L : LVs} {st : List AV} {S : ST} {Q : Option AV → ST → Prop} (k : t_1 L st S (fun x => x = nI 0) (fun L st S => V MX4_single h 94 L st S Q) (fun L st S => V MX4_single h 69 L st S Q)) : V MX4_single h 66 L st S Q :=
  w_if_eq dX4_single_66 (by decide) rfl k
theorem b_X4_single_69 {h : Nat} {L : LVs} {st : List AV} {S : ST} {Q : Option AV → ST → Prop} (k : o_al L st S (fun L st S => o_il L st S (fun L st S => o_c L st S (fun L st S => o_iadd L st S (fun L st S => V MX4_single h 73 L st S Q)) (nI 1)) 1) 0) : V MX4_single h 69 L st S Q :=
  v_aload_n dX4_single_69 rfl (fun L st S k => v_iload_n dX4_single_70 rfl (fun L st S k => v_iconst dX4_single_71 (by decide) (fun L st S k => v_iadd dX4_single_72 (fun L st S k => k) k) k) k) k
theorem k_X4_single_73 {h : Nat} {L : LVs} {st : List AV} {S : ST} {Q Q' : Option AV → ST → Prop} {j : Nat} {a0 : AV} (hC : Ct MX4_condition h [vR 4 j, a0] S Q') (k : ∀ (r : Option AV) (S' : ST), Q' r S' → V MX4_single (h + 1) 76 L (r.toList ++ st) S' Q) (hj : j < NI 4) (hw : wid st ≤ 8) : V MX4_single (h + 1) 73 L (a0 :: vR 4 j :: st) S Q :=
  v_callV (M' := MX4_condition) (c := 4) (As := [a0]) dX4_single_73 ml_X4_108 im_X4_condition se_X4_condition in_X4 cd_X4_condition rfl LY_4 np_X4_condition (by decide) hw hj hC k
theorem b_X4_single_76 {h : Nat} {L : LVs} {st : List AV} {S : ST} {Q : Option AV → ST → Prop} (k : t_1 L st S (fun x => x = nI 0) (fun L st S => V MX4_single h 92 L st S Q) (fun L st S => V MX4_single h 79 L st S Q)) : V MX4_single h 76 L st S Q :=
  w_if_eq dX4_single_76 (by decide) rfl k
theorem b_X4_single_79 {h : Nat} {L : LVs} {st : List AV} {S : ST} {Q : Option AV → ST → Prop} (k : o_al L st S (fun L st S => o_c L st S (fun L st S => V MX4_single h 82 L st S Q) (nI 93)) 0) : V MX4_single h 79 L st S Q :=
  v_aload_n dX4_single_79 rfl (fun L st S k => v_bipush dX4_single_80 (by decide) (fun L st S k => k) k) k
theorem k_X4_single_82 {h : Nat} {L : LVs} {st : List AV} {S : ST} {Q Q' : Option AV → ST → Prop} {j : Nat} {a0 : AV} (hC : Ct MX4_take h [vR 4 j, a0] S Q') (k : ∀ (r : Option AV) (S' : ST), Q' r S' → V MX4_single (h + 1) 85 L (r.toList ++ st) S' Q) (hj : j < NI 4) (hw : wid st ≤ 8) : V MX4_single (h + 1) 82 L (a0 :: vR 4 j :: st) S Q :=
  v_callV (M' := MX4_take) (c := 4) (As := [a0]) dX4_single_82 ml_X4_42 im_X4_take se_X4_take in_X4 cd_X4_take rfl LY_4 np_X4_take (by decide) hw hj hC k
theorem b_X4_single_85 {h : Nat} {L : LVs} {st : List AV} {S : ST} {Q : Option AV → ST → Prop} (k : t_1 L st S (fun x => x = nI 0) (fun L st S => V MX4_single h 92 L st S Q) (fun L st S => V MX4_single h 88 L st S Q)) : V MX4_single h 85 L st S Q :=
  w_if_eq dX4_single_85 (by decide) rfl k
theorem b_X4_single_88 {h : Nat} {L : LVs} {st : List AV} {S : ST} {Q : Option AV → ST → Prop} (k : o_c L st S (fun L st S => V MX4_single h 93 L st S Q) (nI 1)) : V MX4_single h 88 L st S Q :=
  v_iconst dX4_single_88 (by decide) (fun L st S k => v_goto dX4_single_89 (by decide) k) k
theorem b_X4_single_92 {h : Nat} {L : LVs} {st : List AV} {S : ST} {Q : Option AV → ST → Prop} (k : o_c L st S (fun L st S => V MX4_single h 93 L st S Q) (nI 0)) : V MX4_single h 92 L st S Q :=
  v_iconst dX4_single_92 (by decide) (fun L st S k => k) k
theorem b_X4_single_93 {h : Nat} {L : LVs} {st : List AV} {S : ST} {Q : Option AV → ST → Prop} (k : t_zr st S Q) : V MX4_single h 93 L st S Q :=
  w_zr dX4_single_93 rfl k
theorem b_X4_single_94 {h : Nat} {L : LVs} {st : List AV} {S : ST} {Q : Option AV → ST → Prop} (k : o_al L st S (fun L st S => o_il L st S (fun L st S => V MX4_single h 96 L st S Q) 1) 0) : V MX4_single h 94 L st S Q :=
  v_aload_n dX4_single_94 rfl (fun L st S k => v_iload_n dX4_single_95 rfl (fun L st S k => k) k) k
theorem k_X4_single_96 {h : Nat} {L : LVs} {st : List AV} {S : ST} {Q Q' : Option AV → ST → Prop} {j : Nat} {a0 : AV} (hC : Ct MX4_expression h [vR 4 j, a0] S Q') (k : ∀ (r : Option AV) (S' : ST), Q' r S' → V MX4_single (h + 1) 99 L (r.toList ++ st) S' Q) (hj : j < NI 4) (hw : wid st ≤ 8) : V MX4_single (h + 1) 96 L (a0 :: vR 4 j :: st) S Q :=
  v_callV (M' := MX4_expression) (c := 4) (As := [a0]) dX4_single_96 ml_X4_86 im_X4_expression se_X4_expression in_X4 cd_X4_expression rfl LY_4 np_X4_expression (by decide) hw hj hC k
theorem b_X4_single_99 {h : Nat} {L : LVs} {st : List AV} {S : ST} {Q : Option AV → ST → Prop} (k : t_1 L st S (fun x => x = nI 0) (fun L st S => V MX4_single h 102 L st S Q) (fun L st S => V MX4_single h 104 L st S Q)) : V MX4_single h 99 L st S Q :=
  w_if_ne dX4_single_99 (by decide) rfl k
theorem b_X4_single_102 {h : Nat} {L : LVs} {st : List AV} {S : ST} {Q : Option AV → ST → Prop} (k : o_c L st S (fun L st S => t_zr st S Q) (nI 0)) : V MX4_single h 102 L st S Q :=
  v_iconst dX4_single_102 (by decide) (fun L st S k => w_zr dX4_single_103 rfl k) k
theorem b_X4_single_104 {h : Nat} {L : LVs} {st : List AV} {S : ST} {Q : Option AV → ST → Prop} (k : o_al L st S (fun L st S => o_c L st S (fun L st S => V MX4_single h 108 L st S Q) (nI 214)) 0) : V MX4_single h 104 L st S Q :=
  v_aload_n dX4_single_104 rfl (fun L st S k => v_sipush dX4_single_105 (by decide) (fun L st S k => k) k) k
theorem k_X4_single_108 {h : Nat} {L : LVs} {st : List AV} {S : ST} {Q Q' : Option AV → ST → Prop} {j : Nat} {a0 : AV} (hC : Ct MX4_take h [vR 4 j, a0] S Q') (k : ∀ (r : Option AV) (S' : ST), Q' r S' → V MX4_single (h + 1) 111 L (r.toList ++ st) S' Q) (hj : j < NI 4) (hw : wid st ≤ 8) : V MX4_single (h + 1) 108 L (a0 :: vR 4 j :: st) S Q :=
  v_callV (M' := MX4_take) (c := 4) (As := [a0]) dX4_single_108 ml_X4_42 im_X4_take se_X4_take in_X4 cd_X4_take rfl LY_4 np_X4_take (by decide) hw hj hC k
theorem b_X4_single_111 {h : Nat} {L : LVs} {st : List AV} {S : ST} {Q : Option AV → ST → Prop} (k : t_1 L st S (fun x => x = nI 0) (fun L st S => V MX4_single h 135 L st S Q) (fun L st S => V MX4_single h 114 L st S Q)) : V MX4_single h 111 L st S Q :=
  w_if_eq dX4_single_111 (by decide) rfl k
theorem b_X4_single_114 {h : Nat} {L : LVs} {st : List AV} {S : ST} {Q : Option AV → ST → Prop} (k : o_al L st S (fun L st S => o_get L st S (fun L st S => o_get L st S (fun L st S => o_c L st S (fun L st S => o_c L st S (fun L st S => V MX4_single h 124 L st S Q) (nI 0)) (nI 17)) 6 0 (4, 1, 0)) 4 1 (4, 6, 0)) 0) : V MX4_single h 114 L st S Q :=
  v_aload_n dX4_single_114 rfl (fun L st S k => v_get dX4_single_115 rfl iX4 LY_4 rfl (by decide) rfl fl_X4_15 (fun L st S k => v_get dX4_single_118 rfl iX6 LY_6 rfl (by decide) rfl fl_X4_95 (fun L st S k => v_bipush dX4_single_121 (by decide) (fun L st S k => v_iconst dX4_single_123 (by decide) (fun L st S k => k) k) k) k) k) k
theorem k_X4_single_124 {h : Nat} {L : LVs} {st : List AV} {S : ST} {Q Q' : Option AV → ST → Prop} {j : Nat} {a0 a1 : AV} (hC : Ct MX1_add h [vR 1 j, a0, a1] S Q') (k : ∀ (r : Option AV) (S' : ST), Q' r S' → V MX4_single (h + 1) 127 L (r.toList ++ st) S' Q) (hj : j < NI 1) (hw : wid st ≤ 8) : V MX4_single (h + 1) 124 L (a1 :: a0 :: vR 1 j :: st) S Q :=
  v_callV (M' := MX1_add) (c := 1) (As := [a0, a1]) dX4_single_124 ml_X4_129 im_X1_add se_X1_add in_X1 cd_X1_add rfl LY_1 np_X1_add (by decide) hw hj hC k
theorem b_X4_single_127 {h : Nat} {L : LVs} {st : List AV} {S : ST} {Q : Option AV → ST → Prop} (k : o_al L st S (fun L st S => o_c L st S (fun L st S => V MX4_single h 131 L st S Q) (nI 213)) 0) : V MX4_single h 127 L st S Q :=
  v_aload_n dX4_single_127 rfl (fun L st S k => v_sipush dX4_single_128 (by decide) (fun L st S k => k) k) k
theorem k_X4_single_131 {h : Nat} {L : LVs} {st : List AV} {S : ST} {Q Q' : Option AV → ST → Prop} {j : Nat} {a0 : AV} (hC : Ct MX4_take h [vR 4 j, a0] S Q') (k : ∀ (r : Option AV) (S' : ST), Q' r S' → V MX4_single (h + 1) 134 L (r.toList ++ st) S' Q) (hj : j < NI 4) (hw : wid st ≤ 8) : V MX4_single (h + 1) 131 L (a0 :: vR 4 j :: st) S Q :=
  v_callV (M' := MX4_take) (c := 4) (As := [a0]) dX4_single_131 ml_X4_42 im_X4_take se_X4_take in_X4 cd_X4_take rfl LY_4 np_X4_take (by decide) hw hj hC k
theorem b_X4_single_134 {h : Nat} {L : LVs} {st : List AV} {S : ST} {Q : Option AV → ST → Prop} (k : t_zr st S Q) : V MX4_single h 134 L st S Q :=
  w_zr dX4_single_134 rfl k
theorem b_X4_single_135 {h : Nat} {L : LVs} {st : List AV} {S : ST} {Q : Option AV → ST → Prop} (k : o_al L st S (fun L st S => o_get L st S (fun L st S => o_al L st S (fun L st S => o_get L st S (fun L st S => V MX4_single h 143 L st S Q) 4 2 (0, 0, 0)) 0) 4 0 (4, 9, 0)) 0) : V MX4_single h 135 L st S Q :=
  v_aload_n dX4_single_135 rfl (fun L st S k => v_get dX4_single_136 rfl iX4 LY_4 rfl (by decide) rfl fl_X4_9 (fun L st S k => v_aload_n dX4_single_139 rfl (fun L st S k => v_get dX4_single_140 rfl iX4 LY_4 rfl (by decide) rfl fl_X4_19 (fun L st S k => k) k) k) k) k
theorem k_X4_single_143 {h : Nat} {L : LVs} {st : List AV} {S : ST} {Q Q' : Option AV → ST → Prop} {j : Nat} {a0 : AV} (hC : Ct MX9_kindAt h [vR 9 j, a0] S Q') (k : ∀ (r : Option AV) (S' : ST), Q' r S' → V MX4_single (h + 1) 146 L (r.toList ++ st) S' Q) (hj : j < NI 9) (hw : wid st ≤ 8) : V MX4_single (h + 1) 143 L (a0 :: vR 9 j :: st) S Q :=
  v_callV (M' := MX9_kindAt) (c := 9) (As := [a0]) dX4_single_143 ml_X4_23 im_X9_kindAt se_X9_kindAt in_X9 cd_X9_kindAt rfl LY_9 np_X9_kindAt (by decide) hw hj hC k
theorem k_X4_single_146 {h : Nat} {L : LVs} {st : List AV} {S : ST} {Q Q' : Option AV → ST → Prop} {a0 : AV} (hC : Ct MX4_comparisonOf h [a0] S Q') (k : ∀ (r : Option AV) (S' : ST), Q' r S' → V MX4_single (h + 1) 149 L (r.toList ++ st) S' Q) (hw : wid st ≤ 8) : V MX4_single (h + 1) 146 L (a0 :: st) S Q :=
  v_callS (M' := MX4_comparisonOf) (As := [a0]) dX4_single_146 ml_X4_135 sm_X4_comparisonOf in_X4 cd_X4_comparisonOf ⟨rfl, np_X4_comparisonOf⟩ (by decide) hw hC k
theorem b_X4_single_149 {h : Nat} {L : LVs} {st : List AV} {S : ST} {Q : Option AV → ST → Prop} (k : o_is L st S (fun L st S => o_il L st S (fun L st S => o_c L st S (fun L st S => t_2 L st S (fun x y => x = y) (fun L st S => V MX4_single h 155 L st S Q) (fun L st S => V MX4_single h 157 L st S Q)) (-1)) 2) 2) : V MX4_single h 149 L st S Q :=
  v_istore_n dX4_single_149 rfl (by decide) (fun L st S k => v_iload_n dX4_single_150 rfl (fun L st S k => v_iconst dX4_single_151 (by decide) (fun L st S k => w_icmp_ne dX4_single_152 (by decide) rfl k) k) k) k
theorem b_X4_single_155 {h : Nat} {L : LVs} {st : List AV} {S : ST} {Q : Option AV → ST → Prop} (k : o_c L st S (fun L st S => t_zr st S Q) (nI 0)) : V MX4_single h 155 L st S Q :=
  v_iconst dX4_single_155 (by decide) (fun L st S k => w_zr dX4_single_156 rfl k) k
theorem b_X4_single_157 {h : Nat} {L : LVs} {st : List AV} {S : ST} {Q : Option AV → ST → Prop} (k : o_al L st S (fun L st S => o_dup L st S (fun L st S => o_get L st S (fun L st S => o_c L st S (fun L st S => o_iadd L st S (fun L st S => o_puti L st S (fun L st S => o_al L st S (fun L st S => o_il L st S (fun L st S => V MX4_single h 169 L st S Q) 1) 0) 4 2)) (nI 1)) 4 2 (0, 0, 0))) 0) : V MX4_single h 157 L st S Q :=
  v_aload_n dX4_single_157 rfl (fun L st S k => v_dup dX4_single_158 (fun L st S k => v_get dX4_single_159 rfl iX4 LY_4 rfl (by decide) rfl fl_X4_19 (fun L st S k => v_iconst dX4_single_162 (by decide) (fun L st S k => v_iadd dX4_single_163 (fun L st S k => v_puti dX4_single_164 rfl iX4 tyX4_ok nmX4 LY_4 rfl (by decide) rfl fl_X4_19 rfl rfl (fun L st S k => v_aload_n dX4_single_167 rfl (fun L st S k => v_iload_n dX4_single_168 rfl (fun L st S k => k) k) k) k) k) k) k) k) k
theorem k_X4_single_169 {h : Nat} {L : LVs} {st : List AV} {S : ST} {Q Q' : Option AV → ST → Prop} {j : Nat} {a0 : AV} (hC : Ct MX4_expression h [vR 4 j, a0] S Q') (k : ∀ (r : Option AV) (S' : ST), Q' r S' → V MX4_single (h + 1) 172 L (r.toList ++ st) S' Q) (hj : j < NI 4) (hw : wid st ≤ 8) : V MX4_single (h + 1) 169 L (a0 :: vR 4 j :: st) S Q :=
  v_callV (M' := MX4_expression) (c := 4) (As := [a0]) dX4_single_169 ml_X4_86 im_X4_expression se_X4_expression in_X4 cd_X4_expression rfl LY_4 np_X4_expression (by decide) hw hj hC k
theorem b_X4_single_172 {h : Nat} {L : LVs} {st : List AV} {S : ST} {Q : Option AV → ST → Prop} (k : o_is L st S (fun L st S => o_al L st S (fun L st S => o_get L st S (fun L st S => o_get L st S (fun L st S => o_il L st S (fun L st S => o_c L st S (fun L st S => V MX4_single h 182 L st S Q) (nI 0)) 2) 6 0 (4, 1, 0)) 4 1 (4, 6, 0)) 0) 3) : V MX4_single h 172 L st S Q :=
  v_istore_n dX4_single_172 rfl (by decide) (fun L st S k => v_aload_n dX4_single_173 rfl (fun L st S k => v_get dX4_single_174 rfl iX4 LY_4 rfl (by decide) rfl fl_X4_15 (fun L st S k => v_get dX4_single_177 rfl iX6 LY_6 rfl (by decide) rfl fl_X4_95 (fun L st S k => v_iload_n dX4_single_180 rfl (fun L st S k => v_iconst dX4_single_181 (by decide) (fun L st S k => k) k) k) k) k) k) k
theorem k_X4_single_182 {h : Nat} {L : LVs} {st : List AV} {S : ST} {Q Q' : Option AV → ST → Prop} {j : Nat} {a0 a1 : AV} (hC : Ct MX1_add h [vR 1 j, a0, a1] S Q') (k : ∀ (r : Option AV) (S' : ST), Q' r S' → V MX4_single (h + 1) 185 L (r.toList ++ st) S' Q) (hj : j < NI 1) (hw : wid st ≤ 8) : V MX4_single (h + 1) 182 L (a1 :: a0 :: vR 1 j :: st) S Q :=
  v_callV (M' := MX1_add) (c := 1) (As := [a0, a1]) dX4_single_182 ml_X4_129 im_X1_add se_X1_add in_X1 cd_X1_add rfl LY_1 np_X1_add (by decide) hw hj hC k
theorem b_X4_single_185 {h : Nat} {L : LVs} {st : List AV} {S : ST} {Q : Option AV → ST → Prop} (k : o_il L st S (fun L st S => t_zr st S Q) 3) : V MX4_single h 185 L st S Q :=
  v_iload_n dX4_single_185 rfl (fun L st S k => w_zr dX4_single_186 rfl k) k
-- QueryForge$Reader.expression(I)Z
theorem dX4_expression_0 : decode cX4_expression 0 = .ok (.aload_n 0, 1) := by decide +kernel
theorem dX4_expression_1 : decode cX4_expression 1 = .ok (.iload_n 1, 1) := by decide +kernel
theorem dX4_expression_2 : decode cX4_expression 2 = .ok (.invokevirtual 138, 3) := by decide +kernel
theorem dX4_expression_5 : decode cX4_expression 5 = .ok (.istore_n 2, 1) := by decide +kernel
theorem dX4_expression_6 : decode cX4_expression 6 = .ok (.iconst 0, 1) := by decide +kernel
theorem dX4_expression_7 : decode cX4_expression 7 = .ok (.istore_n 3, 1) := by decide +kernel
theorem dX4_expression_8 : decode cX4_expression 8 = .ok (.iload_n 3, 1) := by decide +kernel
theorem dX4_expression_9 : decode cX4_expression 9 = .ok (.sipush 200, 3) := by decide +kernel
theorem dX4_expression_12 : decode cX4_expression 12 = .ok (.if_icmp .ge 78, 3) := by decide +kernel
theorem dX4_expression_15 : decode cX4_expression 15 = .ok (.iload_n 2, 1) := by decide +kernel
theorem dX4_expression_16 : decode cX4_expression 16 = .ok (.ifCond .eq 74, 3) := by decide +kernel
theorem dX4_expression_19 : decode cX4_expression 19 = .ok (.aload_n 0, 1) := by decide +kernel
theorem dX4_expression_20 : decode cX4_expression 20 = .ok (.bipush 43, 2) := by decide +kernel
theorem dX4_expression_22 : decode cX4_expression 22 = .ok (.invokevirtual 61, 3) := by decide +kernel
theorem dX4_expression_25 : decode cX4_expression 25 = .ok (.ifCond .ne 12, 3) := by decide +kernel
theorem dX4_expression_28 : decode cX4_expression 28 = .ok (.aload_n 0, 1) := by decide +kernel
theorem dX4_expression_29 : decode cX4_expression 29 = .ok (.bipush 45, 2) := by decide +kernel
theorem dX4_expression_31 : decode cX4_expression 31 = .ok (.invokevirtual 61, 3) := by decide +kernel
theorem dX4_expression_34 : decode cX4_expression 34 = .ok (.ifCond .eq 56, 3) := by decide +kernel
theorem dX4_expression_37 : decode cX4_expression 37 = .ok (.aload_n 0, 1) := by decide +kernel
theorem dX4_expression_38 : decode cX4_expression 38 = .ok (.bipush 43, 2) := by decide +kernel
theorem dX4_expression_40 : decode cX4_expression 40 = .ok (.invokevirtual 61, 3) := by decide +kernel
theorem dX4_expression_43 : decode cX4_expression 43 = .ok (.ifCond .eq 8, 3) := by decide +kernel
theorem dX4_expression_46 : decode cX4_expression 46 = .ok (.bipush 7, 2) := by decide +kernel
theorem dX4_expression_48 : decode cX4_expression 48 = .ok (.goto 5, 3) := by decide +kernel
theorem dX4_expression_51 : decode cX4_expression 51 = .ok (.bipush 8, 2) := by decide +kernel
theorem dX4_expression_53 : decode cX4_expression 53 = .ok (.istore 4, 2) := by decide +kernel
theorem dX4_expression_55 : decode cX4_expression 55 = .ok (.aload_n 0, 1) := by decide +kernel
theorem dX4_expression_56 : decode cX4_expression 56 = .ok (.dup, 1) := by decide +kernel
theorem dX4_expression_57 : decode cX4_expression 57 = .ok (.getfield 19, 3) := by decide +kernel
theorem dX4_expression_60 : decode cX4_expression 60 = .ok (.iconst 1, 1) := by decide +kernel
theorem dX4_expression_61 : decode cX4_expression 61 = .ok (.iadd, 1) := by decide +kernel
theorem dX4_expression_62 : decode cX4_expression 62 = .ok (.putfield 19, 3) := by decide +kernel
theorem dX4_expression_65 : decode cX4_expression 65 = .ok (.aload_n 0, 1) := by decide +kernel
theorem dX4_expression_66 : decode cX4_expression 66 = .ok (.iload_n 1, 1) := by decide +kernel
theorem dX4_expression_67 : decode cX4_expression 67 = .ok (.invokevirtual 138, 3) := by decide +kernel
theorem dX4_expression_70 : decode cX4_expression 70 = .ok (.istore_n 2, 1) := by decide +kernel
theorem dX4_expression_71 : decode cX4_expression 71 = .ok (.aload_n 0, 1) := by decide +kernel
theorem dX4_expression_72 : decode cX4_expression 72 = .ok (.getfield 15, 3) := by decide +kernel
theorem dX4_expression_75 : decode cX4_expression 75 = .ok (.getfield 95, 3) := by decide +kernel
theorem dX4_expression_78 : decode cX4_expression 78 = .ok (.iload 4, 2) := by decide +kernel
theorem dX4_expression_80 : decode cX4_expression 80 = .ok (.iconst 0, 1) := by decide +kernel
theorem dX4_expression_81 : decode cX4_expression 81 = .ok (.invokevirtual 129, 3) := by decide +kernel
theorem dX4_expression_84 : decode cX4_expression 84 = .ok (.iinc 3 1, 3) := by decide +kernel
theorem dX4_expression_87 : decode cX4_expression 87 = .ok (.goto (-79), 3) := by decide +kernel
theorem dX4_expression_90 : decode cX4_expression 90 = .ok (.iload_n 2, 1) := by decide +kernel
theorem dX4_expression_91 : decode cX4_expression 91 = .ok (.ireturn, 1) := by decide +kernel
theorem b_X4_expression_0 {h : Nat} {L : LVs} {st : List AV} {S : ST} {Q : Option AV → ST → Prop} (k : o_al L st S (fun L st S => o_il L st S (fun L st S => V MX4_expression h 2 L st S Q) 1) 0) : V MX4_expression h 0 L st S Q :=
  v_aload_n dX4_expression_0 rfl (fun L st S k => v_iload_n dX4_expression_1 rfl (fun L st S k => k) k) k
theorem k_X4_expression_2 {h : Nat} {L : LVs} {st : List AV} {S : ST} {Q Q' : Option AV → ST → Prop} {j : Nat} {a0 : AV} (hC : Ct MX4_term h [vR 4 j, a0] S Q') (k : ∀ (r : Option AV) (S' : ST), Q' r S' → V MX4_expression (h + 1) 5 L (r.toList ++ st) S' Q) (hj : j < NI 4) (hw : wid st ≤ 8) : V MX4_expression (h + 1) 2 L (a0 :: vR 4 j :: st) S Q :=
  v_callV (M' := MX4_term) (c := 4) (As := [a0]) dX4_expression_2 ml_X4_138 im_X4_term se_X4_term in_X4 cd_X4_term rfl LY_4 np_X4_term (by decide) hw hj hC k
theorem b_X4_expression_5 {h : Nat} {L : LVs} {st : List AV} {S : ST} {Q : Option AV → ST → Prop} (k : o_is L st S (fun L st S => o_c L st S (fun L st S => o_is L st S (fun L st S => V MX4_expression h 8 L st S Q) 3) (nI 0)) 2) : V MX4_expression h 5 L st S Q :=
  v_istore_n dX4_expression_5 rfl (by decide) (fun L st S k => v_iconst dX4_expression_6 (by decide) (fun L st S k => v_istore_n dX4_expression_7 rfl (by decide) (fun L st S k => k) k) k) k
theorem b_X4_expression_8 {h : Nat} {L : LVs} {st : List AV} {S : ST} {Q : Option AV → ST → Prop} (k : o_il L st S (fun L st S => o_c L st S (fun L st S => t_2 L st S (fun x y => y ≤ x) (fun L st S => V MX4_expression h 90 L st S Q) (fun L st S => V MX4_expression h 15 L st S Q)) (nI 200)) 3) : V MX4_expression h 8 L st S Q :=
  v_iload_n dX4_expression_8 rfl (fun L st S k => v_sipush dX4_expression_9 (by decide) (fun L st S k => w_icmp_ge dX4_expression_12 (by decide) rfl k) k) k
theorem b_X4_expression_15 {h : Nat} {L : LVs} {st : List AV} {S : ST} {Q : Option AV → ST → Prop} (k : o_il L st S (fun L st S => t_1 L st S (fun x => x = nI 0) (fun L st S => V MX4_expression h 90 L st S Q) (fun L st S => V MX4_expression h 19 L st S Q)) 2) : V MX4_expression h 15 L st S Q :=
  v_iload_n dX4_expression_15 rfl (fun L st S k => w_if_eq dX4_expression_16 (by decide) rfl k) k
theorem b_X4_expression_19 {h : Nat} {L : LVs} {st : List AV} {S : ST} {Q : Option AV → ST → Prop} (k : o_al L st S (fun L st S => o_c L st S (fun L st S => V MX4_expression h 22 L st S Q) (nI 43)) 0) : V MX4_expression h 19 L st S Q :=
  v_aload_n dX4_expression_19 rfl (fun L st S k => v_bipush dX4_expression_20 (by decide) (fun L st S k => k) k) k
theorem k_X4_expression_22 {h : Nat} {L : LVs} {st : List AV} {S : ST} {Q Q' : Option AV → ST → Prop} {j : Nat} {a0 : AV} (hC : Ct MX4_isNext h [vR 4 j, a0] S Q') (k : ∀ (r : Option AV) (S' : ST), Q' r S' → V MX4_expression (h + 1) 25 L (r.toList ++ st) S' Q) (hj : j < NI 4) (hw : wid st ≤ 8) : V MX4_expression (h + 1) 22 L (a0 :: vR 4 j :: st) S Q :=
  v_callV (M' := MX4_isNext) (c := 4) (As := [a0]) dX4_expression_22 ml_X4_61 im_X4_isNext se_X4_isNext in_X4 cd_X4_isNext rfl LY_4 np_X4_isNext (by decide) hw hj hC k
theorem b_X4_expression_25 {h : Nat} {L : LVs} {st : List AV} {S : ST} {Q : Option AV → ST → Prop} (k : t_1 L st S (fun x => x = nI 0) (fun L st S => V MX4_expression h 28 L st S Q) (fun L st S => V MX4_expression h 37 L st S Q)) : V MX4_expression h 25 L st S Q :=
  w_if_ne dX4_expression_25 (by decide) rfl k
theorem b_X4_expression_28 {h : Nat} {L : LVs} {st : List AV} {S : ST} {Q : Option AV → ST → Prop} (k : o_al L st S (fun L st S => o_c L st S (fun L st S => V MX4_expression h 31 L st S Q) (nI 45)) 0) : V MX4_expression h 28 L st S Q :=
  v_aload_n dX4_expression_28 rfl (fun L st S k => v_bipush dX4_expression_29 (by decide) (fun L st S k => k) k) k
theorem k_X4_expression_31 {h : Nat} {L : LVs} {st : List AV} {S : ST} {Q Q' : Option AV → ST → Prop} {j : Nat} {a0 : AV} (hC : Ct MX4_isNext h [vR 4 j, a0] S Q') (k : ∀ (r : Option AV) (S' : ST), Q' r S' → V MX4_expression (h + 1) 34 L (r.toList ++ st) S' Q) (hj : j < NI 4) (hw : wid st ≤ 8) : V MX4_expression (h + 1) 31 L (a0 :: vR 4 j :: st) S Q :=
  v_callV (M' := MX4_isNext) (c := 4) (As := [a0]) dX4_expression_31 ml_X4_61 im_X4_isNext se_X4_isNext in_X4 cd_X4_isNext rfl LY_4 np_X4_isNext (by decide) hw hj hC k
theorem b_X4_expression_34 {h : Nat} {L : LVs} {st : List AV} {S : ST} {Q : Option AV → ST → Prop} (k : t_1 L st S (fun x => x = nI 0) (fun L st S => V MX4_expression h 90 L st S Q) (fun L st S => V MX4_expression h 37 L st S Q)) : V MX4_expression h 34 L st S Q :=
  w_if_eq dX4_expression_34 (by decide) rfl k
theorem b_X4_expression_37 {h : Nat} {L : LVs} {st : List AV} {S : ST} {Q : Option AV → ST → Prop} (k : o_al L st S (fun L st S => o_c L st S (fun L st S => V MX4_expression h 40 L st S Q) (nI 43)) 0) : V MX4_expression h 37 L st S Q :=
  v_aload_n dX4_expression_37 rfl (fun L st S k => v_bipush dX4_expression_38 (by decide) (fun L st S k => k) k) k
theorem k_X4_expression_40 {h : Nat} {L : LVs} {st : List AV} {S : ST} {Q Q' : Option AV → ST → Prop} {j : Nat} {a0 : AV} (hC : Ct MX4_isNext h [vR 4 j, a0] S Q') (k : ∀ (r : Option AV) (S' : ST), Q' r S' → V MX4_expression (h + 1) 43 L (r.toList ++ st) S' Q) (hj : j < NI 4) (hw : wid st ≤ 8) : V MX4_expression (h + 1) 40 L (a0 :: vR 4 j :: st) S Q :=
  v_callV (M' := MX4_isNext) (c := 4) (As := [a0]) dX4_expression_40 ml_X4_61 im_X4_isNext se_X4_isNext in_X4 cd_X4_isNext rfl LY_4 np_X4_isNext (by decide) hw hj hC k
theorem b_X4_expression_43 {h : Nat} {L : LVs} {st : List AV} {S : ST} {Q : Option AV → ST → Prop} (k : t_1 L st S (fun x => x = nI 0) (fun L st S => V MX4_expression h 51 L st S Q) (fun L st S => V MX4_expression h 46 L st S Q)) : V MX4_expression h 43 L st S Q :=
  w_if_eq dX4_expression_43 (by decide) rfl k
theorem b_X4_expression_46 {h : Nat} {L : LVs} {st : List AV} {S : ST} {Q : Option AV → ST → Prop} (k : o_c L st S (fun L st S => V MX4_expression h 53 L st S Q) (nI 7)) : V MX4_expression h 46 L st S Q :=
  v_bipush dX4_expression_46 (by decide) (fun L st S k => v_goto dX4_expression_48 (by decide) k) k
theorem b_X4_expression_51 {h : Nat} {L : LVs} {st : List AV} {S : ST} {Q : Option AV → ST → Prop} (k : o_c L st S (fun L st S => V MX4_expression h 53 L st S Q) (nI 8)) : V MX4_expression h 51 L st S Q :=
  v_bipush dX4_expression_51 (by decide) (fun L st S k => k) k
theorem b_X4_expression_53 {h : Nat} {L : LVs} {st : List AV} {S : ST} {Q : Option AV → ST → Prop} (k : o_is L st S (fun L st S => o_al L st S (fun L st S => o_dup L st S (fun L st S => o_get L st S (fun L st S => o_c L st S (fun L st S => o_iadd L st S (fun L st S => o_puti L st S (fun L st S => o_al L st S (fun L st S => o_il L st S (fun L st S => V MX4_expression h 67 L st S Q) 1) 0) 4 2)) (nI 1)) 4 2 (0, 0, 0))) 0) 4) : V MX4_expression h 53 L st S Q :=
  v_istore dX4_expression_53 (by decide) (fun L st S k => v_aload_n dX4_expression_55 rfl (fun L st S k => v_dup dX4_expression_56 (fun L st S k => v_get dX4_expression_57 rfl iX4 LY_4 rfl (by decide) rfl fl_X4_19 (fun L st S k => v_iconst dX4_expression_60 (by decide) (fun L st S k => v_iadd dX4_expression_61 (fun L st S k => v_puti dX4_expression_62 rfl iX4 tyX4_ok nmX4 LY_4 rfl (by decide) rfl fl_X4_19 rfl rfl (fun L st S k => v_aload_n dX4_expression_65 rfl (fun L st S k => v_iload_n dX4_expression_66 rfl (fun L st S k => k) k) k) k) k) k) k) k) k) k
theorem k_X4_expression_67 {h : Nat} {L : LVs} {st : List AV} {S : ST} {Q Q' : Option AV → ST → Prop} {j : Nat} {a0 : AV} (hC : Ct MX4_term h [vR 4 j, a0] S Q') (k : ∀ (r : Option AV) (S' : ST), Q' r S' → V MX4_expression (h + 1) 70 L (r.toList ++ st) S' Q) (hj : j < NI 4) (hw : wid st ≤ 8) : V MX4_expression (h + 1) 67 L (a0 :: vR 4 j :: st) S Q :=
  v_callV (M' := MX4_term) (c := 4) (As := [a0]) dX4_expression_67 ml_X4_138 im_X4_term se_X4_term in_X4 cd_X4_term rfl LY_4 np_X4_term (by decide) hw hj hC k
theorem b_X4_expression_70 {h : Nat} {L : LVs} {st : List AV} {S : ST} {Q : Option AV → ST → Prop} (k : o_is L st S (fun L st S => o_al L st S (fun L st S => o_get L st S (fun L st S => o_get L st S (fun L st S => o_il L st S (fun L st S => o_c L st S (fun L st S => V MX4_expression h 81 L st S Q) (nI 0)) 4) 6 0 (4, 1, 0)) 4 1 (4, 6, 0)) 0) 2) : V MX4_expression h 70 L st S Q :=
  v_istore_n dX4_expression_70 rfl (by decide) (fun L st S k => v_aload_n dX4_expression_71 rfl (fun L st S k => v_get dX4_expression_72 rfl iX4 LY_4 rfl (by decide) rfl fl_X4_15 (fun L st S k => v_get dX4_expression_75 rfl iX6 LY_6 rfl (by decide) rfl fl_X4_95 (fun L st S k => v_iload dX4_expression_78 (fun L st S k => v_iconst dX4_expression_80 (by decide) (fun L st S k => k) k) k) k) k) k) k
theorem k_X4_expression_81 {h : Nat} {L : LVs} {st : List AV} {S : ST} {Q Q' : Option AV → ST → Prop} {j : Nat} {a0 a1 : AV} (hC : Ct MX1_add h [vR 1 j, a0, a1] S Q') (k : ∀ (r : Option AV) (S' : ST), Q' r S' → V MX4_expression (h + 1) 84 L (r.toList ++ st) S' Q) (hj : j < NI 1) (hw : wid st ≤ 8) : V MX4_expression (h + 1) 81 L (a1 :: a0 :: vR 1 j :: st) S Q :=
  v_callV (M' := MX1_add) (c := 1) (As := [a0, a1]) dX4_expression_81 ml_X4_129 im_X1_add se_X1_add in_X1 cd_X1_add rfl LY_1 np_X1_add (by decide) hw hj hC k
theorem b_X4_expression_84 {h : Nat} {L : LVs} {st : List AV} {S : ST} {Q : Option AV → ST → Prop} (k : o_inc L st S (fun L st S => V MX4_expression h 8 L st S Q) 3 (nI 1)) : V MX4_expression h 84 L st S Q :=
  v_iinc dX4_expression_84 (by decide) (by decide) (fun L st S k => v_goto dX4_expression_87 (by decide) k) k
theorem b_X4_expression_90 {h : Nat} {L : LVs} {st : List AV} {S : ST} {Q : Option AV → ST → Prop} (k : o_il L st S (fun L st S => t_zr st S Q) 2) : V MX4_expression h 90 L st S Q :=
  v_iload_n dX4_expression_90 rfl (fun L st S k => w_zr dX4_expression_91 rfl k) k
-- QueryForge$Reader.term(I)Z
theorem dX4_term_0 : decode cX4_term 0 = .ok (.aload_n 0, 1) := by decide +kernel
theorem dX4_term_1 : decode cX4_term 1 = .ok (.iload_n 1, 1) := by decide +kernel
theorem dX4_term_2 : decode cX4_term 2 = .ok (.invokevirtual 141, 3) := by decide +kernel
theorem dX4_term_5 : decode cX4_term 5 = .ok (.istore_n 2, 1) := by decide +kernel
theorem dX4_term_6 : decode cX4_term 6 = .ok (.iconst 0, 1) := by decide +kernel
theorem dX4_term_7 : decode cX4_term 7 = .ok (.istore_n 3, 1) := by decide +kernel
theorem dX4_term_8 : decode cX4_term 8 = .ok (.iload_n 3, 1) := by decide +kernel
theorem dX4_term_9 : decode cX4_term 9 = .ok (.sipush 200, 3) := by decide +kernel
theorem dX4_term_12 : decode cX4_term 12 = .ok (.if_icmp .ge 78, 3) := by decide +kernel
theorem dX4_term_15 : decode cX4_term 15 = .ok (.iload_n 2, 1) := by decide +kernel
theorem dX4_term_16 : decode cX4_term 16 = .ok (.ifCond .eq 74, 3) := by decide +kernel
theorem dX4_term_19 : decode cX4_term 19 = .ok (.aload_n 0, 1) := by decide +kernel
theorem dX4_term_20 : decode cX4_term 20 = .ok (.bipush 42, 2) := by decide +kernel
theorem dX4_term_22 : decode cX4_term 22 = .ok (.invokevirtual 61, 3) := by decide +kernel
theorem dX4_term_25 : decode cX4_term 25 = .ok (.ifCond .ne 12, 3) := by decide +kernel
theorem dX4_term_28 : decode cX4_term 28 = .ok (.aload_n 0, 1) := by decide +kernel
theorem dX4_term_29 : decode cX4_term 29 = .ok (.bipush 47, 2) := by decide +kernel
theorem dX4_term_31 : decode cX4_term 31 = .ok (.invokevirtual 61, 3) := by decide +kernel
theorem dX4_term_34 : decode cX4_term 34 = .ok (.ifCond .eq 56, 3) := by decide +kernel
theorem dX4_term_37 : decode cX4_term 37 = .ok (.aload_n 0, 1) := by decide +kernel
theorem dX4_term_38 : decode cX4_term 38 = .ok (.bipush 42, 2) := by decide +kernel
theorem dX4_term_40 : decode cX4_term 40 = .ok (.invokevirtual 61, 3) := by decide +kernel
theorem dX4_term_43 : decode cX4_term 43 = .ok (.ifCond .eq 8, 3) := by decide +kernel
theorem dX4_term_46 : decode cX4_term 46 = .ok (.bipush 9, 2) := by decide +kernel
theorem dX4_term_48 : decode cX4_term 48 = .ok (.goto 5, 3) := by decide +kernel
theorem dX4_term_51 : decode cX4_term 51 = .ok (.bipush 10, 2) := by decide +kernel
theorem dX4_term_53 : decode cX4_term 53 = .ok (.istore 4, 2) := by decide +kernel
theorem dX4_term_55 : decode cX4_term 55 = .ok (.aload_n 0, 1) := by decide +kernel
theorem dX4_term_56 : decode cX4_term 56 = .ok (.dup, 1) := by decide +kernel
theorem dX4_term_57 : decode cX4_term 57 = .ok (.getfield 19, 3) := by decide +kernel
theorem dX4_term_60 : decode cX4_term 60 = .ok (.iconst 1, 1) := by decide +kernel
theorem dX4_term_61 : decode cX4_term 61 = .ok (.iadd, 1) := by decide +kernel
theorem dX4_term_62 : decode cX4_term 62 = .ok (.putfield 19, 3) := by decide +kernel
theorem dX4_term_65 : decode cX4_term 65 = .ok (.aload_n 0, 1) := by decide +kernel
theorem dX4_term_66 : decode cX4_term 66 = .ok (.iload_n 1, 1) := by decide +kernel
theorem dX4_term_67 : decode cX4_term 67 = .ok (.invokevirtual 141, 3) := by decide +kernel
theorem dX4_term_70 : decode cX4_term 70 = .ok (.istore_n 2, 1) := by decide +kernel
theorem dX4_term_71 : decode cX4_term 71 = .ok (.aload_n 0, 1) := by decide +kernel
theorem dX4_term_72 : decode cX4_term 72 = .ok (.getfield 15, 3) := by decide +kernel
theorem dX4_term_75 : decode cX4_term 75 = .ok (.getfield 95, 3) := by decide +kernel
theorem dX4_term_78 : decode cX4_term 78 = .ok (.iload 4, 2) := by decide +kernel
theorem dX4_term_80 : decode cX4_term 80 = .ok (.iconst 0, 1) := by decide +kernel
theorem dX4_term_81 : decode cX4_term 81 = .ok (.invokevirtual 129, 3) := by decide +kernel
theorem dX4_term_84 : decode cX4_term 84 = .ok (.iinc 3 1, 3) := by decide +kernel
theorem dX4_term_87 : decode cX4_term 87 = .ok (.goto (-79), 3) := by decide +kernel
theorem dX4_term_90 : decode cX4_term 90 = .ok (.iload_n 2, 1) := by decide +kernel
theorem dX4_term_91 : decode cX4_term 91 = .ok (.ireturn, 1) := by decide +kernel
theorem b_X4_term_0 {h : Nat} {L : LVs} {st : List AV} {S : ST} {Q : Option AV → ST → Prop} (k : o_al L st S (fun L st S => o_il L st S (fun L st S => V MX4_term h 2 L st S Q) 1) 0) : V MX4_term h 0 L st S Q :=
  v_aload_n dX4_term_0 rfl (fun L st S k => v_iload_n dX4_term_1 rfl (fun L st S k => k) k) k
theorem k_X4_term_2 {h : Nat} {L : LVs} {st : List AV} {S : ST} {Q Q' : Option AV → ST → Prop} {j : Nat} {a0 : AV} (hC : Ct MX4_factor h [vR 4 j, a0] S Q') (k : ∀ (r : Option AV) (S' : ST), Q' r S' → V MX4_term (h + 1) 5 L (r.toList ++ st) S' Q) (hj : j < NI 4) (hw : wid st ≤ 8) : V MX4_term (h + 1) 2 L (a0 :: vR 4 j :: st) S Q :=
  v_callV (M' := MX4_factor) (c := 4) (As := [a0]) dX4_term_2 ml_X4_141 im_X4_factor se_X4_factor in_X4 cd_X4_factor rfl LY_4 np_X4_factor (by decide) hw hj hC k
theorem b_X4_term_5 {h : Nat} {L : LVs} {st : List AV} {S : ST} {Q : Option AV → ST → Prop} (k : o_is L st S (fun L st S => o_c L st S (fun L st S => o_is L st S (fun L st S => V MX4_term h 8 L st S Q) 3) (nI 0)) 2) : V MX4_term h 5 L st S Q :=
  v_istore_n dX4_term_5 rfl (by decide) (fun L st S k => v_iconst dX4_term_6 (by decide) (fun L st S k => v_istore_n dX4_term_7 rfl (by decide) (fun L st S k => k) k) k) k
theorem b_X4_term_8 {h : Nat} {L : LVs} {st : List AV} {S : ST} {Q : Option AV → ST → Prop} (k : o_il L st S (fun L st S => o_c L st S (fun L st S => t_2 L st S (fun x y => y ≤ x) (fun L st S => V MX4_term h 90 L st S Q) (fun L st S => V MX4_term h 15 L st S Q)) (nI 200)) 3) : V MX4_term h 8 L st S Q :=
  v_iload_n dX4_term_8 rfl (fun L st S k => v_sipush dX4_term_9 (by decide) (fun L st S k => w_icmp_ge dX4_term_12 (by decide) rfl k) k) k
theorem b_X4_term_15 {h : Nat} {L : LVs} {st : List AV} {S : ST} {Q : Option AV → ST → Prop} (k : o_il L st S (fun L st S => t_1 L st S (fun x => x = nI 0) (fun L st S => V MX4_term h 90 L st S Q) (fun L st S => V MX4_term h 19 L st S Q)) 2) : V MX4_term h 15 L st S Q :=
  v_iload_n dX4_term_15 rfl (fun L st S k => w_if_eq dX4_term_16 (by decide) rfl k) k
theorem b_X4_term_19 {h : Nat} {L : LVs} {st : List AV} {S : ST} {Q : Option AV → ST → Prop} (k : o_al L st S (fun L st S => o_c L st S (fun L st S => V MX4_term h 22 L st S Q) (nI 42)) 0) : V MX4_term h 19 L st S Q :=
  v_aload_n dX4_term_19 rfl (fun L st S k => v_bipush dX4_term_20 (by decide) (fun L st S k => k) k) k
theorem k_X4_term_22 {h : Nat} {L : LVs} {st : List AV} {S : ST} {Q Q' : Option AV → ST → Prop} {j : Nat} {a0 : AV} (hC : Ct MX4_isNext h [vR 4 j, a0] S Q') (k : ∀ (r : Option AV) (S' : ST), Q' r S' → V MX4_term (h + 1) 25 L (r.toList ++ st) S' Q) (hj : j < NI 4) (hw : wid st ≤ 8) : V MX4_term (h + 1) 22 L (a0 :: vR 4 j :: st) S Q :=
  v_callV (M' := MX4_isNext) (c := 4) (As := [a0]) dX4_term_22 ml_X4_61 im_X4_isNext se_X4_isNext in_X4 cd_X4_isNext rfl LY_4 np_X4_isNext (by decide) hw hj hC k
theorem b_X4_term_25 {h : Nat} {L : LVs} {st : List AV} {S : ST} {Q : Option AV → ST → Prop} (k : t_1 L st S (fun x => x = nI 0) (fun L st S => V MX4_term h 28 L st S Q) (fun L st S => V MX4_term h 37 L st S Q)) : V MX4_term h 25 L st S Q :=
  w_if_ne dX4_term_25 (by decide) rfl k
theorem b_X4_term_28 {h : Nat} {L : LVs} {st : List AV} {S : ST} {Q : Option AV → ST → Prop} (k : o_al L st S (fun L st S => o_c L st S (fun L st S => V MX4_term h 31 L st S Q) (nI 47)) 0) : V MX4_term h 28 L st S Q :=
  v_aload_n dX4_term_28 rfl (fun L st S k => v_bipush dX4_term_29 (by decide) (fun L st S k => k) k) k
theorem k_X4_term_31 {h : Nat} {L : LVs} {st : List AV} {S : ST} {Q Q' : Option AV → ST → Prop} {j : Nat} {a0 : AV} (hC : Ct MX4_isNext h [vR 4 j, a0] S Q') (k : ∀ (r : Option AV) (S' : ST), Q' r S' → V MX4_term (h + 1) 34 L (r.toList ++ st) S' Q) (hj : j < NI 4) (hw : wid st ≤ 8) : V MX4_term (h + 1) 31 L (a0 :: vR 4 j :: st) S Q :=
  v_callV (M' := MX4_isNext) (c := 4) (As := [a0]) dX4_term_31 ml_X4_61 im_X4_isNext se_X4_isNext in_X4 cd_X4_isNext rfl LY_4 np_X4_isNext (by decide) hw hj hC k
theorem b_X4_term_34 {h : Nat} {L : LVs} {st : List AV} {S : ST} {Q : Option AV → ST → Prop} (k : t_1 L st S (fun x => x = nI 0) (fun L st S => V MX4_term h 90 L st S Q) (fun L st S => V MX4_term h 37 L st S Q)) : V MX4_term h 34 L st S Q :=
  w_if_eq dX4_term_34 (by decide) rfl k
theorem b_X4_term_37 {h : Nat} {L : LVs} {st : List AV} {S : ST} {Q : Option AV → ST → Prop} (k : o_al L st S (fun L st S => o_c L st S (fun L st S => V MX4_term h 40 L st S Q) (nI 42)) 0) : V MX4_term h 37 L st S Q :=
  v_aload_n dX4_term_37 rfl (fun L st S k => v_bipush dX4_term_38 (by decide) (fun L st S k => k) k) k
theorem k_X4_term_40 {h : Nat} {L : LVs} {st : List AV} {S : ST} {Q Q' : Option AV → ST → Prop} {j : Nat} {a0 : AV} (hC : Ct MX4_isNext h [vR 4 j, a0] S Q') (k : ∀ (r : Option AV) (S' : ST), Q' r S' → V MX4_term (h + 1) 43 L (r.toList ++ st) S' Q) (hj : j < NI 4) (hw : wid st ≤ 8) : V MX4_term (h + 1) 40 L (a0 :: vR 4 j :: st) S Q :=
  v_callV (M' := MX4_isNext) (c := 4) (As := [a0]) dX4_term_40 ml_X4_61 im_X4_isNext se_X4_isNext in_X4 cd_X4_isNext rfl LY_4 np_X4_isNext (by decide) hw hj hC k
theorem b_X4_term_43 {h : Nat} {L : LVs} {st : List AV} {S : ST} {Q : Option AV → ST → Prop} (k : t_1 L st S (fun x => x = nI 0) (fun L st S => V MX4_term h 51 L st S Q) (fun L st S => V MX4_term h 46 L st S Q)) : V MX4_term h 43 L st S Q :=
  w_if_eq dX4_term_43 (by decide) rfl k
theorem b_X4_term_46 {h : Nat} {L : LVs} {st : List AV} {S : ST} {Q : Option AV → ST → Prop} (k : o_c L st S (fun L st S => V MX4_term h 53 L st S Q) (nI 9)) : V MX4_term h 46 L st S Q :=
  v_bipush dX4_term_46 (by decide) (fun L st S k => v_goto dX4_term_48 (by decide) k) k
theorem b_X4_term_51 {h : Nat} {L : LVs} {st : List AV} {S : ST} {Q : Option AV → ST → Prop} (k : o_c L st S (fun L st S => V MX4_term h 53 L st S Q) (nI 10)) : V MX4_term h 51 L st S Q :=
  v_bipush dX4_term_51 (by decide) (fun L st S k => k) k
theorem b_X4_term_53 {h : Nat} {L : LVs} {st : List AV} {S : ST} {Q : Option AV → ST → Prop} (k : o_is L st S (fun L st S => o_al L st S (fun L st S => o_dup L st S (fun L st S => o_get L st S (fun L st S => o_c L st S (fun L st S => o_iadd L st S (fun L st S => o_puti L st S (fun L st S => o_al L st S (fun L st S => o_il L st S (fun L st S => V MX4_term h 67 L st S Q) 1) 0) 4 2)) (nI 1)) 4 2 (0, 0, 0))) 0) 4) : V MX4_term h 53 L st S Q :=
  v_istore dX4_term_53 (by decide) (fun L st S k => v_aload_n dX4_term_55 rfl (fun L st S k => v_dup dX4_term_56 (fun L st S k => v_get dX4_term_57 rfl iX4 LY_4 rfl (by decide) rfl fl_X4_19 (fun L st S k => v_iconst dX4_term_60 (by decide) (fun L st S k => v_iadd dX4_term_61 (fun L st S k => v_puti dX4_term_62 rfl iX4 tyX4_ok nmX4 LY_4 rfl (by decide) rfl fl_X4_19 rfl rfl (fun L st S k => v_aload_n dX4_term_65 rfl (fun L st S k => v_iload_n dX4_term_66 rfl (fun L st S k => k) k) k) k) k) k) k) k) k) k
theorem k_X4_term_67 {h : Nat} {L : LVs} {st : List AV} {S : ST} {Q Q' : Option AV → ST → Prop} {j : Nat} {a0 : AV} (hC : Ct MX4_factor h [vR 4 j, a0] S Q') (k : ∀ (r : Option AV) (S' : ST), Q' r S' → V MX4_term (h + 1) 70 L (r.toList ++ st) S' Q) (hj : j < NI 4) (hw : wid st ≤ 8) : V MX4_term (h + 1) 67 L (a0 :: vR 4 j :: st) S Q :=
  v_callV (M' := MX4_factor) (c := 4) (As := [a0]) dX4_term_67 ml_X4_141 im_X4_factor se_X4_factor in_X4 cd_X4_factor rfl LY_4 np_X4_factor (by decide) hw hj hC k
theorem b_X4_term_70 {h : Nat} {L : LVs} {st : List AV} {S : ST} {Q : Option AV → ST → Prop} (k : o_is L st S (fun L st S => o_al L st S (fun L st S => o_get L st S (fun L st S => o_get L st S (fun L st S => o_il L st S (fun L st S => o_c L st S (fun L st S => V MX4_term h 81 L st S Q) (nI 0)) 4) 6 0 (4, 1, 0)) 4 1 (4, 6, 0)) 0) 2) : V MX4_term h 70 L st S Q :=
  v_istore_n dX4_term_70 rfl (by decide) (fun L st S k => v_aload_n dX4_term_71 rfl (fun L st S k => v_get dX4_term_72 rfl iX4 LY_4 rfl (by decide) rfl fl_X4_15 (fun L st S k => v_get dX4_term_75 rfl iX6 LY_6 rfl (by decide) rfl fl_X4_95 (fun L st S k => v_iload dX4_term_78 (fun L st S k => v_iconst dX4_term_80 (by decide) (fun L st S k => k) k) k) k) k) k) k
theorem k_X4_term_81 {h : Nat} {L : LVs} {st : List AV} {S : ST} {Q Q' : Option AV → ST → Prop} {j : Nat} {a0 a1 : AV} (hC : Ct MX1_add h [vR 1 j, a0, a1] S Q') (k : ∀ (r : Option AV) (S' : ST), Q' r S' → V MX4_term (h + 1) 84 L (r.toList ++ st) S' Q) (hj : j < NI 1) (hw : wid st ≤ 8) : V MX4_term (h + 1) 81 L (a1 :: a0 :: vR 1 j :: st) S Q :=
  v_callV (M' := MX1_add) (c := 1) (As := [a0, a1]) dX4_term_81 ml_X4_129 im_X1_add se_X1_add in_X1 cd_X1_add rfl LY_1 np_X1_add (by decide) hw hj hC k
theorem b_X4_term_84 {h : Nat} {L : LVs} {st : List AV} {S : ST} {Q : Option AV → ST → Prop} (k : o_inc L st S (fun L st S => V MX4_term h 8 L st S Q) 3 (nI 1)) : V MX4_term h 84 L st S Q :=
  v_iinc dX4_term_84 (by decide) (by decide) (fun L st S k => v_goto dX4_term_87 (by decide) k) k
theorem b_X4_term_90 {h : Nat} {L : LVs} {st : List AV} {S : ST} {Q : Option AV → ST → Prop} (k : o_il L st S (fun L st S => t_zr st S Q) 2) : V MX4_term h 90 L st S Q :=
  v_iload_n dX4_term_90 rfl (fun L st S k => w_zr dX4_term_91 rfl k) k
-- QueryForge$Reader.factor(I)Z
theorem dX4_factor_0 : decode cX4_factor 0 = .ok (.aload_n 0, 1) := by decide +kernel
theorem dX4_factor_1 : decode cX4_factor 1 = .ok (.getfield 19, 3) := by decide +kernel
theorem dX4_factor_4 : decode cX4_factor 4 = .ok (.istore_n 2, 1) := by decide +kernel
theorem dX4_factor_5 : decode cX4_factor 5 = .ok (.aload_n 0, 1) := by decide +kernel
theorem dX4_factor_6 : decode cX4_factor 6 = .ok (.getfield 9, 3) := by decide +kernel
theorem dX4_factor_9 : decode cX4_factor 9 = .ok (.aload_n 0, 1) := by decide +kernel
theorem dX4_factor_10 : decode cX4_factor 10 = .ok (.getfield 19, 3) := by decide +kernel
theorem dX4_factor_13 : decode cX4_factor 13 = .ok (.invokevirtual 64, 3) := by decide +kernel
theorem dX4_factor_16 : decode cX4_factor 16 = .ok (.istore_n 3, 1) := by decide +kernel
theorem dX4_factor_17 : decode cX4_factor 17 = .ok (.iload_n 1, 1) := by decide +kernel
theorem dX4_factor_18 : decode cX4_factor 18 = .ok (.bipush 20, 2) := by decide +kernel
theorem dX4_factor_20 : decode cX4_factor 20 = .ok (.if_icmp .lt 23, 3) := by decide +kernel
theorem dX4_factor_23 : decode cX4_factor 23 = .ok (.aload_n 0, 1) := by decide +kernel
theorem dX4_factor_24 : decode cX4_factor 24 = .ok (.bipush 40, 2) := by decide +kernel
theorem dX4_factor_26 : decode cX4_factor 26 = .ok (.invokevirtual 61, 3) := by decide +kernel
theorem dX4_factor_29 : decode cX4_factor 29 = .ok (.ifCond .ne 12, 3) := by decide +kernel
theorem dX4_factor_32 : decode cX4_factor 32 = .ok (.aload_n 0, 1) := by decide +kernel
theorem dX4_factor_33 : decode cX4_factor 33 = .ok (.bipush 45, 2) := by decide +kernel
theorem dX4_factor_35 : decode cX4_factor 35 = .ok (.invokevirtual 61, 3) := by decide +kernel
theorem dX4_factor_38 : decode cX4_factor 38 = .ok (.ifCond .eq 5, 3) := by decide +kernel
theorem dX4_factor_41 : decode cX4_factor 41 = .ok (.iconst 0, 1) := by decide +kernel
theorem dX4_factor_42 : decode cX4_factor 42 = .ok (.ireturn, 1) := by decide +kernel
theorem dX4_factor_43 : decode cX4_factor 43 = .ok (.aload_n 0, 1) := by decide +kernel
theorem dX4_factor_44 : decode cX4_factor 44 = .ok (.bipush 40, 2) := by decide +kernel
theorem dX4_factor_46 : decode cX4_factor 46 = .ok (.invokevirtual 42, 3) := by decide +kernel
theorem dX4_factor_49 : decode cX4_factor 49 = .ok (.ifCond .eq 28, 3) := by decide +kernel
theorem dX4_factor_52 : decode cX4_factor 52 = .ok (.aload_n 0, 1) := by decide +kernel
theorem dX4_factor_53 : decode cX4_factor 53 = .ok (.iload_n 1, 1) := by decide +kernel
theorem dX4_factor_54 : decode cX4_factor 54 = .ok (.iconst 1, 1) := by decide +kernel
theorem dX4_factor_55 : decode cX4_factor 55 = .ok (.iadd, 1) := by decide +kernel
theorem dX4_factor_56 : decode cX4_factor 56 = .ok (.invokevirtual 86, 3) := by decide +kernel
theorem dX4_factor_59 : decode cX4_factor 59 = .ok (.ifCond .eq 16, 3) := by decide +kernel
theorem dX4_factor_62 : decode cX4_factor 62 = .ok (.aload_n 0, 1) := by decide +kernel
theorem dX4_factor_63 : decode cX4_factor 63 = .ok (.bipush 41, 2) := by decide +kernel
theorem dX4_factor_65 : decode cX4_factor 65 = .ok (.invokevirtual 42, 3) := by decide +kernel
theorem dX4_factor_68 : decode cX4_factor 68 = .ok (.ifCond .eq 7, 3) := by decide +kernel
theorem dX4_factor_71 : decode cX4_factor 71 = .ok (.iconst 1, 1) := by decide +kernel
theorem dX4_factor_72 : decode cX4_factor 72 = .ok (.goto 4, 3) := by decide +kernel
theorem dX4_factor_75 : decode cX4_factor 75 = .ok (.iconst 0, 1) := by decide +kernel
theorem dX4_factor_76 : decode cX4_factor 76 = .ok (.ireturn, 1) := by decide +kernel
theorem dX4_factor_77 : decode cX4_factor 77 = .ok (.aload_n 0, 1) := by decide +kernel
theorem dX4_factor_78 : decode cX4_factor 78 = .ok (.bipush 45, 2) := by decide +kernel
theorem dX4_factor_80 : decode cX4_factor 80 = .ok (.invokevirtual 42, 3) := by decide +kernel
theorem dX4_factor_83 : decode cX4_factor 83 = .ok (.ifCond .eq 28, 3) := by decide +kernel
theorem dX4_factor_86 : decode cX4_factor 86 = .ok (.aload_n 0, 1) := by decide +kernel
theorem dX4_factor_87 : decode cX4_factor 87 = .ok (.iload_n 1, 1) := by decide +kernel
theorem dX4_factor_88 : decode cX4_factor 88 = .ok (.iconst 1, 1) := by decide +kernel
theorem dX4_factor_89 : decode cX4_factor 89 = .ok (.iadd, 1) := by decide +kernel
theorem dX4_factor_90 : decode cX4_factor 90 = .ok (.invokevirtual 141, 3) := by decide +kernel
theorem dX4_factor_93 : decode cX4_factor 93 = .ok (.istore 4, 2) := by decide +kernel
theorem dX4_factor_95 : decode cX4_factor 95 = .ok (.aload_n 0, 1) := by decide +kernel
theorem dX4_factor_96 : decode cX4_factor 96 = .ok (.getfield 15, 3) := by decide +kernel
theorem dX4_factor_99 : decode cX4_factor 99 = .ok (.getfield 95, 3) := by decide +kernel
theorem dX4_factor_102 : decode cX4_factor 102 = .ok (.bipush 6, 2) := by decide +kernel
theorem dX4_factor_104 : decode cX4_factor 104 = .ok (.iconst 0, 1) := by decide +kernel
theorem dX4_factor_105 : decode cX4_factor 105 = .ok (.invokevirtual 129, 3) := by decide +kernel
theorem dX4_factor_108 : decode cX4_factor 108 = .ok (.iload 4, 2) := by decide +kernel
theorem dX4_factor_110 : decode cX4_factor 110 = .ok (.ireturn, 1) := by decide +kernel
theorem dX4_factor_111 : decode cX4_factor 111 = .ok (.aload_n 0, 1) := by decide +kernel
theorem dX4_factor_112 : decode cX4_factor 112 = .ok (.iconst 3, 1) := by decide +kernel
theorem dX4_factor_113 : decode cX4_factor 113 = .ok (.invokevirtual 42, 3) := by decide +kernel
theorem dX4_factor_116 : decode cX4_factor 116 = .ok (.ifCond .eq 17, 3) := by decide +kernel
theorem dX4_factor_119 : decode cX4_factor 119 = .ok (.aload_n 0, 1) := by decide +kernel
theorem dX4_factor_120 : decode cX4_factor 120 = .ok (.getfield 15, 3) := by decide +kernel
theorem dX4_factor_123 : decode cX4_factor 123 = .ok (.getfield 95, 3) := by decide +kernel
theorem dX4_factor_126 : decode cX4_factor 126 = .ok (.iconst 1, 1) := by decide +kernel
theorem dX4_factor_127 : decode cX4_factor 127 = .ok (.iload_n 3, 1) := by decide +kernel
theorem dX4_factor_128 : decode cX4_factor 128 = .ok (.invokevirtual 129, 3) := by decide +kernel
theorem dX4_factor_131 : decode cX4_factor 131 = .ok (.iconst 1, 1) := by decide +kernel
theorem dX4_factor_132 : decode cX4_factor 132 = .ok (.ireturn, 1) := by decide +kernel
theorem dX4_factor_133 : decode cX4_factor 133 = .ok (.aload_n 0, 1) := by decide +kernel
theorem dX4_factor_134 : decode cX4_factor 134 = .ok (.iconst 4, 1) := by decide +kernel
theorem dX4_factor_135 : decode cX4_factor 135 = .ok (.invokevirtual 42, 3) := by decide +kernel
theorem dX4_factor_138 : decode cX4_factor 138 = .ok (.ifCond .eq 17, 3) := by decide +kernel
theorem dX4_factor_141 : decode cX4_factor 141 = .ok (.aload_n 0, 1) := by decide +kernel
theorem dX4_factor_142 : decode cX4_factor 142 = .ok (.getfield 15, 3) := by decide +kernel
theorem dX4_factor_145 : decode cX4_factor 145 = .ok (.getfield 95, 3) := by decide +kernel
theorem dX4_factor_148 : decode cX4_factor 148 = .ok (.iconst 2, 1) := by decide +kernel
theorem dX4_factor_149 : decode cX4_factor 149 = .ok (.iload_n 3, 1) := by decide +kernel
theorem dX4_factor_150 : decode cX4_factor 150 = .ok (.invokevirtual 129, 3) := by decide +kernel
theorem dX4_factor_153 : decode cX4_factor 153 = .ok (.iconst 1, 1) := by decide +kernel
theorem dX4_factor_154 : decode cX4_factor 154 = .ok (.ireturn, 1) := by decide +kernel
theorem dX4_factor_155 : decode cX4_factor 155 = .ok (.aload_n 0, 1) := by decide +kernel
theorem dX4_factor_156 : decode cX4_factor 156 = .ok (.sipush 213, 3) := by decide +kernel
theorem dX4_factor_159 : decode cX4_factor 159 = .ok (.invokevirtual 42, 3) := by decide +kernel
theorem dX4_factor_162 : decode cX4_factor 162 = .ok (.ifCond .eq 17, 3) := by decide +kernel
theorem dX4_factor_165 : decode cX4_factor 165 = .ok (.aload_n 0, 1) := by decide +kernel
theorem dX4_factor_166 : decode cX4_factor 166 = .ok (.getfield 15, 3) := by decide +kernel
theorem dX4_factor_169 : decode cX4_factor 169 = .ok (.getfield 95, 3) := by decide +kernel
theorem dX4_factor_172 : decode cX4_factor 172 = .ok (.iconst 3, 1) := by decide +kernel
theorem dX4_factor_173 : decode cX4_factor 173 = .ok (.iconst 0, 1) := by decide +kernel
theorem dX4_factor_174 : decode cX4_factor 174 = .ok (.invokevirtual 129, 3) := by decide +kernel
theorem dX4_factor_177 : decode cX4_factor 177 = .ok (.iconst 1, 1) := by decide +kernel
theorem dX4_factor_178 : decode cX4_factor 178 = .ok (.ireturn, 1) := by decide +kernel
theorem dX4_factor_179 : decode cX4_factor 179 = .ok (.aload_n 0, 1) := by decide +kernel
theorem dX4_factor_180 : decode cX4_factor 180 = .ok (.getfield 15, 3) := by decide +kernel
theorem dX4_factor_183 : decode cX4_factor 183 = .ok (.getfield 95, 3) := by decide +kernel
theorem dX4_factor_186 : decode cX4_factor 186 = .ok (.bipush 50, 2) := by decide +kernel
theorem dX4_factor_188 : decode cX4_factor 188 = .ok (.iload_n 2, 1) := by decide +kernel
theorem dX4_factor_189 : decode cX4_factor 189 = .ok (.invokevirtual 129, 3) := by decide +kernel
theorem dX4_factor_192 : decode cX4_factor 192 = .ok (.aload_n 0, 1) := by decide +kernel
theorem dX4_factor_193 : decode cX4_factor 193 = .ok (.invokevirtual 114, 3) := by decide +kernel
theorem dX4_factor_196 : decode cX4_factor 196 = .ok (.ireturn, 1) := by decide +kernel
theorem b_X4_factor_0 {h : Nat} {L : LVs} {st : List AV} {S : ST} {Q : Option AV → ST → Prop} (k : o_al L st S (fun L st S => o_get L st S (fun L st S => o_is L st S (fun L st S => o_al L st S (fun L st S => o_get L st S (fun L st S => o_al L st S (fun L st S => o_get L st S (fun L st S => V MX4_factor h 13 L st S Q) 4 2 (0, 0, 0)) 0) 4 0 (4, 9, 0)) 0) 2) 4 2 (0, 0, 0)) 0) : V MX4_factor h 0 L st S Q :=
  v_aload_n dX4_factor_0 rfl (fun L st S k => v_get dX4_factor_1 rfl iX4 LY_4 rfl (by decide) rfl fl_X4_19 (fun L st S k => v_istore_n dX4_factor_4 rfl (by decide) (fun L st S k => v_aload_n dX4_factor_5 rfl (fun L st S k => v_get dX4_factor_6 rfl iX4 LY_4 rfl (by decide) rfl fl_X4_9 (fun L st S k => v_aload_n dX4_factor_9 rfl (fun L st S k => v_get dX4_factor_10 rfl iX4 LY_4 rfl (by decide) rfl fl_X4_19 (fun L st S k => k) k) k) k) k) k) k) k
theorem k_X4_factor_13 {h : Nat} {L : LVs} {st : List AV} {S : ST} {Q Q' : Option AV → ST → Prop} {j : Nat} {a0 : AV} (hC : Ct MX9_contentAt h [vR 9 j, a0] S Q') (k : ∀ (r : Option AV) (S' : ST), Q' r S' → V MX4_factor (h + 1) 16 L (r.toList ++ st) S' Q) (hj : j < NI 9) (hw : wid st ≤ 8) : V MX4_factor (h + 1) 13 L (a0 :: vR 9 j :: st) S Q :=
  v_callV (M' := MX9_contentAt) (c := 9) (As := [a0]) dX4_factor_13 ml_X4_64 im_X9_contentAt se_X9_contentAt in_X9 cd_X9_contentAt rfl LY_9 np_X9_contentAt (by decide) hw hj hC k
theorem b_X4_factor_16 {h : Nat} {L : LVs} {st : List AV} {S : ST} {Q : Option AV → ST → Prop} (k : o_is L st S (fun L st S => o_il L st S (fun L st S => o_c L st S (fun L st S => t_2 L st S (fun x y => x < y) (fun L st S => V MX4_factor h 43 L st S Q) (fun L st S => V MX4_factor h 23 L st S Q)) (nI 20)) 1) 3) : V MX4_factor h 16 L st S Q :=
  v_istore_n dX4_factor_16 rfl (by decide) (fun L st S k => v_iload_n dX4_factor_17 rfl (fun L st S k => v_bipush dX4_factor_18 (by decide) (fun L st S k => w_icmp_lt dX4_factor_20 (by decide) rfl k) k) k) k
theorem b_X4_factor_23 {h : Nat} {L : LVs} {st : List AV} {S : ST} {Q : Option AV → ST → Prop} (k : o_al L st S (fun L st S => o_c L st S (fun L st S => V MX4_factor h 26 L st S Q) (nI 40)) 0) : V MX4_factor h 23 L st S Q :=
  v_aload_n dX4_factor_23 rfl (fun L st S k => v_bipush dX4_factor_24 (by decide) (fun L st S k => k) k) k
theorem k_X4_factor_26 {h : Nat} {L : LVs} {st : List AV} {S : ST} {Q Q' : Option AV → ST → Prop} {j : Nat} {a0 : AV} (hC : Ct MX4_isNext h [vR 4 j, a0] S Q') (k : ∀ (r : Option AV) (S' : ST), Q' r S' → V MX4_factor (h + 1) 29 L (r.toList ++ st) S' Q) (hj : j < NI 4) (hw : wid st ≤ 8) : V MX4_factor (h + 1) 26 L (a0 :: vR 4 j :: st) S Q :=
  v_callV (M' := MX4_isNext) (c := 4) (As := [a0]) dX4_factor_26 ml_X4_61 im_X4_isNext se_X4_isNext in_X4 cd_X4_isNext rfl LY_4 np_X4_isNext (by decide) hw hj hC k
theorem b_X4_factor_29 {h : Nat} {L : LVs} {st : List AV} {S : ST} {Q : Option AV → ST → Prop} (k : t_1 L st S (fun x => x = nI 0) (fun L st S => V MX4_factor h 32 L st S Q) (fun L st S => V MX4_factor h 41 L st S Q)) : V MX4_factor h 29 L st S Q :=
  w_if_ne dX4_factor_29 (by decide) rfl k
theorem b_X4_factor_32 {h : Nat} {L : LVs} {st : List AV} {S : ST} {Q : Option AV → ST → Prop} (k : o_al L st S (fun L st S => o_c L st S (fun L st S => V MX4_factor h 35 L st S Q) (nI 45)) 0) : V MX4_factor h 32 L st S Q :=
  v_aload_n dX4_factor_32 rfl (fun L st S k => v_bipush dX4_factor_33 (by decide) (fun L st S k => k) k) k
theorem k_X4_factor_35 {h : Nat} {L : LVs} {st : List AV} {S : ST} {Q Q' : Option AV → ST → Prop} {j : Nat} {a0 : AV} (hC : Ct MX4_isNext h [vR 4 j, a0] S Q') (k : ∀ (r : Option AV) (S' : ST), Q' r S' → V MX4_factor (h + 1) 38 L (r.toList ++ st) S' Q) (hj : j < NI 4) (hw : wid st ≤ 8) : V MX4_factor (h + 1) 35 L (a0 :: vR 4 j :: st) S Q :=
  v_callV (M' := MX4_isNext) (c := 4) (As := [a0]) dX4_factor_35 ml_X4_61 im_X4_isNext se_X4_isNext in_X4 cd_X4_isNext rfl LY_4 np_X4_isNext (by decide) hw hj hC k
theorem b_X4_factor_38 {h : Nat} {L : LVs} {st : List AV} {S : ST} {Q : Option AV → ST → Prop} (k : t_1 L st S (fun x => x = nI 0) (fun L st S => V MX4_factor h 43 L st S Q) (fun L st S => V MX4_factor h 41 L st S Q)) : V MX4_factor h 38 L st S Q :=
  w_if_eq dX4_factor_38 (by decide) rfl k
theorem b_X4_factor_41 {h : Nat} {L : LVs} {st : List AV} {S : ST} {Q : Option AV → ST → Prop} (k : o_c L st S (fun L st S => t_zr st S Q) (nI 0)) : V MX4_factor h 41 L st S Q :=
  v_iconst dX4_factor_41 (by decide) (fun L st S k => w_zr dX4_factor_42 rfl k) k
theorem b_X4_factor_43 {h : Nat} {L : LVs} {st : List AV} {S : ST} {Q : Option AV → ST → Prop} (k : o_al L st S (fun L st S => o_c L st S (fun L st S => V MX4_factor h 46 L st S Q) (nI 40)) 0) : V MX4_factor h 43 L st S Q :=
  v_aload_n dX4_factor_43 rfl (fun L st S k => v_bipush dX4_factor_44 (by decide) (fun L st S k => k) k) k
theorem k_X4_factor_46 {h : Nat} {L : LVs} {st : List AV} {S : ST} {Q Q' : Option AV → ST → Prop} {j : Nat} {a0 : AV} (hC : Ct MX4_take h [vR 4 j, a0] S Q') (k : ∀ (r : Option AV) (S' : ST), Q' r S' → V MX4_factor (h + 1) 49 L (r.toList ++ st) S' Q) (hj : j < NI 4) (hw : wid st ≤ 8) : V MX4_factor (h + 1) 46 L (a0 :: vR 4 j :: st) S Q :=
  v_callV (M' := MX4_take) (c := 4) (As := [a0]) dX4_factor_46 ml_X4_42 im_X4_take se_X4_take in_X4 cd_X4_take rfl LY_4 np_X4_take (by decide) hw hj hC k
theorem b_X4_factor_49 {h : Nat} {L : LVs} {st : List AV} {S : ST} {Q : Option AV → ST → Prop} (k : t_1 L st S (fun x => x = nI 0) (fun L st S => V MX4_factor h 77 L st S Q) (fun L st S => V MX4_factor h 52 L st S Q)) : V MX4_factor h 49 L st S Q :=
  w_if_eq dX4_factor_49 (by decide) rfl k
theorem b_X4_factor_52 {h : Nat} {L : LVs} {st : List AV} {S : ST} {Q : Option AV → ST → Prop} (k : o_al L st S (fun L st S => o_il L st S (fun L st S => o_c L st S (fun L st S => o_iadd L st S (fun L st S => V MX4_factor h 56 L st S Q)) (nI 1)) 1) 0) : V MX4_factor h 52 L st S Q :=
  v_aload_n dX4_factor_52 rfl (fun L st S k => v_iload_n dX4_factor_53 rfl (fun L st S k => v_iconst dX4_factor_54 (by decide) (fun L st S k => v_iadd dX4_factor_55 (fun L st S k => k) k) k) k) k
theorem k_X4_factor_56 {h : Nat} {L : LVs} {st : List AV} {S : ST} {Q Q' : Option AV → ST → Prop} {j : Nat} {a0 : AV} (hC : Ct MX4_expression h [vR 4 j, a0] S Q') (k : ∀ (r : Option AV) (S' : ST), Q' r S' → V MX4_factor (h + 1) 59 L (r.toList ++ st) S' Q) (hj : j < NI 4) (hw : wid st ≤ 8) : V MX4_factor (h + 1) 56 L (a0 :: vR 4 j :: st) S Q :=
  v_callV (M' := MX4_expression) (c := 4) (As := [a0]) dX4_factor_56 ml_X4_86 im_X4_expression se_X4_expression in_X4 cd_X4_expression rfl LY_4 np_X4_expression (by decide) hw hj hC k
theorem b_X4_factor_59 {h : Nat} {L : LVs} {st : List AV} {S : ST} {Q : Option AV → ST → Prop} (k : t_1 L st S (fun x => x = nI 0) (fun L st S => V MX4_factor h 75 L st S Q) (fun L st S => V MX4_factor h 62 L st S Q)) : V MX4_factor h 59 L st S Q :=
  w_if_eq dX4_factor_59 (by decide) rfl k
theorem b_X4_factor_62 {h : Nat} {L : LVs} {st : List AV} {S : ST} {Q : Option AV → ST → Prop} (k : o_al L st S (fun L st S => o_c L st S (fun L st S => V MX4_factor h 65 L st S Q) (nI 41)) 0) : V MX4_factor h 62 L st S Q :=
  v_aload_n dX4_factor_62 rfl (fun L st S k => v_bipush dX4_factor_63 (by decide) (fun L st S k => k) k) k
theorem k_X4_factor_65 {h : Nat} {L : LVs} {st : List AV} {S : ST} {Q Q' : Option AV → ST → Prop} {j : Nat} {a0 : AV} (hC : Ct MX4_take h [vR 4 j, a0] S Q') (k : ∀ (r : Option AV) (S' : ST), Q' r S' → V MX4_factor (h + 1) 68 L (r.toList ++ st) S' Q) (hj : j < NI 4) (hw : wid st ≤ 8) : V MX4_factor (h + 1) 65 L (a0 :: vR 4 j :: st) S Q :=
  v_callV (M' := MX4_take) (c := 4) (As := [a0]) dX4_factor_65 ml_X4_42 im_X4_take se_X4_take in_X4 cd_X4_take rfl LY_4 np_X4_take (by decide) hw hj hC k
theorem b_X4_factor_68 {h : Nat} {L : LVs} {st : List AV} {S : ST} {Q : Option AV → ST → Prop} (k : t_1 L st S (fun x => x = nI 0) (fun L st S => V MX4_factor h 75 L st S Q) (fun L st S => V MX4_factor h 71 L st S Q)) : V MX4_factor h 68 L st S Q :=
  w_if_eq dX4_factor_68 (by decide) rfl k
theorem b_X4_factor_71 {h : Nat} {L : LVs} {st : List AV} {S : ST} {Q : Option AV → ST → Prop} (k : o_c L st S (fun L st S => V MX4_factor h 76 L st S Q) (nI 1)) : V MX4_factor h 71 L st S Q :=
  v_iconst dX4_factor_71 (by decide) (fun L st S k => v_goto dX4_factor_72 (by decide) k) k
theorem b_X4_factor_75 {h : Nat} {L : LVs} {st : List AV} {S : ST} {Q : Option AV → ST → Prop} (k : o_c L st S (fun L st S => V MX4_factor h 76 L st S Q) (nI 0)) : V MX4_factor h 75 L st S Q :=
  v_iconst dX4_factor_75 (by decide) (fun L st S k => k) k
theorem b_X4_factor_76 {h : Nat} {L : LVs} {st : List AV} {S : ST} {Q : Option AV → ST → Prop} (k : t_zr st S Q) : V MX4_factor h 76 L st S Q :=
  w_zr dX4_factor_76 rfl k
theorem b_X4_factor_77 {h : Nat} {L : LVs} {st : List AV} {S : ST} {Q : Option AV → ST → Prop} (k : o_al L st S (fun L st S => o_c L st S (fun L st S => V MX4_factor h 80 L st S Q) (nI 45)) 0) : V MX4_factor h 77 L st S Q :=
  v_aload_n dX4_factor_77 rfl (fun L st S k => v_bipush dX4_factor_78 (by decide) (fun L st S k => k) k) k
theorem k_X4_factor_80 {h : Nat} {L : LVs} {st : List AV} {S : ST} {Q Q' : Option AV → ST → Prop} {j : Nat} {a0 : AV} (hC : Ct MX4_take h [vR 4 j, a0] S Q') (k : ∀ (r : Option AV) (S' : ST), Q' r S' → V MX4_factor (h + 1) 83 L (r.toList ++ st) S' Q) (hj : j < NI 4) (hw : wid st ≤ 8) : V MX4_factor (h + 1) 80 L (a0 :: vR 4 j :: st) S Q :=
  v_callV (M' := MX4_take) (c := 4) (As := [a0]) dX4_factor_80 ml_X4_42 im_X4_take se_X4_take in_X4 cd_X4_take rfl LY_4 np_X4_take (by decide) hw hj hC k
theorem b_X4_factor_83 {h : Nat} {L : LVs} {st : List AV} {S : ST} {Q : Option AV → ST → Prop} (k : t_1 L st S (fun x => x = nI 0) (fun L st S => V MX4_factor h 111 L st S Q) (fun L st S => V MX4_factor h 86 L st S Q)) : V MX4_factor h 83 L st S Q :=
  w_if_eq dX4_factor_83 (by decide) rfl k
theorem b_X4_factor_86 {h : Nat} {L : LVs} {st : List AV} {S : ST} {Q : Option AV → ST → Prop} (k : o_al L st S (fun L st S => o_il L st S (fun L st S => o_c L st S (fun L st S => o_iadd L st S (fun L st S => V MX4_factor h 90 L st S Q)) (nI 1)) 1) 0) : V MX4_factor h 86 L st S Q :=
  v_aload_n dX4_factor_86 rfl (fun L st S k => v_iload_n dX4_factor_87 rfl (fun L st S k => v_iconst dX4_factor_88 (by decide) (fun L st S k => v_iadd dX4_factor_89 (fun L st S k => k) k) k) k) k
theorem k_X4_factor_90 {h : Nat} {L : LVs} {st : List AV} {S : ST} {Q Q' : Option AV → ST → Prop} {j : Nat} {a0 : AV} (hC : Ct MX4_factor h [vR 4 j, a0] S Q') (k : ∀ (r : Option AV) (S' : ST), Q' r S' → V MX4_factor (h + 1) 93 L (r.toList ++ st) S' Q) (hj : j < NI 4) (hw : wid st ≤ 8) : V MX4_factor (h + 1) 90 L (a0 :: vR 4 j :: st) S Q :=
  v_callV (M' := MX4_factor) (c := 4) (As := [a0]) dX4_factor_90 ml_X4_141 im_X4_factor se_X4_factor in_X4 cd_X4_factor rfl LY_4 np_X4_factor (by decide) hw hj hC k
theorem b_X4_factor_93 {h : Nat} {L : LVs} {st : List AV} {S : ST} {Q : Option AV → ST → Prop} (k : o_is L st S (fun L st S => o_al L st S (fun L st S => o_get L st S (fun L st S => o_get L st S (fun L st S => o_c L st S (fun L st S => o_c L st S (fun L st S => V MX4_factor h 105 L st S Q) (nI 0)) (nI 6)) 6 0 (4, 1, 0)) 4 1 (4, 6, 0)) 0) 4) : V MX4_factor h 93 L st S Q :=
  v_istore dX4_factor_93 (by decide) (fun L st S k => v_aload_n dX4_factor_95 rfl (fun L st S k => v_get dX4_factor_96 rfl iX4 LY_4 rfl (by decide) rfl fl_X4_15 (fun L st S k => v_get dX4_factor_99 rfl iX6 LY_6 rfl (by decide) rfl fl_X4_95 (fun L st S k => v_bipush dX4_factor_102 (by decide) (fun L st S k => v_iconst dX4_factor_104 (by decide) (fun L st S k => k) k) k) k) k) k) k
theorem k_X4_factor_105 {h : Nat} {L : LVs} {st : List AV} {S : ST} {Q Q' : Option AV → ST → Prop} {j : Nat} {a0 a1 : AV} (hC : Ct MX1_add h [vR 1 j, a0, a1] S Q') (k : ∀ (r : Option AV) (S' : ST), Q' r S' → V MX4_factor (h + 1) 108 L (r.toList ++ st) S' Q) (hj : j < NI 1) (hw : wid st ≤ 8) : V MX4_factor (h + 1) 105 L (a1 :: a0 :: vR 1 j :: st) S Q :=
  v_callV (M' := MX1_add) (c := 1) (As := [a0, a1]) dX4_factor_105 ml_X4_129 im_X1_add se_X1_add in_X1 cd_X1_add rfl LY_1 np_X1_add (by decide) hw hj hC k
theorem b_X4_factor_108 {h : Nat} {L : LVs} {st : List AV} {S : ST} {Q : Option AV → ST → Prop} (k : o_il L st S (fun L st S => t_zr st S Q) 4) : V MX4_factor h 108 L st S Q :=
  v_iload dX4_factor_108 (fun L st S k => w_zr dX4_factor_110 rfl k) k
theorem b_X4_factor_111 {h : Nat} {L : LVs} {st : List AV} {S : ST} {Q : Option AV → ST → Prop} (k : o_al L st S (fun L st S => o_c L st S (fun L st S => V MX4_factor h 113 L st S Q) (nI 3)) 0) : V MX4_factor h 111 L st S Q :=
  v_aload_n dX4_factor_111 rfl (fun L st S k => v_iconst dX4_factor_112 (by decide) (fun L st S k => k) k) k
theorem k_X4_factor_113 {h : Nat} {L : LVs} {st : List AV} {S : ST} {Q Q' : Option AV → ST → Prop} {j : Nat} {a0 : AV} (hC : Ct MX4_take h [vR 4 j, a0] S Q') (k : ∀ (r : Option AV) (S' : ST), Q' r S' → V MX4_factor (h + 1) 116 L (r.toList ++ st) S' Q) (hj : j < NI 4) (hw : wid st ≤ 8) : V MX4_factor (h + 1) 113 L (a0 :: vR 4 j :: st) S Q :=
  v_callV (M' := MX4_take) (c := 4) (As := [a0]) dX4_factor_113 ml_X4_42 im_X4_take se_X4_take in_X4 cd_X4_take rfl LY_4 np_X4_take (by decide) hw hj hC k
theorem b_X4_factor_116 {h : Nat} {L : LVs} {st : List AV} {S : ST} {Q : Option AV → ST → Prop} (k : t_1 L st S (fun x => x = nI 0) (fun L st S => V MX4_factor h 133 L st S Q) (fun L st S => V MX4_factor h 119 L st S Q)) : V MX4_factor h 116 L st S Q :=
  w_if_eq dX4_factor_116 (by decide) rfl k
theorem b_X4_factor_119 {h : Nat} {L : LVs} {st : List AV} {S : ST} {Q : Option AV → ST → Prop} (k : o_al L st S (fun L st S => o_get L st S (fun L st S => o_get L st S (fun L st S => o_c L st S (fun L st S => o_il L st S (fun L st S => V MX4_factor h 128 L st S Q) 3) (nI 1)) 6 0 (4, 1, 0)) 4 1 (4, 6, 0)) 0) : V MX4_factor h 119 L st S Q :=
  v_aload_n dX4_factor_119 rfl (fun L st S k => v_get dX4_factor_120 rfl iX4 LY_4 rfl (by decide) rfl fl_X4_15 (fun L st S k => v_get dX4_factor_123 rfl iX6 LY_6 rfl (by decide) rfl fl_X4_95 (fun L st S k => v_iconst dX4_factor_126 (by decide) (fun L st S k => v_iload_n dX4_factor_127 rfl (fun L st S k => k) k) k) k) k) k
theorem k_X4_factor_128 {h : Nat} {L : LVs} {st : List AV} {S : ST} {Q Q' : Option AV → ST → Prop} {j : Nat} {a0 a1 : AV} (hC : Ct MX1_add h [vR 1 j, a0, a1] S Q') (k : ∀ (r : Option AV) (S' : ST), Q' r S' → V MX4_factor (h + 1) 131 L (r.toList ++ st) S' Q) (hj : j < NI 1) (hw : wid st ≤ 8) : V MX4_factor (h + 1) 128 L (a1 :: a0 :: vR 1 j :: st) S Q :=
  v_callV (M' := MX1_add) (c := 1) (As := [a0, a1]) dX4_factor_128 ml_X4_129 im_X1_add se_X1_add in_X1 cd_X1_add rfl LY_1 np_X1_add (by decide) hw hj hC k
theorem b_X4_factor_131 {h : Nat} {L : LVs} {st : List AV} {S : ST} {Q : Option AV → ST → Prop} (k : o_c L st S (fun L st S => t_zr st S Q) (nI 1)) : V MX4_factor h 131 L st S Q :=
  v_iconst dX4_factor_131 (by decide) (fun L st S k => w_zr dX4_factor_132 rfl k) k
theorem b_X4_factor_133 {h : Nat} {L : LVs} {st : List AV} {S : ST} {Q : Option AV → ST → Prop} (k : o_al L st S (fun L st S => o_c L st S (fun L st S => V MX4_factor h 135 L st S Q) (nI 4)) 0) : V MX4_factor h 133 L st S Q :=
  v_aload_n dX4_factor_133 rfl (fun L st S k => v_iconst dX4_factor_134 (by decide) (fun L st S k => k) k) k
theorem k_X4_factor_135 {h : Nat} {L : LVs} {st : List AV} {S : ST} {Q Q' : Option AV → ST → Prop} {j : Nat} {a0 : AV} (hC : Ct MX4_take h [vR 4 j, a0] S Q') (k : ∀ (r : Option AV) (S' : ST), Q' r S' → V MX4_factor (h + 1) 138 L (r.toList ++ st) S' Q) (hj : j < NI 4) (hw : wid st ≤ 8) : V MX4_factor (h + 1) 135 L (a0 :: vR 4 j :: st) S Q :=
  v_callV (M' := MX4_take) (c := 4) (As := [a0]) dX4_factor_135 ml_X4_42 im_X4_take se_X4_take in_X4 cd_X4_take rfl LY_4 np_X4_take (by decide) hw hj hC k
theorem b_X4_factor_138 {h : Nat} {L : LVs} {st : List AV} {S : ST} {Q : Option AV → ST → Prop} (k : t_1 L st S (fun x => x = nI 0) (fun L st S => V MX4_factor h 155 L st S Q) (fun L st S => V MX4_factor h 141 L st S Q)) : V MX4_factor h 138 L st S Q :=
  w_if_eq dX4_factor_138 (by decide) rfl k
theorem b_X4_factor_141 {h : Nat} {L : LVs} {st : List AV} {S : ST} {Q : Option AV → ST → Prop} (k : o_al L st S (fun L st S => o_get L st S (fun L st S => o_get L st S (fun L st S => o_c L st S (fun L st S => o_il L st S (fun L st S => V MX4_factor h 150 L st S Q) 3) (nI 2)) 6 0 (4, 1, 0)) 4 1 (4, 6, 0)) 0) : V MX4_factor h 141 L st S Q :=
  v_aload_n dX4_factor_141 rfl (fun L st S k => v_get dX4_factor_142 rfl iX4 LY_4 rfl (by decide) rfl fl_X4_15 (fun L st S k => v_get dX4_factor_145 rfl iX6 LY_6 rfl (by decide) rfl fl_X4_95 (fun L st S k => v_iconst dX4_factor_148 (by decide) (fun L st S k => v_iload_n dX4_factor_149 rfl (fun L st S k => k) k) k) k) k) k
theorem k_X4_factor_150 {h : Nat} {L : LVs} {st : List AV} {S : ST} {Q Q' : Option AV → ST → Prop} {j : Nat} {a0 a1 : AV} (hC : Ct MX1_add h [vR 1 j, a0, a1] S Q') (k : ∀ (r : Option AV) (S' : ST), Q' r S' → V MX4_factor (h + 1) 153 L (r.toList ++ st) S' Q) (hj : j < NI 1) (hw : wid st ≤ 8) : V MX4_factor (h + 1) 150 L (a1 :: a0 :: vR 1 j :: st) S Q :=
  v_callV (M' := MX1_add) (c := 1) (As := [a0, a1]) dX4_factor_150 ml_X4_129 im_X1_add se_X1_add in_X1 cd_X1_add rfl LY_1 np_X1_add (by decide) hw hj hC k
theorem b_X4_factor_153 {h : Nat} {L : LVs} {st : List AV} {S : ST} {Q : Option AV → ST → Prop} (k : o_c L st S (fun L st S => t_zr st S Q) (nI 1)) : V MX4_factor h 153 L st S Q :=
  v_iconst dX4_factor_153 (by decide) (fun L st S k => w_zr dX4_factor_154 rfl k) k
theorem b_X4_factor_155 {h : Nat} {L : LVs} {st : List AV} {S : ST} {Q : Option AV → ST → Prop} (k : o_al L st S (fun L st S => o_c L st S (fun L st S => V MX4_factor h 159 L st S Q) (nI 213)) 0) : V MX4_factor h 155 L st S Q :=
  v_aload_n dX4_factor_155 rfl (fun L st S k => v_sipush dX4_factor_156 (by decide) (fun L st S k => k) k) k
theorem k_X4_factor_159 {h : Nat} {L : LVs} {st : List AV} {S : ST} {Q Q' : Option AV → ST → Prop} {j : Nat} {a0 : AV} (hC : Ct MX4_take h [vR 4 j, a0] S Q') (k : ∀ (r : Option AV) (S' : ST), Q' r S' → V MX4_factor (h + 1) 162 L (r.toList ++ st) S' Q) (hj : j < NI 4) (hw : wid st ≤ 8) : V MX4_factor (h + 1) 159 L (a0 :: vR 4 j :: st) S Q :=
  v_callV (M' := MX4_take) (c := 4) (As := [a0]) dX4_factor_159 ml_X4_42 im_X4_take se_X4_take in_X4 cd_X4_take rfl LY_4 np_X4_take (by decide) hw hj hC k
theorem b_X4_factor_162 {h : Nat} {L : LVs} {st : List AV} {S : ST} {Q : Option AV → ST → Prop} (k : t_1 L st S (fun x => x = nI 0) (fun L st S => V MX4_factor h 179 L st S Q) (fun L st S => V MX4_factor h 165 L st S Q)) : V MX4_factor h 162 L st S Q :=
  w_if_eq dX4_factor_162 (by decide) rfl k
theorem b_X4_factor_165 {h : Nat} {L : LVs} {st : List AV} {S : ST} {Q : Option AV → ST → Prop} (k : o_al L st S (fun L st S => o_get L st S (fun L st S => o_get L st S (fun L st S => o_c L st S (fun L st S => o_c L st S (fun L st S => V MX4_factor h 174 L st S Q) (nI 0)) (nI 3)) 6 0 (4, 1, 0)) 4 1 (4, 6, 0)) 0) : V MX4_factor h 165 L st S Q :=
  v_aload_n dX4_factor_165 rfl (fun L st S k => v_get dX4_factor_166 rfl iX4 LY_4 rfl (by decide) rfl fl_X4_15 (fun L st S k => v_get dX4_factor_169 rfl iX6 LY_6 rfl (by decide) rfl fl_X4_95 (fun L st S k => v_iconst dX4_factor_172 (by decide) (fun L st S k => v_iconst dX4_factor_173 (by decide) (fun L st S k => k) k) k) k) k) k
theorem k_X4_factor_174 {h : Nat} {L : LVs} {st : List AV} {S : ST} {Q Q' : Option AV → ST → Prop} {j : Nat} {a0 a1 : AV} (hC : Ct MX1_add h [vR 1 j, a0, a1] S Q') (k : ∀ (r : Option AV) (S' : ST), Q' r S' → V MX4_factor (h + 1) 177 L (r.toList ++ st) S' Q) (hj : j < NI 1) (hw : wid st ≤ 8) : V MX4_factor (h + 1) 174 L (a1 :: a0 :: vR 1 j :: st) S Q :=
  v_callV (M' := MX1_add) (c := 1) (As := [a0, a1]) dX4_factor_174 ml_X4_129 im_X1_add se_X1_add in_X1 cd_X1_add rfl LY_1 np_X1_add (by decide) hw hj hC k
theorem b_X4_factor_177 {h : Nat} {L : LVs} {st : List AV} {S : ST} {Q : Option AV → ST → Prop} (k : o_c L st S (fun L st S => t_zr st S Q) (nI 1)) : V MX4_factor h 177 L st S Q :=
  v_iconst dX4_factor_177 (by decide) (fun L st S k => w_zr dX4_factor_178 rfl k) k
theorem b_X4_factor_179 {h : Nat} {L : LVs} {st : List AV} {S : ST} {Q : Option AV → ST → Prop} (k : o_al L st S (fun L st S => o_get L st S (fun L st S => o_get L st S (fun L st S => o_c L st S (fun L st S => o_il L st S (fun L st S => V MX4_factor h 189 L st S Q) 2) (nI 50)) 6 0 (4, 1, 0)) 4 1 (4, 6, 0)) 0) : V MX4_factor h 179 L st S Q :=
  v_aload_n dX4_factor_179 rfl (fun L st S k => v_get dX4_factor_180 rfl iX4 LY_4 rfl (by decide) rfl fl_X4_15 (fun L st S k => v_get dX4_factor_183 rfl iX6 LY_6 rfl (by decide) rfl fl_X4_95 (fun L st S k => v_bipush dX4_factor_186 (by decide) (fun L st S k => v_iload_n dX4_factor_188 rfl (fun L st S k => k) k) k) k) k) k
theorem k_X4_factor_189 {h : Nat} {L : LVs} {st : List AV} {S : ST} {Q Q' : Option AV → ST → Prop} {j : Nat} {a0 a1 : AV} (hC : Ct MX1_add h [vR 1 j, a0, a1] S Q') (k : ∀ (r : Option AV) (S' : ST), Q' r S' → V MX4_factor (h + 1) 192 L (r.toList ++ st) S' Q) (hj : j < NI 1) (hw : wid st ≤ 8) : V MX4_factor (h + 1) 189 L (a1 :: a0 :: vR 1 j :: st) S Q :=
  v_callV (M' := MX1_add) (c := 1) (As := [a0, a1]) dX4_factor_189 ml_X4_129 im_X1_add se_X1_add in_X1 cd_X1_add rfl LY_1 np_X1_add (by decide) hw hj hC k
theorem b_X4_factor_192 {h : Nat} {L : LVs} {st : List AV} {S : ST} {Q : Option AV → ST → Prop} (k : o_al L st S (fun L st S => V MX4_factor h 193 L st S Q) 0) : V MX4_factor h 192 L st S Q :=
  v_aload_n dX4_factor_192 rfl (fun L st S k => k) k
theorem k_X4_factor_193 {h : Nat} {L : LVs} {st : List AV} {S : ST} {Q Q' : Option AV → ST → Prop} {j : Nat} (hC : Ct MX4_readPlace h [vR 4 j] S Q') (k : ∀ (r : Option AV) (S' : ST), Q' r S' → V MX4_factor (h + 1) 196 L (r.toList ++ st) S' Q) (hj : j < NI 4) (hw : wid st ≤ 8) : V MX4_factor (h + 1) 193 L (vR 4 j :: st) S Q :=
  v_callV (M' := MX4_readPlace) (c := 4) (As := []) dX4_factor_193 ml_X4_114 im_X4_readPlace se_X4_readPlace in_X4 cd_X4_readPlace rfl LY_4 np_X4_readPlace (by decide) hw hj hC k
theorem b_X4_factor_196 {h : Nat} {L : LVs} {st : List AV} {S : ST} {Q : Option AV → ST → Prop} (k : t_zr st S Q) : V MX4_factor h 196 L st S Q :=
  w_zr dX4_factor_196 rfl k
-- QueryForge$Reader.take(I)Z
theorem dX4_take_0 : decode cX4_take 0 = .ok (.aload_n 0, 1) := by decide +kernel
theorem dX4_take_1 : decode cX4_take 1 = .ok (.getfield 9, 3) := by decide +kernel
theorem dX4_take_4 : decode cX4_take 4 = .ok (.aload_n 0, 1) := by decide +kernel
theorem dX4_take_5 : decode cX4_take 5 = .ok (.getfield 19, 3) := by decide +kernel
theorem dX4_take_8 : decode cX4_take 8 = .ok (.invokevirtual 23, 3) := by decide +kernel
theorem dX4_take_11 : decode cX4_take 11 = .ok (.iload_n 1, 1) := by decide +kernel
theorem dX4_take_12 : decode cX4_take 12 = .ok (.if_icmp .eq 5, 3) := by decide +kernel
theorem dX4_take_15 : decode cX4_take 15 = .ok (.iconst 0, 1) := by decide +kernel
theorem dX4_take_16 : decode cX4_take 16 = .ok (.ireturn, 1) := by decide +kernel
theorem dX4_take_17 : decode cX4_take 17 = .ok (.aload_n 0, 1) := by decide +kernel
theorem dX4_take_18 : decode cX4_take 18 = .ok (.dup, 1) := by decide +kernel
theorem dX4_take_19 : decode cX4_take 19 = .ok (.getfield 19, 3) := by decide +kernel
theorem dX4_take_22 : decode cX4_take 22 = .ok (.iconst 1, 1) := by decide +kernel
theorem dX4_take_23 : decode cX4_take 23 = .ok (.iadd, 1) := by decide +kernel
theorem dX4_take_24 : decode cX4_take 24 = .ok (.putfield 19, 3) := by decide +kernel
theorem dX4_take_27 : decode cX4_take 27 = .ok (.iconst 1, 1) := by decide +kernel
theorem dX4_take_28 : decode cX4_take 28 = .ok (.ireturn, 1) := by decide +kernel
theorem b_X4_take_0 {h : Nat} {L : LVs} {st : List AV} {S : ST} {Q : Option AV → ST → Prop} (k : o_al L st S (fun L st S => o_get L st S (fun L st S => o_al L st S (fun L st S => o_get L st S (fun L st S => V MX4_take h 8 L st S Q) 4 2 (0, 0, 0)) 0) 4 0 (4, 9, 0)) 0) : V MX4_take h 0 L st S Q :=
  v_aload_n dX4_take_0 rfl (fun L st S k => v_get dX4_take_1 rfl iX4 LY_4 rfl (by decide) rfl fl_X4_9 (fun L st S k => v_aload_n dX4_take_4 rfl (fun L st S k => v_get dX4_take_5 rfl iX4 LY_4 rfl (by decide) rfl fl_X4_19 (fun L st S k => k) k) k) k) k
theorem k_X4_take_8 {h : Nat} {L : LVs} {st : List AV} {S : ST} {Q Q' : Option AV → ST → Prop} {j : Nat} {a0 : AV} (hC : Ct MX9_kindAt h [vR 9 j, a0] S Q') (k : ∀ (r : Option AV) (S' : ST), Q' r S' → V MX4_take (h + 1) 11 L (r.toList ++ st) S' Q) (hj : j < NI 9) (hw : wid st ≤ 8) : V MX4_take (h + 1) 8 L (a0 :: vR 9 j :: st) S Q :=
  v_callV (M' := MX9_kindAt) (c := 9) (As := [a0]) dX4_take_8 ml_X4_23 im_X9_kindAt se_X9_kindAt in_X9 cd_X9_kindAt rfl LY_9 np_X9_kindAt (by decide) hw hj hC k
theorem b_X4_take_11 {h : Nat} {L : LVs} {st : List AV} {S : ST} {Q : Option AV → ST → Prop} (k : o_il L st S (fun L st S => t_2 L st S (fun x y => x = y) (fun L st S => V MX4_take h 17 L st S Q) (fun L st S => V MX4_take h 15 L st S Q)) 1) : V MX4_take h 11 L st S Q :=
  v_iload_n dX4_take_11 rfl (fun L st S k => w_icmp_eq dX4_take_12 (by decide) rfl k) k
theorem b_X4_take_15 {h : Nat} {L : LVs} {st : List AV} {S : ST} {Q : Option AV → ST → Prop} (k : o_c L st S (fun L st S => t_zr st S Q) (nI 0)) : V MX4_take h 15 L st S Q :=
  v_iconst dX4_take_15 (by decide) (fun L st S k => w_zr dX4_take_16 rfl k) k
theorem b_X4_take_17 {h : Nat} {L : LVs} {st : List AV} {S : ST} {Q : Option AV → ST → Prop} (k : o_al L st S (fun L st S => o_dup L st S (fun L st S => o_get L st S (fun L st S => o_c L st S (fun L st S => o_iadd L st S (fun L st S => o_puti L st S (fun L st S => o_c L st S (fun L st S => t_zr st S Q) (nI 1)) 4 2)) (nI 1)) 4 2 (0, 0, 0))) 0) : V MX4_take h 17 L st S Q :=
  v_aload_n dX4_take_17 rfl (fun L st S k => v_dup dX4_take_18 (fun L st S k => v_get dX4_take_19 rfl iX4 LY_4 rfl (by decide) rfl fl_X4_19 (fun L st S k => v_iconst dX4_take_22 (by decide) (fun L st S k => v_iadd dX4_take_23 (fun L st S k => v_puti dX4_take_24 rfl iX4 tyX4_ok nmX4 LY_4 rfl (by decide) rfl fl_X4_19 rfl rfl (fun L st S k => v_iconst dX4_take_27 (by decide) (fun L st S k => w_zr dX4_take_28 rfl k) k) k) k) k) k) k) k
-- QueryForge$Reader.isNext(I)Z
theorem dX4_isNext_0 : decode cX4_isNext 0 = .ok (.aload_n 0, 1) := by decide +kernel
theorem dX4_isNext_1 : decode cX4_isNext 1 = .ok (.getfield 9, 3) := by decide +kernel
theorem dX4_isNext_4 : decode cX4_isNext 4 = .ok (.aload_n 0, 1) := by decide +kernel
theorem dX4_isNext_5 : decode cX4_isNext 5 = .ok (.getfield 19, 3) := by decide +kernel
theorem dX4_isNext_8 : decode cX4_isNext 8 = .ok (.invokevirtual 23, 3) := by decide +kernel
theorem dX4_isNext_11 : decode cX4_isNext 11 = .ok (.iload_n 1, 1) := by decide +kernel
theorem dX4_isNext_12 : decode cX4_isNext 12 = .ok (.if_icmp .ne 7, 3) := by decide +kernel
theorem dX4_isNext_15 : decode cX4_isNext 15 = .ok (.iconst 1, 1) := by decide +kernel
theorem dX4_isNext_16 : decode cX4_isNext 16 = .ok (.goto 4, 3) := by decide +kernel
theorem dX4_isNext_19 : decode cX4_isNext 19 = .ok (.iconst 0, 1) := by decide +kernel
theorem dX4_isNext_20 : decode cX4_isNext 20 = .ok (.ireturn, 1) := by decide +kernel
theorem b_X4_isNext_0 {h : Nat} {L : LVs} {st : List AV} {S : ST} {Q : Option AV → ST → Prop} (k : o_al L st S (fun L st S => o_get L st S (fun L st S => o_al L st S (fun L st S => o_get L st S (fun L st S => V MX4_isNext h 8 L st S Q) 4 2 (0, 0, 0)) 0) 4 0 (4, 9, 0)) 0) : V MX4_isNext h 0 L st S Q :=
  v_aload_n dX4_isNext_0 rfl (fun L st S k => v_get dX4_isNext_1 rfl iX4 LY_4 rfl (by decide) rfl fl_X4_9 (fun L st S k => v_aload_n dX4_isNext_4 rfl (fun L st S k => v_get dX4_isNext_5 rfl iX4 LY_4 rfl (by decide) rfl fl_X4_19 (fun L st S k => k) k) k) k) k
theorem k_X4_isNext_8 {h : Nat} {L : LVs} {st : List AV} {S : ST} {Q Q' : Option AV → ST → Prop} {j : Nat} {a0 : AV} (hC : Ct MX9_kindAt h [vR 9 j, a0] S Q') (k : ∀ (r : Option AV) (S' : ST), Q' r S' → V MX4_isNext (h + 1) 11 L (r.toList ++ st) S' Q) (hj : j < NI 9) (hw : wid st ≤ 8) : V MX4_isNext (h + 1) 8 L (a0 :: vR 9 j :: st) S Q :=
  v_callV (M' := MX9_kindAt) (c := 9) (As := [a0]) dX4_isNext_8 ml_X4_23 im_X9_kindAt se_X9_kindAt in_X9 cd_X9_kindAt rfl LY_9 np_X9_kindAt (by decide) hw hj hC k
theorem b_X4_isNext_11 {h : Nat} {L : LVs} {st : List AV} {S : ST} {Q : Option AV → ST → Prop} (k : o_il L st S (fun L st S => t_2 L st S (fun x y => x = y) (fun L st S => V MX4_isNext h 15 L st S Q) (fun L st S => V MX4_isNext h 19 L st S Q)) 1) : V MX4_isNext h 11 L st S Q :=
  v_iload_n dX4_isNext_11 rfl (fun L st S k => w_icmp_ne dX4_isNext_12 (by decide) rfl k) k
theorem b_X4_isNext_15 {h : Nat} {L : LVs} {st : List AV} {S : ST} {Q : Option AV → ST → Prop} (k : o_c L st S (fun L st S => V MX4_isNext h 20 L st S Q) (nI 1)) : V MX4_isNext h 15 L st S Q :=
  v_iconst dX4_isNext_15 (by decide) (fun L st S k => v_goto dX4_isNext_16 (by decide) k) k
theorem b_X4_isNext_19 {h : Nat} {L : LVs} {st : List AV} {S : ST} {Q : Option AV → ST → Prop} (k : o_c L st S (fun L st S => V MX4_isNext h 20 L st S Q) (nI 0)) : V MX4_isNext h 19 L st S Q :=
  v_iconst dX4_isNext_19 (by decide) (fun L st S k => k) k
theorem b_X4_isNext_20 {h : Nat} {L : LVs} {st : List AV} {S : ST} {Q : Option AV → ST → Prop} (k : t_zr st S Q) : V MX4_isNext h 20 L st S Q :=
  w_zr dX4_isNext_20 rfl k
-- QueryForge$Reader.comparisonOf(I)I
theorem dX4_comparisonOf_0 : decode cX4_comparisonOf 0 = .ok (.iload_n 0, 1) := by decide +kernel
theorem dX4_comparisonOf_1 : decode cX4_comparisonOf 1 = .ok (.lookupswitch 77 #[(5, 71), (6, 74), (7, 68), (60, 62), (61, 59), (62, 65)], 59) := by decide +kernel
theorem dX4_comparisonOf_60 : decode cX4_comparisonOf 60 = .ok (.bipush 11, 2) := by decide +kernel
theorem dX4_comparisonOf_62 : decode cX4_comparisonOf 62 = .ok (.ireturn, 1) := by decide +kernel
theorem dX4_comparisonOf_63 : decode cX4_comparisonOf 63 = .ok (.bipush 13, 2) := by decide +kernel
theorem dX4_comparisonOf_65 : decode cX4_comparisonOf 65 = .ok (.ireturn, 1) := by decide +kernel
theorem dX4_comparisonOf_66 : decode cX4_comparisonOf 66 = .ok (.bipush 14, 2) := by decide +kernel
theorem dX4_comparisonOf_68 : decode cX4_comparisonOf 68 = .ok (.ireturn, 1) := by decide +kernel
theorem dX4_comparisonOf_69 : decode cX4_comparisonOf 69 = .ok (.bipush 12, 2) := by decide +kernel
theorem dX4_comparisonOf_71 : decode cX4_comparisonOf 71 = .ok (.ireturn, 1) := by decide +kernel
theorem dX4_comparisonOf_72 : decode cX4_comparisonOf 72 = .ok (.bipush 15, 2) := by decide +kernel
theorem dX4_comparisonOf_74 : decode cX4_comparisonOf 74 = .ok (.ireturn, 1) := by decide +kernel
theorem dX4_comparisonOf_75 : decode cX4_comparisonOf 75 = .ok (.bipush 16, 2) := by decide +kernel
theorem dX4_comparisonOf_77 : decode cX4_comparisonOf 77 = .ok (.ireturn, 1) := by decide +kernel
theorem dX4_comparisonOf_78 : decode cX4_comparisonOf 78 = .ok (.iconst (-1), 1) := by decide +kernel
theorem dX4_comparisonOf_79 : decode cX4_comparisonOf 79 = .ok (.ireturn, 1) := by decide +kernel
theorem b_X4_comparisonOf_0 {h : Nat} {L : LVs} {st : List AV} {S : ST} {Q : Option AV → ST → Prop} (k : o_il L st S (fun L st S => t_sw L st S [((nI 5), fun L st S => V MX4_comparisonOf h 72 L st S Q), ((nI 6), fun L st S => V MX4_comparisonOf h 75 L st S Q), ((nI 7), fun L st S => V MX4_comparisonOf h 69 L st S Q), ((nI 60), fun L st S => V MX4_comparisonOf h 63 L st S Q), ((nI 61), fun L st S => V MX4_comparisonOf h 60 L st S Q), ((nI 62), fun L st S => V MX4_comparisonOf h 66 L st S Q)] (fun L st S => V MX4_comparisonOf h 78 L st S Q)) 0) : V MX4_comparisonOf h 0 L st S Q :=
  v_iload_n dX4_comparisonOf_0 rfl (fun L st S k => w_lsw [((nI 5), 72), ((nI 6), 75), ((nI 7), 69), ((nI 60), 63), ((nI 61), 60), ((nI 62), 66)] dX4_comparisonOf_1 (by decide) (by decide) (by decide) k) k
theorem b_X4_comparisonOf_60 {h : Nat} {L : LVs} {st : List AV} {S : ST} {Q : Option AV → ST → Prop} (k : o_c L st S (fun L st S => t_ir st S Q) (nI 11)) : V MX4_comparisonOf h 60 L st S Q :=
  v_bipush dX4_comparisonOf_60 (by decide) (fun L st S k => w_ir dX4_comparisonOf_62 rfl k) k
theorem b_X4_comparisonOf_63 {h : Nat} {L : LVs} {st : List AV} {S : ST} {Q : Option AV → ST → Prop} (k : o_c L st S (fun L st S => t_ir st S Q) (nI 13)) : V MX4_comparisonOf h 63 L st S Q :=
  v_bipush dX4_comparisonOf_63 (by decide) (fun L st S k => w_ir dX4_comparisonOf_65 rfl k) k
theorem b_X4_comparisonOf_66 {h : Nat} {L : LVs} {st : List AV} {S : ST} {Q : Option AV → ST → Prop} (k : o_c L st S (fun L st S => t_ir st S Q) (nI 14)) : V MX4_comparisonOf h 66 L st S Q :=
  v_bipush dX4_comparisonOf_66 (by decide) (fun L st S k => w_ir dX4_comparisonOf_68 rfl k) k
theorem b_X4_comparisonOf_69 {h : Nat} {L : LVs} {st : List AV} {S : ST} {Q : Option AV → ST → Prop} (k : o_c L st S (fun L st S => t_ir st S Q) (nI 12)) : V MX4_comparisonOf h 69 L st S Q :=
  v_bipush dX4_comparisonOf_69 (by decide) (fun L st S k => w_ir dX4_comparisonOf_71 rfl k) k
theorem b_X4_comparisonOf_72 {h : Nat} {L : LVs} {st : List AV} {S : ST} {Q : Option AV → ST → Prop} (k : o_c L st S (fun L st S => t_ir st S Q) (nI 15)) : V MX4_comparisonOf h 72 L st S Q :=
  v_bipush dX4_comparisonOf_72 (by decide) (fun L st S k => w_ir dX4_comparisonOf_74 rfl k) k
theorem b_X4_comparisonOf_75 {h : Nat} {L : LVs} {st : List AV} {S : ST} {Q : Option AV → ST → Prop} (k : o_c L st S (fun L st S => t_ir st S Q) (nI 16)) : V MX4_comparisonOf h 75 L st S Q :=
  v_bipush dX4_comparisonOf_75 (by decide) (fun L st S k => w_ir dX4_comparisonOf_77 rfl k) k
theorem b_X4_comparisonOf_78 {h : Nat} {L : LVs} {st : List AV} {S : ST} {Q : Option AV → ST → Prop} (k : o_c L st S (fun L st S => t_ir st S Q) (-1)) : V MX4_comparisonOf h 78 L st S Q :=
  v_iconst dX4_comparisonOf_78 (by decide) (fun L st S k => w_ir dX4_comparisonOf_79 rfl k) k
