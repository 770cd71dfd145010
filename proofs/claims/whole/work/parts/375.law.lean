-- deps: 374
-- the law: its rows, its loop
def R_law : String := "QueryForgeLaw"
def lw_P (b : Addr) (xs : List Int32) (args : Array Value) (s : State) : Prop := args = #[.ref b] ∧ s.IntsAt b xs ∧ xs.length ≤ 2048 ∧ (Jvm.Cond.and given_1 narrow_1).before args s = true
def lw_Q (_ : Array Value) (s : State) (o : Outcome) (t : State) : Prop := o = .returned (some (.int 1)) ∧ Framed s o t [] 600000 7302250
def lw_Z (below : List Frame) (a : Array Value) (s : State) : State → Prop := fun t => ∃ o, t.status = .running ∧ Ended t below o ∧ lw_Q a s o t
/-- the law's own end, with 1 on the stack, nothing written that was there before, its room as the claim has it -/
theorem lw_ret {p : Program} {l : Launch} {e : Env} {s : State} {m : MethodId} {below : List Frame} {meth : Method} {c : Code} {b : Nat} (hx : p.tables.exec = Jvm.exec) (hb : c.code = code) (hr : meth.sig.returnType = ret) (hlocks : meth.locks = false) {pc : Nat} {H : Heap} {ls : Array Slot} (hdg : decode code pc = .ok (.ireturn, 1)) : W p l e room_1 s m #[Value.ref b] below meth c H [] 600000 7302250 (lw_Z below #[Value.ref b] s) (F0 m pc ls [.int 1]) := by
  intro T hT X
  obtain ⟨fs, hret, hrun, hended, hW, hframe⟩ := X.leave (v := some (.int 1)) (hlocks := hlocks) (fun h => by rw [hr] at h; cases h)
  have hmeth' : T.vm.method? m = some meth := X.method'
  refine ⟨T.setFrames fs, ?_, .returned (some (.int 1)), hrun, hended, rfl, ⟨_, rfl⟩, hW, hframe⟩
  jvm_step X.here [X.here.top, hx, hb, hdg, hmeth', hr, ret, narrow_b1]
  (try refine ⟨rfl, ?_⟩); (try refine ⟨rfl, ?_⟩)
  first | (intro acts; rw [hret _ acts rfl rfl rfl]) | rw [hret _ _ rfl rfl rfl]
  exact Steps.refl _
/-- what holds at the law's entry: the machine, the code, the tables' words (any of lw_tbl by 'hts w (by decide +kernel)'), the script of L ints xs at the cell b, what the Statement gives of the start (any of its parts by flat_of_before) -/
def lw_At (p : Program) (s : State) (m : MethodId) (meth : Method) (c : Code) (b L : Nat) (xs : Nat → Int32) : Prop :=
  p.tables.exec = Jvm.exec ∧ c.code = code ∧ meth.sig.returnType = ret ∧ c.maxLocals = 4 ∧ s.vm.findClass R_law = some m.cls ∧ (∀ w ∈ lw_tbl, w.before #[Value.ref b] s = true) ∧ va_X b L xs s s.heap ∧ b < s.heap.size ∧ meth.locks = false ∧ (Jvm.Cond.and given_1 narrow_1).before #[Value.ref b] s = true
theorem d_law_16 : decode code 16 = .ok (.iconst 0, 1) := by decide +kernel
theorem d_law_17 : decode code 17 = .ok (.istore_n 3, 1) := by decide +kernel
theorem d_law_18 : decode code 18 = .ok (.iload_n 3, 1) := by decide +kernel
theorem d_law_19 : decode code 19 = .ok (.aload_n 0, 1) := by decide +kernel
theorem d_law_20 : decode code 20 = .ok (.arraylength, 1) := by decide +kernel
theorem d_law_21 : decode code 21 = .ok (.iconst 4, 1) := by decide +kernel
theorem d_law_22 : decode code 22 = .ok (.isub, 1) := by decide +kernel
theorem d_law_23 : decode code 23 = .ok (.if_icmp .gt 291, 3) := by decide +kernel
theorem d_law_26 : decode code 26 = .ok (.aload_n 0, 1) := by decide +kernel
theorem d_law_27 : decode code 27 = .ok (.iload_n 3, 1) := by decide +kernel
theorem d_law_28 : decode code 28 = .ok (.iaload, 1) := by decide +kernel
theorem d_law_29 : decode code 29 = .ok (.bipush 15, 2) := by decide +kernel
theorem d_law_31 : decode code 31 = .ok (.iand, 1) := by decide +kernel
theorem d_law_32 : decode code 32 = .ok (.tableswitch 276 0 9 #[56, 79, 92, 105, 118, 151, 184, 207, 250, 263], 56) := by decide +kernel
theorem d_law_88 : decode code 88 = .ok (.aload_n 1, 1) := by decide +kernel
theorem d_law_89 : decode code 89 = .ok (.aload_n 0, 1) := by decide +kernel
theorem d_law_90 : decode code 90 = .ok (.iload_n 3, 1) := by decide +kernel
theorem d_law_91 : decode code 91 = .ok (.iconst 1, 1) := by decide +kernel
theorem d_law_92 : decode code 92 = .ok (.iadd, 1) := by decide +kernel
theorem d_law_93 : decode code 93 = .ok (.iaload, 1) := by decide +kernel
theorem d_law_94 : decode code 94 = .ok (.invokevirtual 13, 3) := by decide +kernel
theorem d_law_97 : decode code 97 = .ok (.aload_n 2, 1) := by decide +kernel
theorem d_law_98 : decode code 98 = .ok (.aload_n 0, 1) := by decide +kernel
theorem d_law_99 : decode code 99 = .ok (.iload_n 3, 1) := by decide +kernel
theorem d_law_100 : decode code 100 = .ok (.iconst 1, 1) := by decide +kernel
theorem d_law_101 : decode code 101 = .ok (.iadd, 1) := by decide +kernel
theorem d_law_102 : decode code 102 = .ok (.iaload, 1) := by decide +kernel
theorem d_law_103 : decode code 103 = .ok (.invokevirtual 17, 3) := by decide +kernel
theorem d_law_106 : decode code 106 = .ok (.if_icmp .eq 202, 3) := by decide +kernel
theorem d_law_109 : decode code 109 = .ok (.iconst 0, 1) := by decide +kernel
theorem d_law_110 : decode code 110 = .ok (.ireturn, 1) := by decide +kernel
theorem d_law_111 : decode code 111 = .ok (.aload_n 1, 1) := by decide +kernel
theorem d_law_112 : decode code 112 = .ok (.invokevirtual 18, 3) := by decide +kernel
theorem d_law_115 : decode code 115 = .ok (.aload_n 2, 1) := by decide +kernel
theorem d_law_116 : decode code 116 = .ok (.invokevirtual 22, 3) := by decide +kernel
theorem d_law_119 : decode code 119 = .ok (.if_icmp .eq 189, 3) := by decide +kernel
theorem d_law_122 : decode code 122 = .ok (.iconst 0, 1) := by decide +kernel
theorem d_law_123 : decode code 123 = .ok (.ireturn, 1) := by decide +kernel
theorem d_law_124 : decode code 124 = .ok (.aload_n 1, 1) := by decide +kernel
theorem d_law_125 : decode code 125 = .ok (.invokevirtual 23, 3) := by decide +kernel
theorem d_law_128 : decode code 128 = .ok (.aload_n 2, 1) := by decide +kernel
theorem d_law_129 : decode code 129 = .ok (.invokevirtual 26, 3) := by decide +kernel
theorem d_law_132 : decode code 132 = .ok (.if_icmp .eq 176, 3) := by decide +kernel
theorem d_law_135 : decode code 135 = .ok (.iconst 0, 1) := by decide +kernel
theorem d_law_136 : decode code 136 = .ok (.ireturn, 1) := by decide +kernel
theorem d_law_137 : decode code 137 = .ok (.aload_n 1, 1) := by decide +kernel
theorem d_law_138 : decode code 138 = .ok (.invokevirtual 27, 3) := by decide +kernel
theorem d_law_141 : decode code 141 = .ok (.aload_n 2, 1) := by decide +kernel
theorem d_law_142 : decode code 142 = .ok (.invokevirtual 30, 3) := by decide +kernel
theorem d_law_145 : decode code 145 = .ok (.if_icmp .eq 163, 3) := by decide +kernel
theorem d_law_148 : decode code 148 = .ok (.iconst 0, 1) := by decide +kernel
theorem d_law_149 : decode code 149 = .ok (.ireturn, 1) := by decide +kernel
theorem d_law_150 : decode code 150 = .ok (.aload_n 1, 1) := by decide +kernel
theorem d_law_151 : decode code 151 = .ok (.aload_n 0, 1) := by decide +kernel
theorem d_law_152 : decode code 152 = .ok (.iload_n 3, 1) := by decide +kernel
theorem d_law_153 : decode code 153 = .ok (.iconst 1, 1) := by decide +kernel
theorem d_law_154 : decode code 154 = .ok (.iadd, 1) := by decide +kernel
theorem d_law_155 : decode code 155 = .ok (.iaload, 1) := by decide +kernel
theorem d_law_156 : decode code 156 = .ok (.aload_n 0, 1) := by decide +kernel
theorem d_law_157 : decode code 157 = .ok (.iload_n 3, 1) := by decide +kernel
theorem d_law_158 : decode code 158 = .ok (.iconst 2, 1) := by decide +kernel
theorem d_law_159 : decode code 159 = .ok (.iadd, 1) := by decide +kernel
theorem d_law_160 : decode code 160 = .ok (.iaload, 1) := by decide +kernel
theorem d_law_161 : decode code 161 = .ok (.invokevirtual 31, 3) := by decide +kernel
theorem d_law_164 : decode code 164 = .ok (.aload_n 2, 1) := by decide +kernel
theorem d_law_165 : decode code 165 = .ok (.aload_n 0, 1) := by decide +kernel
theorem d_law_166 : decode code 166 = .ok (.iload_n 3, 1) := by decide +kernel
theorem d_law_167 : decode code 167 = .ok (.iconst 1, 1) := by decide +kernel
theorem d_law_168 : decode code 168 = .ok (.iadd, 1) := by decide +kernel
theorem d_law_169 : decode code 169 = .ok (.iaload, 1) := by decide +kernel
theorem d_law_170 : decode code 170 = .ok (.aload_n 0, 1) := by decide +kernel
theorem d_law_171 : decode code 171 = .ok (.iload_n 3, 1) := by decide +kernel
theorem d_law_172 : decode code 172 = .ok (.iconst 2, 1) := by decide +kernel
theorem d_law_173 : decode code 173 = .ok (.iadd, 1) := by decide +kernel
theorem d_law_174 : decode code 174 = .ok (.iaload, 1) := by decide +kernel
theorem d_law_175 : decode code 175 = .ok (.invokevirtual 35, 3) := by decide +kernel
theorem d_law_178 : decode code 178 = .ok (.if_icmp .eq 130, 3) := by decide +kernel
theorem d_law_181 : decode code 181 = .ok (.iconst 0, 1) := by decide +kernel
theorem d_law_182 : decode code 182 = .ok (.ireturn, 1) := by decide +kernel
theorem d_law_183 : decode code 183 = .ok (.aload_n 1, 1) := by decide +kernel
theorem d_law_184 : decode code 184 = .ok (.aload_n 0, 1) := by decide +kernel
theorem d_law_185 : decode code 185 = .ok (.iload_n 3, 1) := by decide +kernel
theorem d_law_186 : decode code 186 = .ok (.iconst 1, 1) := by decide +kernel
theorem d_law_187 : decode code 187 = .ok (.iadd, 1) := by decide +kernel
theorem d_law_188 : decode code 188 = .ok (.iaload, 1) := by decide +kernel
theorem d_law_189 : decode code 189 = .ok (.aload_n 0, 1) := by decide +kernel
theorem d_law_190 : decode code 190 = .ok (.iload_n 3, 1) := by decide +kernel
theorem d_law_191 : decode code 191 = .ok (.iconst 2, 1) := by decide +kernel
theorem d_law_192 : decode code 192 = .ok (.iadd, 1) := by decide +kernel
theorem d_law_193 : decode code 193 = .ok (.iaload, 1) := by decide +kernel
theorem d_law_194 : decode code 194 = .ok (.invokevirtual 36, 3) := by decide +kernel
theorem d_law_197 : decode code 197 = .ok (.aload_n 2, 1) := by decide +kernel
theorem d_law_198 : decode code 198 = .ok (.aload_n 0, 1) := by decide +kernel
theorem d_law_199 : decode code 199 = .ok (.iload_n 3, 1) := by decide +kernel
theorem d_law_200 : decode code 200 = .ok (.iconst 1, 1) := by decide +kernel
theorem d_law_201 : decode code 201 = .ok (.iadd, 1) := by decide +kernel
theorem d_law_202 : decode code 202 = .ok (.iaload, 1) := by decide +kernel
theorem d_law_203 : decode code 203 = .ok (.aload_n 0, 1) := by decide +kernel
theorem d_law_204 : decode code 204 = .ok (.iload_n 3, 1) := by decide +kernel
theorem d_law_205 : decode code 205 = .ok (.iconst 2, 1) := by decide +kernel
theorem d_law_206 : decode code 206 = .ok (.iadd, 1) := by decide +kernel
theorem d_law_207 : decode code 207 = .ok (.iaload, 1) := by decide +kernel
theorem d_law_208 : decode code 208 = .ok (.invokevirtual 40, 3) := by decide +kernel
theorem d_law_211 : decode code 211 = .ok (.if_icmp .eq 97, 3) := by decide +kernel
theorem d_law_214 : decode code 214 = .ok (.iconst 0, 1) := by decide +kernel
theorem d_law_215 : decode code 215 = .ok (.ireturn, 1) := by decide +kernel
theorem d_law_216 : decode code 216 = .ok (.aload_n 1, 1) := by decide +kernel
theorem d_law_217 : decode code 217 = .ok (.aload_n 0, 1) := by decide +kernel
theorem d_law_218 : decode code 218 = .ok (.iload_n 3, 1) := by decide +kernel
theorem d_law_219 : decode code 219 = .ok (.iconst 1, 1) := by decide +kernel
theorem d_law_220 : decode code 220 = .ok (.iadd, 1) := by decide +kernel
theorem d_law_221 : decode code 221 = .ok (.iaload, 1) := by decide +kernel
theorem d_law_222 : decode code 222 = .ok (.invokevirtual 41, 3) := by decide +kernel
theorem d_law_225 : decode code 225 = .ok (.aload_n 2, 1) := by decide +kernel
theorem d_law_226 : decode code 226 = .ok (.aload_n 0, 1) := by decide +kernel
theorem d_law_227 : decode code 227 = .ok (.iload_n 3, 1) := by decide +kernel
theorem d_law_228 : decode code 228 = .ok (.iconst 1, 1) := by decide +kernel
theorem d_law_229 : decode code 229 = .ok (.iadd, 1) := by decide +kernel
theorem d_law_230 : decode code 230 = .ok (.iaload, 1) := by decide +kernel
theorem d_law_231 : decode code 231 = .ok (.invokevirtual 45, 3) := by decide +kernel
theorem d_law_234 : decode code 234 = .ok (.if_icmp .eq 74, 3) := by decide +kernel
theorem d_law_237 : decode code 237 = .ok (.iconst 0, 1) := by decide +kernel
theorem d_law_238 : decode code 238 = .ok (.ireturn, 1) := by decide +kernel
theorem d_law_239 : decode code 239 = .ok (.aload_n 1, 1) := by decide +kernel
theorem d_law_240 : decode code 240 = .ok (.aload_n 0, 1) := by decide +kernel
theorem d_law_241 : decode code 241 = .ok (.iload_n 3, 1) := by decide +kernel
theorem d_law_242 : decode code 242 = .ok (.iconst 1, 1) := by decide +kernel
theorem d_law_243 : decode code 243 = .ok (.iadd, 1) := by decide +kernel
theorem d_law_244 : decode code 244 = .ok (.iaload, 1) := by decide +kernel
theorem d_law_245 : decode code 245 = .ok (.aload_n 0, 1) := by decide +kernel
theorem d_law_246 : decode code 246 = .ok (.iload_n 3, 1) := by decide +kernel
theorem d_law_247 : decode code 247 = .ok (.iconst 2, 1) := by decide +kernel
theorem d_law_248 : decode code 248 = .ok (.iadd, 1) := by decide +kernel
theorem d_law_249 : decode code 249 = .ok (.iaload, 1) := by decide +kernel
theorem d_law_250 : decode code 250 = .ok (.aload_n 0, 1) := by decide +kernel
theorem d_law_251 : decode code 251 = .ok (.iload_n 3, 1) := by decide +kernel
theorem d_law_252 : decode code 252 = .ok (.iconst 3, 1) := by decide +kernel
theorem d_law_253 : decode code 253 = .ok (.iadd, 1) := by decide +kernel
theorem d_law_254 : decode code 254 = .ok (.iaload, 1) := by decide +kernel
theorem d_law_255 : decode code 255 = .ok (.invokevirtual 46, 3) := by decide +kernel
theorem d_law_258 : decode code 258 = .ok (.aload_n 2, 1) := by decide +kernel
theorem d_law_259 : decode code 259 = .ok (.aload_n 0, 1) := by decide +kernel
theorem d_law_260 : decode code 260 = .ok (.iload_n 3, 1) := by decide +kernel
theorem d_law_261 : decode code 261 = .ok (.iconst 1, 1) := by decide +kernel
theorem d_law_262 : decode code 262 = .ok (.iadd, 1) := by decide +kernel
theorem d_law_263 : decode code 263 = .ok (.iaload, 1) := by decide +kernel
theorem d_law_264 : decode code 264 = .ok (.aload_n 0, 1) := by decide +kernel
theorem d_law_265 : decode code 265 = .ok (.iload_n 3, 1) := by decide +kernel
theorem d_law_266 : decode code 266 = .ok (.iconst 2, 1) := by decide +kernel
theorem d_law_267 : decode code 267 = .ok (.iadd, 1) := by decide +kernel
theorem d_law_268 : decode code 268 = .ok (.iaload, 1) := by decide +kernel
theorem d_law_269 : decode code 269 = .ok (.aload_n 0, 1) := by decide +kernel
theorem d_law_270 : decode code 270 = .ok (.iload_n 3, 1) := by decide +kernel
theorem d_law_271 : decode code 271 = .ok (.iconst 3, 1) := by decide +kernel
theorem d_law_272 : decode code 272 = .ok (.iadd, 1) := by decide +kernel
theorem d_law_273 : decode code 273 = .ok (.iaload, 1) := by decide +kernel
theorem d_law_274 : decode code 274 = .ok (.invokevirtual 50, 3) := by decide +kernel
theorem d_law_277 : decode code 277 = .ok (.if_icmp .eq 31, 3) := by decide +kernel
theorem d_law_280 : decode code 280 = .ok (.iconst 0, 1) := by decide +kernel
theorem d_law_281 : decode code 281 = .ok (.ireturn, 1) := by decide +kernel
theorem d_law_282 : decode code 282 = .ok (.aload_n 1, 1) := by decide +kernel
theorem d_law_283 : decode code 283 = .ok (.invokevirtual 51, 3) := by decide +kernel
theorem d_law_286 : decode code 286 = .ok (.aload_n 2, 1) := by decide +kernel
theorem d_law_287 : decode code 287 = .ok (.invokevirtual 55, 3) := by decide +kernel
theorem d_law_290 : decode code 290 = .ok (.if_icmp .eq 18, 3) := by decide +kernel
theorem d_law_293 : decode code 293 = .ok (.iconst 0, 1) := by decide +kernel
theorem d_law_294 : decode code 294 = .ok (.ireturn, 1) := by decide +kernel
theorem d_law_295 : decode code 295 = .ok (.aload_n 1, 1) := by decide +kernel
theorem d_law_296 : decode code 296 = .ok (.invokevirtual 56, 3) := by decide +kernel
theorem d_law_299 : decode code 299 = .ok (.aload_n 2, 1) := by decide +kernel
theorem d_law_300 : decode code 300 = .ok (.invokevirtual 59, 3) := by decide +kernel
theorem d_law_303 : decode code 303 = .ok (.if_icmp .eq 5, 3) := by decide +kernel
theorem d_law_306 : decode code 306 = .ok (.iconst 0, 1) := by decide +kernel
theorem d_law_307 : decode code 307 = .ok (.ireturn, 1) := by decide +kernel
theorem d_law_308 : decode code 308 = .ok (.iinc 3 4, 3) := by decide +kernel
theorem d_law_311 : decode code 311 = .ok (.goto (-293), 3) := by decide +kernel
theorem d_law_314 : decode code 314 = .ok (.iconst 1, 1) := by decide +kernel
theorem d_law_315 : decode code 315 = .ok (.ireturn, 1) := by decide +kernel
theorem ml_L_9 : Cond.methodLink R_law 9 yX10_init ∈ wT := wT_mem 135 (by decide +kernel) (by decide +kernel)
theorem ml_L_13 : Cond.methodLink R_law 13 yX10_unit ∈ wT := wT_mem 493 (by decide +kernel) (by decide +kernel)
theorem ml_L_18 : Cond.methodLink R_law 18 yX10_act ∈ wT := wT_mem 497 (by decide +kernel) (by decide +kernel)
theorem ml_L_23 : Cond.methodLink R_law 23 yX10_rows ∈ wT := wT_mem 1150 (by decide +kernel) (by decide +kernel)
theorem ml_L_27 : Cond.methodLink R_law 27 yX10_items ∈ wT := wT_mem 1159 (by decide +kernel) (by decide +kernel)
theorem ml_L_31 : Cond.methodLink R_law 31 yX10_value ∈ wT := wT_mem 1167 (by decide +kernel) (by decide +kernel)
theorem ml_L_36 : Cond.methodLink R_law 36 yX10_isNull ∈ wT := wT_mem 1180 (by decide +kernel) (by decide +kernel)
theorem ml_L_41 : Cond.methodLink R_law 41 yX10_size ∈ wT := wT_mem 1184 (by decide +kernel) (by decide +kernel)
theorem ml_L_46 : Cond.methodLink R_law 46 yX10_cell ∈ wT := wT_mem 1194 (by decide +kernel) (by decide +kernel)
theorem ml_L_51 : Cond.methodLink R_law 51 yX10_bounded ∈ wT := wT_mem 1200 (by decide +kernel) (by decide +kernel)
theorem ml_L_56 : Cond.methodLink R_law 56 yX10_sound ∈ wT := wT_mem 1208 (by decide +kernel) (by decide +kernel)
theorem ml_L_12 : Cond.methodLink R_law 12 yX11_init ∈ wT := wT_mem 1218 (by decide +kernel) (by decide +kernel)
theorem ml_L_17 : Cond.methodLink R_law 17 yX11_unit ∈ wT := wT_mem 1355 (by decide +kernel) (by decide +kernel)
theorem ml_L_22 : Cond.methodLink R_law 22 yX11_act ∈ wT := wT_mem 1359 (by decide +kernel) (by decide +kernel)
theorem ml_L_26 : Cond.methodLink R_law 26 yX11_rows ∈ wT := wT_mem 1568 (by decide +kernel) (by decide +kernel)
theorem ml_L_30 : Cond.methodLink R_law 30 yX11_items ∈ wT := wT_mem 1572 (by decide +kernel) (by decide +kernel)
theorem ml_L_35 : Cond.methodLink R_law 35 yX11_value ∈ wT := wT_mem 1576 (by decide +kernel) (by decide +kernel)
theorem ml_L_40 : Cond.methodLink R_law 40 yX11_isNull ∈ wT := wT_mem 1584 (by decide +kernel) (by decide +kernel)
theorem ml_L_45 : Cond.methodLink R_law 45 yX11_size ∈ wT := wT_mem 1588 (by decide +kernel) (by decide +kernel)
theorem ml_L_50 : Cond.methodLink R_law 50 yX11_cell ∈ wT := wT_mem 1592 (by decide +kernel) (by decide +kernel)
theorem ml_L_55 : Cond.methodLink R_law 55 yX11_bounded ∈ wT := wT_mem 1596 (by decide +kernel) (by decide +kernel)
theorem ml_L_59 : Cond.methodLink R_law 59 yX11_sound ∈ wT := wT_mem 1600 (by decide +kernel) (by decide +kernel)
/-- what holds of the law's frame once both objects stand -/
def LG (p : Program) (s : State) (m : MethodId) (meth : Method) (c : Code) (b L : Nat) (xs : Nat → Int32) (D : va_G) (ad : Nat → Nat → Nat) (cA : Nat → ClassId) : Prop := lw_At p s m meth c b L xs ∧ va_K D vwCl (tyl cA) s ∧ Inj ad ∧ KS ad s ∧ ∀ q, fr ad q → s.heap.size ≤ q
theorem KS_atN {ad : Nat → Nat → Nat} {s U : State} {H : Heap} {locs : List Loc} (h : KS ad s) (hW : s.WarmedH U.vm) (hU : U.heap = H) (hS : va_S (fun q : Nat => s.heap.size ≤ q) s.heap H locs) : KS ad U := by
  obtain ⟨h1, ⟨r1, r2, r3, r4⟩, h2, h3⟩ := h
  have ha : s.vm.Alike U.vm := hW.alike
  have hk : ∀ a : Nat, a < s.heap.size → ¬ fr ad a → U.heap[a]? = s.heap[a]? := fun a h1 h2 => by rw [hU]; exact hS.2.1 a h1 (Nat.not_le.mpr h1)
  exact ⟨(h1.moved ha).kept hk, ⟨vk_R.warm hW r1, vk_R.warm hW r2, vk_R.warm hW r3, vk_R.warm hW r4⟩, (h2.moved ha).kept hk, (h3.moved ha).kept hk⟩
section
variable {p : Program} {l : Launch} {e : Env} {s : State} {m : MethodId} {below : List Frame} {meth : Method} {c : Code} {b L : Nat} {xs : Nat → Int32} {D : va_G} {ad : Nat → Nat → Nat} {cA : Nat → ClassId} {N1 N2 : Nat} {Z : State → Prop}
theorem lw_call {M' : MD} {pc idx ci n : Nat} {T : u_T} {As : List AV} {st : List AV} {S : ST} {Q' : Option AV → ST → Prop} (G : LG p s m meth c b L xs D ad cA) (hN : N1 ≤ 600000 ∧ N2 ≤ 7302250) (d : decode code pc = .ok (.invokevirtual idx, 3)) (hl : Cond.methodLink R_law idx M'.1 ∈ wT) (him : Cond.instanceMethod M'.1 ∈ wT) (hse : Cond.selects M'.1.cls M'.1 M'.1 ∈ wT) (hni : Cond.initialized M'.1.cls ∈ wT) (hcd : Cond.code M'.1 M'.2.1 M'.2.2.1 M'.2.2.2 ∈ wT)
    (hc : vwCl[ci]? = some (M'.1.cls, T, n)) (hly : LY ci = some (.inl (ci, n))) (hd : M'.1.cls ≠ "java/lang/invoke/MethodHandle" ∧ M'.1.cls ≠ "java/lang/invoke/VarHandle" ∧ (parseMethodDescriptor M'.1.desc).map (fun d => d.parameters.length) = some As.length) (hml : M'.2.2.1 ≤ 40) (hw : wid st ≤ 8) (hj : 0 < NI ci) (hC : Ct M' 300 (vR ci 0 :: As) S Q')
    {H : Heap} {locs : List Loc} {ls : Array Slot} (hR : Rep D ad cA S H) (hS : va_S (fun q : Nat => s.heap.size ≤ q) s.heap H locs) (hls : ls.size = 4)
    (k : ∀ (r : Option AV) (S' : ST) (H' : Heap) (locs' : List Loc), Q' r S' → Rep D ad cA S' H' → va_S (fun q : Nat => s.heap.size ≤ q) s.heap H' locs' → W p l e room_1 s m #[Value.ref b] below meth c H' locs' N1 N2 Z (F0 m (pc + 3) ls ((r.toList ++ st).map (tv ad)))) : W p l e room_1 s m #[Value.ref b] below meth c H locs N1 N2 Z (F0 m pc ls ((As.reverse ++ vR ci 0 :: st).map (tv ad))) := by
  obtain ⟨⟨hx, hb, hrt, hm, hown, hts0, hX, hbl, hlk, hgv⟩, hK, hi, hks, hnew⟩ := G
  have hts : ∀ w ∈ wT, w.before #[Value.ref b] s = true := fun w hw => hts0 w (List.mem_filter.mp hw).1
  have hP := va_P1 (hR ci 0 _ hly hj)
  have hrun := va_runV (meth := meth) (R := room_1) (cells := N1) (slots := N2) (H := H) (locs := locs) (below := below) (e := e) (g := F0 m pc ls ((As.reverse ++ vR ci 0 :: st).map (tv ad))) (As := As.map (tv ad)) (rest := st.map (tv ad)) (b := ad ci 0) ⟨hx, hb, hm, hown, hts⟩ (hC l D ad cA hi) (cwV As.length hts (wT_good (fun w h => by
    simp only [wsV, wsM, List.mem_append, List.mem_cons, List.not_mem_nil, or_false] at h
    rcases h with (rfl | rfl | rfl | rfl) | rfl | h
    · exact hl
    · exact him
    · exact hse
    · exact hni
    · exact hcd
    · exact h)) rfl rfl rfl ⟨rfl, hd⟩ ⟨by show 300 + 1 ≤ 2048; omega, by show 8 + (M'.2.2.1 + 11) + 64 * 300 ≤ 84000; omega⟩) ⟨pc_blind, va_recv hK hP hc (q0 := 0) rfl, fun U hU hW => ⟨rfl, va_K.moved hW.alike hK, by rw [hU]; exact hR, KS_atN hks hW hU hS⟩⟩ rfl (by simp) hls (by simp [tv]) (lv_room (by rw [wid_tv]; exact hw)) d ⟨by show N1 + 0 ≤ 600000; omega, by show N2 + 0 ≤ 7302250; omega⟩
  intro T hT X
  obtain ⟨v, st₀, t, T', L1, h0, X', hL1, e1, e2, ⟨r, S', hv, hq, hR', hz, hk⟩, go⟩ := hrun T hT X
  have hv : v = r.map (tv ad) := by simpa using hv
  subst hv
  rw [h0] at hz hk
  obtain ⟨t2, a1, b1⟩ := k r S' T'.heap (locs ++ L1) hq (by rw [e1]; exact hR') ⟨Nat.le_trans hS.1 (by rw [e1]; exact hz), fun q h1 h2 => by rw [e1, hk q (Nat.lt_of_lt_of_le h1 hS.1) (fun hf => h2 (hnew q hf))]; exact hS.2.1 q h1 h2, fun q hq => by
      rcases List.mem_append.mp hq with h | h
      · exact hS.2.2 q h
      · exact hnew _ (hL1 q h)⟩ T' rfl X'
  refine ⟨t2, go t2 ?_, b1⟩
  have e3 : (r.toList ++ st).map (tv ad) = (r.map (tv ad)).toList ++ st.map (tv ad) := by cases r <;> simp
  rw [e3] at a1
  exact a1
/-- a number of the script -/
theorem lw_arg {pc k : Nat} (G : LG p s m meth c b L xs D ad cA) (d0 : decode code pc = .ok (.aload_n 0, 1)) (d1 : decode code (pc + 1) = .ok (.iload_n 3, 1)) (d2 : decode code (pc + 2) = .ok (.iconst k, 1)) (d3 : decode code (pc + 3) = .ok (.iadd, 1)) (d4 : decode code (pc + 4) = .ok (.iaload, 1)) (hk : Int32.ofInt (k : Int) = nI k) {H : Heap} {locs : List Loc} {ls : Array Slot} {rest : List Value} {i : Nat} (hS : va_S (fun q : Nat => s.heap.size ≤ q) s.heap H locs) (h0 : ls[0]? = some (.val (.ref b))) (h3 : ls[3]? = some (.val (.int (nI i)))) (hi : i + k < L) (hL : L ≤ 2048) (kk : W p l e room_1 s m #[Value.ref b] below meth c H locs N1 N2 Z (F0 m (pc + 5) ls (.int (xs (i + k)) :: rest))) : W p l e room_1 s m #[Value.ref b] below meth c H locs N1 N2 Z (F0 m pc ls rest) := by
  obtain ⟨⟨hx, hb, hrt, hm, hown, hts0, hX, hbl, hlk, hgv⟩, hK, hi', hks, hnew⟩ := G
  refine lv_aload_n hx hb d0 rfl h0 ?_
  refine lv_iload_n hx hb d1 rfl h3 ?_
  refine lv_iconst (v := nI k) hx hb d2 hk ?_
  refine lv_iadd hx hb d3 ?_
  rw [nI_add]
  refine va_sld hx hb hX hbl (Nat.not_le.mpr hbl) hS (vp_in_nI hi (by omega)) d4 ?_
  rw [nI_clamp (by omega)]
  exact kk
end
/-- the law's locals in its loop -/
def LL (ad : Nat → Nat → Nat) (b i : Nat) (ls : Array Slot) : Prop := lv_has ls 4 [(3, .int (nI i)), (2, .ref (ad 11 0)), (1, .ref (ad 10 0)), (0, .ref b)]
section
variable {p : Program} {l : Launch} {e : Env} {s : State} {m : MethodId} {below : List Frame} {meth : Method} {c : Code} {b L : Nat} {xs : Nat → Int32} {D : va_G} {ad : Nat → Nat → Nat} {cA : Nat → ClassId} {N1 N2 : Nat} {Z : State → Prop} {H : Heap} {locs : List Loc} {ls : Array Slot} {S : ST} {i : Nat}
theorem lw_unit (G : LG p s m meth c b L xs D ad cA) (hN : N1 ≤ 600000 ∧ N2 ≤ 7302250) (hL : L ≤ 2048) (hi : i + 4 ≤ L) (hI : LInv S) (hR : Rep D ad cA S H) (hS : va_S (fun q : Nat => s.heap.size ≤ q) s.heap H locs) (hl : LL ad b i ls) (K : ∀ (S2 : ST) (H2 : Heap) (locs2 : List Loc), LInv S2 → Rep D ad cA S2 H2 → va_S (fun q : Nat => s.heap.size ≤ q) s.heap H2 locs2 → W p l e room_1 s m #[Value.ref b] below meth c H2 locs2 N1 N2 Z (F0 m 308 ls [])) : W p l e room_1 s m #[Value.ref b] below meth c H locs N1 N2 Z (F0 m 88 ls []) := by
  obtain ⟨Qc, hC, hQ⟩ := p_unit hI (xs (i + 1))
  have hx := G.1.1
  have hb := G.1.2.1
  refine lv_aload_n hx hb d_law_88 rfl (lv_at hl 2 rfl) ?_
  refine lw_arg (k := 1) G d_law_89 d_law_90 d_law_91 d_law_92 d_law_93 (by decide) hS (lv_at hl 3 rfl) (lv_at hl 0 rfl) (by omega) hL ?_
  refine lw_call (M' := MX10_unit) (ci := 10) (As := [vI (xs (i + 1))]) (st := []) G hN d_law_94 ml_L_13 im_X10_unit se_X10_unit in_X10 cd_X10_unit rfl LY_10 np_X10_unit (by decide) (by decide) (by decide) hC hR hS hl.1 ?_
  intro r S1 H1 locs1 hq hR1 hS1
  obtain ⟨x, rfl, Qm, hCm, hQm⟩ := hQ r S1 hq
  refine lv_aload_n hx hb d_law_97 rfl (lv_at hl 1 rfl) ?_
  refine lw_arg (k := 1) G d_law_98 d_law_99 d_law_100 d_law_101 d_law_102 (by decide) hS1 (lv_at hl 3 rfl) (lv_at hl 0 rfl) (by omega) hL ?_
  refine lw_call (M' := MX11_unit) (ci := 11) (As := [vI (xs (i + 1))]) (st := [vI x]) G hN d_law_103 ml_L_17 im_X11_unit se_X11_unit in_X11 cd_X11_unit rfl LY_11 np_X11_unit (by decide) (Nat.le_of_ble_eq_true rfl) (by decide) hCm hR1 hS1 hl.1 ?_
  intro r' S2 H2 locs2 hq' hR2 hS2
  obtain ⟨rfl, hI2⟩ := hQm r' S2 hq'
  refine lv_icmp_eq (tgt := 308) hx hb d_law_106 (by decide) (fun _ => K S2 H2 locs2 hI2 hR2 hS2) (fun hne => absurd rfl hne)
theorem lw_act (G : LG p s m meth c b L xs D ad cA) (hN : N1 ≤ 600000 ∧ N2 ≤ 7302250) (hL : L ≤ 2048) (hi : i + 4 ≤ L) (hI : LInv S) (hR : Rep D ad cA S H) (hS : va_S (fun q : Nat => s.heap.size ≤ q) s.heap H locs) (hl : LL ad b i ls) (K : ∀ (S2 : ST) (H2 : Heap) (locs2 : List Loc), LInv S2 → Rep D ad cA S2 H2 → va_S (fun q : Nat => s.heap.size ≤ q) s.heap H2 locs2 → W p l e room_1 s m #[Value.ref b] below meth c H2 locs2 N1 N2 Z (F0 m 308 ls [])) : W p l e room_1 s m #[Value.ref b] below meth c H locs N1 N2 Z (F0 m 111 ls []) := by
  obtain ⟨Qc, hC, hQ⟩ := p_act hI 
  have hx := G.1.1
  have hb := G.1.2.1
  refine lv_aload_n hx hb d_law_111 rfl (lv_at hl 2 rfl) ?_
  refine lw_call (M' := MX10_act) (ci := 10) (As := []) (st := []) G hN d_law_112 ml_L_18 im_X10_act se_X10_act in_X10 cd_X10_act rfl LY_10 np_X10_act (by decide) (by decide) (by decide) hC hR hS hl.1 ?_
  intro r S1 H1 locs1 hq hR1 hS1
  obtain ⟨x, rfl, Qm, hCm, hQm⟩ := hQ r S1 hq
  refine lv_aload_n hx hb d_law_115 rfl (lv_at hl 1 rfl) ?_
  refine lw_call (M' := MX11_act) (ci := 11) (As := []) (st := [vI x]) G hN d_law_116 ml_L_22 im_X11_act se_X11_act in_X11 cd_X11_act rfl LY_11 np_X11_act (by decide) (Nat.le_of_ble_eq_true rfl) (by decide) hCm hR1 hS1 hl.1 ?_
  intro r' S2 H2 locs2 hq' hR2 hS2
  obtain ⟨rfl, hI2⟩ := hQm r' S2 hq'
  refine lv_icmp_eq (tgt := 308) hx hb d_law_119 (by decide) (fun _ => K S2 H2 locs2 hI2 hR2 hS2) (fun hne => absurd rfl hne)
theorem lw_rows (G : LG p s m meth c b L xs D ad cA) (hN : N1 ≤ 600000 ∧ N2 ≤ 7302250) (hL : L ≤ 2048) (hi : i + 4 ≤ L) (hI : LInv S) (hR : Rep D ad cA S H) (hS : va_S (fun q : Nat => s.heap.size ≤ q) s.heap H locs) (hl : LL ad b i ls) (K : ∀ (S2 : ST) (H2 : Heap) (locs2 : List Loc), LInv S2 → Rep D ad cA S2 H2 → va_S (fun q : Nat => s.heap.size ≤ q) s.heap H2 locs2 → W p l e room_1 s m #[Value.ref b] below meth c H2 locs2 N1 N2 Z (F0 m 308 ls [])) : W p l e room_1 s m #[Value.ref b] below meth c H locs N1 N2 Z (F0 m 124 ls []) := by
  obtain ⟨Qc, hC, hQ⟩ := p_rows hI 
  have hx := G.1.1
  have hb := G.1.2.1
  refine lv_aload_n hx hb d_law_124 rfl (lv_at hl 2 rfl) ?_
  refine lw_call (M' := MX10_rows) (ci := 10) (As := []) (st := []) G hN d_law_125 ml_L_23 im_X10_rows se_X10_rows in_X10 cd_X10_rows rfl LY_10 np_X10_rows (by decide) (by decide) (by decide) hC hR hS hl.1 ?_
  intro r S1 H1 locs1 hq hR1 hS1
  obtain ⟨x, rfl, Qm, hCm, hQm⟩ := hQ r S1 hq
  refine lv_aload_n hx hb d_law_128 rfl (lv_at hl 1 rfl) ?_
  refine lw_call (M' := MX11_rows) (ci := 11) (As := []) (st := [vI x]) G hN d_law_129 ml_L_26 im_X11_rows se_X11_rows in_X11 cd_X11_rows rfl LY_11 np_X11_rows (by decide) (Nat.le_of_ble_eq_true rfl) (by decide) hCm hR1 hS1 hl.1 ?_
  intro r' S2 H2 locs2 hq' hR2 hS2
  obtain ⟨rfl, hI2⟩ := hQm r' S2 hq'
  refine lv_icmp_eq (tgt := 308) hx hb d_law_132 (by decide) (fun _ => K S2 H2 locs2 hI2 hR2 hS2) (fun hne => absurd rfl hne)
theorem lw_items (G : LG p s m meth c b L xs D ad cA) (hN : N1 ≤ 600000 ∧ N2 ≤ 7302250) (hL : L ≤ 2048) (hi : i + 4 ≤ L) (hI : LInv S) (hR : Rep D ad cA S H) (hS : va_S (fun q : Nat => s.heap.size ≤ q) s.heap H locs) (hl : LL ad b i ls) (K : ∀ (S2 : ST) (H2 : Heap) (locs2 : List Loc), LInv S2 → Rep D ad cA S2 H2 → va_S (fun q : Nat => s.heap.size ≤ q) s.heap H2 locs2 → W p l e room_1 s m #[Value.ref b] below meth c H2 locs2 N1 N2 Z (F0 m 308 ls [])) : W p l e room_1 s m #[Value.ref b] below meth c H locs N1 N2 Z (F0 m 137 ls []) := by
  obtain ⟨Qc, hC, hQ⟩ := p_items hI 
  have hx := G.1.1
  have hb := G.1.2.1
  refine lv_aload_n hx hb d_law_137 rfl (lv_at hl 2 rfl) ?_
  refine lw_call (M' := MX10_items) (ci := 10) (As := []) (st := []) G hN d_law_138 ml_L_27 im_X10_items se_X10_items in_X10 cd_X10_items rfl LY_10 np_X10_items (by decide) (by decide) (by decide) hC hR hS hl.1 ?_
  intro r S1 H1 locs1 hq hR1 hS1
  obtain ⟨x, rfl, Qm, hCm, hQm⟩ := hQ r S1 hq
  refine lv_aload_n hx hb d_law_141 rfl (lv_at hl 1 rfl) ?_
  refine lw_call (M' := MX11_items) (ci := 11) (As := []) (st := [vI x]) G hN d_law_142 ml_L_30 im_X11_items se_X11_items in_X11 cd_X11_items rfl LY_11 np_X11_items (by decide) (Nat.le_of_ble_eq_true rfl) (by decide) hCm hR1 hS1 hl.1 ?_
  intro r' S2 H2 locs2 hq' hR2 hS2
  obtain ⟨rfl, hI2⟩ := hQm r' S2 hq'
  refine lv_icmp_eq (tgt := 308) hx hb d_law_145 (by decide) (fun _ => K S2 H2 locs2 hI2 hR2 hS2) (fun hne => absurd rfl hne)
theorem lw_value (G : LG p s m meth c b L xs D ad cA) (hN : N1 ≤ 600000 ∧ N2 ≤ 7302250) (hL : L ≤ 2048) (hi : i + 4 ≤ L) (hI : LInv S) (hR : Rep D ad cA S H) (hS : va_S (fun q : Nat => s.heap.size ≤ q) s.heap H locs) (hl : LL ad b i ls) (K : ∀ (S2 : ST) (H2 : Heap) (locs2 : List Loc), LInv S2 → Rep D ad cA S2 H2 → va_S (fun q : Nat => s.heap.size ≤ q) s.heap H2 locs2 → W p l e room_1 s m #[Value.ref b] below meth c H2 locs2 N1 N2 Z (F0 m 308 ls [])) : W p l e room_1 s m #[Value.ref b] below meth c H locs N1 N2 Z (F0 m 150 ls []) := by
  obtain ⟨Qc, hC, hQ⟩ := p_value hI (xs (i + 1)) (xs (i + 2))
  have hx := G.1.1
  have hb := G.1.2.1
  refine lv_aload_n hx hb d_law_150 rfl (lv_at hl 2 rfl) ?_
  refine lw_arg (k := 1) G d_law_151 d_law_152 d_law_153 d_law_154 d_law_155 (by decide) hS (lv_at hl 3 rfl) (lv_at hl 0 rfl) (by omega) hL ?_
  refine lw_arg (k := 2) G d_law_156 d_law_157 d_law_158 d_law_159 d_law_160 (by decide) hS (lv_at hl 3 rfl) (lv_at hl 0 rfl) (by omega) hL ?_
  refine lw_call (M' := MX10_value) (ci := 10) (As := [vI (xs (i + 1)), vI (xs (i + 2))]) (st := []) G hN d_law_161 ml_L_31 im_X10_value se_X10_value in_X10 cd_X10_value rfl LY_10 np_X10_value (by decide) (by decide) (by decide) hC hR hS hl.1 ?_
  intro r S1 H1 locs1 hq hR1 hS1
  obtain ⟨x, rfl, Qm, hCm, hQm⟩ := hQ r S1 hq
  refine lv_aload_n hx hb d_law_164 rfl (lv_at hl 1 rfl) ?_
  refine lw_arg (k := 1) G d_law_165 d_law_166 d_law_167 d_law_168 d_law_169 (by decide) hS1 (lv_at hl 3 rfl) (lv_at hl 0 rfl) (by omega) hL ?_
  refine lw_arg (k := 2) G d_law_170 d_law_171 d_law_172 d_law_173 d_law_174 (by decide) hS1 (lv_at hl 3 rfl) (lv_at hl 0 rfl) (by omega) hL ?_
  refine lw_call (M' := MX11_value) (ci := 11) (As := [vI (xs (i + 1)), vI (xs (i + 2))]) (st := [vI x]) G hN d_law_175 ml_L_35 im_X11_value se_X11_value in_X11 cd_X11_value rfl LY_11 np_X11_value (by decide) (Nat.le_of_ble_eq_true rfl) (by decide) hCm hR1 hS1 hl.1 ?_
  intro r' S2 H2 locs2 hq' hR2 hS2
  obtain ⟨rfl, hI2⟩ := hQm r' S2 hq'
  refine lv_icmp_eq (tgt := 308) hx hb d_law_178 (by decide) (fun _ => K S2 H2 locs2 hI2 hR2 hS2) (fun hne => absurd rfl hne)
theorem lw_isNull (G : LG p s m meth c b L xs D ad cA) (hN : N1 ≤ 600000 ∧ N2 ≤ 7302250) (hL : L ≤ 2048) (hi : i + 4 ≤ L) (hI : LInv S) (hR : Rep D ad cA S H) (hS : va_S (fun q : Nat => s.heap.size ≤ q) s.heap H locs) (hl : LL ad b i ls) (K : ∀ (S2 : ST) (H2 : Heap) (locs2 : List Loc), LInv S2 → Rep D ad cA S2 H2 → va_S (fun q : Nat => s.heap.size ≤ q) s.heap H2 locs2 → W p l e room_1 s m #[Value.ref b] below meth c H2 locs2 N1 N2 Z (F0 m 308 ls [])) : W p l e room_1 s m #[Value.ref b] below meth c H locs N1 N2 Z (F0 m 183 ls []) := by
  obtain ⟨Qc, hC, hQ⟩ := p_isNull hI (xs (i + 1)) (xs (i + 2))
  have hx := G.1.1
  have hb := G.1.2.1
  refine lv_aload_n hx hb d_law_183 rfl (lv_at hl 2 rfl) ?_
  refine lw_arg (k := 1) G d_law_184 d_law_185 d_law_186 d_law_187 d_law_188 (by decide) hS (lv_at hl 3 rfl) (lv_at hl 0 rfl) (by omega) hL ?_
  refine lw_arg (k := 2) G d_law_189 d_law_190 d_law_191 d_law_192 d_law_193 (by decide) hS (lv_at hl 3 rfl) (lv_at hl 0 rfl) (by omega) hL ?_
  refine lw_call (M' := MX10_isNull) (ci := 10) (As := [vI (xs (i + 1)), vI (xs (i + 2))]) (st := []) G hN d_law_194 ml_L_36 im_X10_isNull se_X10_isNull in_X10 cd_X10_isNull rfl LY_10 np_X10_isNull (by decide) (by decide) (by decide) hC hR hS hl.1 ?_
  intro r S1 H1 locs1 hq hR1 hS1
  obtain ⟨x, rfl, Qm, hCm, hQm⟩ := hQ r S1 hq
  refine lv_aload_n hx hb d_law_197 rfl (lv_at hl 1 rfl) ?_
  refine lw_arg (k := 1) G d_law_198 d_law_199 d_law_200 d_law_201 d_law_202 (by decide) hS1 (lv_at hl 3 rfl) (lv_at hl 0 rfl) (by omega) hL ?_
  refine lw_arg (k := 2) G d_law_203 d_law_204 d_law_205 d_law_206 d_law_207 (by decide) hS1 (lv_at hl 3 rfl) (lv_at hl 0 rfl) (by omega) hL ?_
  refine lw_call (M' := MX11_isNull) (ci := 11) (As := [vI (xs (i + 1)), vI (xs (i + 2))]) (st := [vI x]) G hN d_law_208 ml_L_40 im_X11_isNull se_X11_isNull in_X11 cd_X11_isNull rfl LY_11 np_X11_isNull (by decide) (Nat.le_of_ble_eq_true rfl) (by decide) hCm hR1 hS1 hl.1 ?_
  intro r' S2 H2 locs2 hq' hR2 hS2
  obtain ⟨rfl, hI2⟩ := hQm r' S2 hq'
  refine lv_icmp_eq (tgt := 308) hx hb d_law_211 (by decide) (fun _ => K S2 H2 locs2 hI2 hR2 hS2) (fun hne => absurd rfl hne)
theorem lw_size (G : LG p s m meth c b L xs D ad cA) (hN : N1 ≤ 600000 ∧ N2 ≤ 7302250) (hL : L ≤ 2048) (hi : i + 4 ≤ L) (hI : LInv S) (hR : Rep D ad cA S H) (hS : va_S (fun q : Nat => s.heap.size ≤ q) s.heap H locs) (hl : LL ad b i ls) (K : ∀ (S2 : ST) (H2 : Heap) (locs2 : List Loc), LInv S2 → Rep D ad cA S2 H2 → va_S (fun q : Nat => s.heap.size ≤ q) s.heap H2 locs2 → W p l e room_1 s m #[Value.ref b] below meth c H2 locs2 N1 N2 Z (F0 m 308 ls [])) : W p l e room_1 s m #[Value.ref b] below meth c H locs N1 N2 Z (F0 m 216 ls []) := by
  obtain ⟨Qc, hC, hQ⟩ := p_size hI (xs (i + 1))
  have hx := G.1.1
  have hb := G.1.2.1
  refine lv_aload_n hx hb d_law_216 rfl (lv_at hl 2 rfl) ?_
  refine lw_arg (k := 1) G d_law_217 d_law_218 d_law_219 d_law_220 d_law_221 (by decide) hS (lv_at hl 3 rfl) (lv_at hl 0 rfl) (by omega) hL ?_
  refine lw_call (M' := MX10_size) (ci := 10) (As := [vI (xs (i + 1))]) (st := []) G hN d_law_222 ml_L_41 im_X10_size se_X10_size in_X10 cd_X10_size rfl LY_10 np_X10_size (by decide) (by decide) (by decide) hC hR hS hl.1 ?_
  intro r S1 H1 locs1 hq hR1 hS1
  obtain ⟨x, rfl, Qm, hCm, hQm⟩ := hQ r S1 hq
  refine lv_aload_n hx hb d_law_225 rfl (lv_at hl 1 rfl) ?_
  refine lw_arg (k := 1) G d_law_226 d_law_227 d_law_228 d_law_229 d_law_230 (by decide) hS1 (lv_at hl 3 rfl) (lv_at hl 0 rfl) (by omega) hL ?_
  refine lw_call (M' := MX11_size) (ci := 11) (As := [vI (xs (i + 1))]) (st := [vI x]) G hN d_law_231 ml_L_45 im_X11_size se_X11_size in_X11 cd_X11_size rfl LY_11 np_X11_size (by decide) (Nat.le_of_ble_eq_true rfl) (by decide) hCm hR1 hS1 hl.1 ?_
  intro r' S2 H2 locs2 hq' hR2 hS2
  obtain ⟨rfl, hI2⟩ := hQm r' S2 hq'
  refine lv_icmp_eq (tgt := 308) hx hb d_law_234 (by decide) (fun _ => K S2 H2 locs2 hI2 hR2 hS2) (fun hne => absurd rfl hne)
theorem lw_cell (G : LG p s m meth c b L xs D ad cA) (hN : N1 ≤ 600000 ∧ N2 ≤ 7302250) (hL : L ≤ 2048) (hi : i + 4 ≤ L) (hI : LInv S) (hR : Rep D ad cA S H) (hS : va_S (fun q : Nat => s.heap.size ≤ q) s.heap H locs) (hl : LL ad b i ls) (K : ∀ (S2 : ST) (H2 : Heap) (locs2 : List Loc), LInv S2 → Rep D ad cA S2 H2 → va_S (fun q : Nat => s.heap.size ≤ q) s.heap H2 locs2 → W p l e room_1 s m #[Value.ref b] below meth c H2 locs2 N1 N2 Z (F0 m 308 ls [])) : W p l e room_1 s m #[Value.ref b] below meth c H locs N1 N2 Z (F0 m 239 ls []) := by
  obtain ⟨Qc, hC, hQ⟩ := p_cell hI (xs (i + 1)) (xs (i + 2)) (xs (i + 3))
  have hx := G.1.1
  have hb := G.1.2.1
  refine lv_aload_n hx hb d_law_239 rfl (lv_at hl 2 rfl) ?_
  refine lw_arg (k := 1) G d_law_240 d_law_241 d_law_242 d_law_243 d_law_244 (by decide) hS (lv_at hl 3 rfl) (lv_at hl 0 rfl) (by omega) hL ?_
  refine lw_arg (k := 2) G d_law_245 d_law_246 d_law_247 d_law_248 d_law_249 (by decide) hS (lv_at hl 3 rfl) (lv_at hl 0 rfl) (by omega) hL ?_
  refine lw_arg (k := 3) G d_law_250 d_law_251 d_law_252 d_law_253 d_law_254 (by decide) hS (lv_at hl 3 rfl) (lv_at hl 0 rfl) (by omega) hL ?_
  refine lw_call (M' := MX10_cell) (ci := 10) (As := [vI (xs (i + 1)), vI (xs (i + 2)), vI (xs (i + 3))]) (st := []) G hN d_law_255 ml_L_46 im_X10_cell se_X10_cell in_X10 cd_X10_cell rfl LY_10 np_X10_cell (by decide) (by decide) (by decide) hC hR hS hl.1 ?_
  intro r S1 H1 locs1 hq hR1 hS1
  obtain ⟨x, rfl, Qm, hCm, hQm⟩ := hQ r S1 hq
  refine lv_aload_n hx hb d_law_258 rfl (lv_at hl 1 rfl) ?_
  refine lw_arg (k := 1) G d_law_259 d_law_260 d_law_261 d_law_262 d_law_263 (by decide) hS1 (lv_at hl 3 rfl) (lv_at hl 0 rfl) (by omega) hL ?_
  refine lw_arg (k := 2) G d_law_264 d_law_265 d_law_266 d_law_267 d_law_268 (by decide) hS1 (lv_at hl 3 rfl) (lv_at hl 0 rfl) (by omega) hL ?_
  refine lw_arg (k := 3) G d_law_269 d_law_270 d_law_271 d_law_272 d_law_273 (by decide) hS1 (lv_at hl 3 rfl) (lv_at hl 0 rfl) (by omega) hL ?_
  refine lw_call (M' := MX11_cell) (ci := 11) (As := [vI (xs (i + 1)), vI (xs (i + 2)), vI (xs (i + 3))]) (st := [vI x]) G hN d_law_274 ml_L_50 im_X11_cell se_X11_cell in_X11 cd_X11_cell rfl LY_11 np_X11_cell (by decide) (Nat.le_of_ble_eq_true rfl) (by decide) hCm hR1 hS1 hl.1 ?_
  intro r' S2 H2 locs2 hq' hR2 hS2
  obtain ⟨rfl, hI2⟩ := hQm r' S2 hq'
  refine lv_icmp_eq (tgt := 308) hx hb d_law_277 (by decide) (fun _ => K S2 H2 locs2 hI2 hR2 hS2) (fun hne => absurd rfl hne)
theorem lw_bounded (G : LG p s m meth c b L xs D ad cA) (hN : N1 ≤ 600000 ∧ N2 ≤ 7302250) (hL : L ≤ 2048) (hi : i + 4 ≤ L) (hI : LInv S) (hR : Rep D ad cA S H) (hS : va_S (fun q : Nat => s.heap.size ≤ q) s.heap H locs) (hl : LL ad b i ls) (K : ∀ (S2 : ST) (H2 : Heap) (locs2 : List Loc), LInv S2 → Rep D ad cA S2 H2 → va_S (fun q : Nat => s.heap.size ≤ q) s.heap H2 locs2 → W p l e room_1 s m #[Value.ref b] below meth c H2 locs2 N1 N2 Z (F0 m 308 ls [])) : W p l e room_1 s m #[Value.ref b] below meth c H locs N1 N2 Z (F0 m 282 ls []) := by
  obtain ⟨Qc, hC, hQ⟩ := p_bounded hI 
  have hx := G.1.1
  have hb := G.1.2.1
  refine lv_aload_n hx hb d_law_282 rfl (lv_at hl 2 rfl) ?_
  refine lw_call (M' := MX10_bounded) (ci := 10) (As := []) (st := []) G hN d_law_283 ml_L_51 im_X10_bounded se_X10_bounded in_X10 cd_X10_bounded rfl LY_10 np_X10_bounded (by decide) (by decide) (by decide) hC hR hS hl.1 ?_
  intro r S1 H1 locs1 hq hR1 hS1
  obtain ⟨x, rfl, Qm, hCm, hQm⟩ := hQ r S1 hq
  refine lv_aload_n hx hb d_law_286 rfl (lv_at hl 1 rfl) ?_
  refine lw_call (M' := MX11_bounded) (ci := 11) (As := []) (st := [vI x]) G hN d_law_287 ml_L_55 im_X11_bounded se_X11_bounded in_X11 cd_X11_bounded rfl LY_11 np_X11_bounded (by decide) (Nat.le_of_ble_eq_true rfl) (by decide) hCm hR1 hS1 hl.1 ?_
  intro r' S2 H2 locs2 hq' hR2 hS2
  obtain ⟨rfl, hI2⟩ := hQm r' S2 hq'
  refine lv_icmp_eq (tgt := 308) hx hb d_law_290 (by decide) (fun _ => K S2 H2 locs2 hI2 hR2 hS2) (fun hne => absurd rfl hne)
theorem lw_sound (G : LG p s m meth c b L xs D ad cA) (hN : N1 ≤ 600000 ∧ N2 ≤ 7302250) (hL : L ≤ 2048) (hi : i + 4 ≤ L) (hI : LInv S) (hR : Rep D ad cA S H) (hS : va_S (fun q : Nat => s.heap.size ≤ q) s.heap H locs) (hl : LL ad b i ls) (K : ∀ (S2 : ST) (H2 : Heap) (locs2 : List Loc), LInv S2 → Rep D ad cA S2 H2 → va_S (fun q : Nat => s.heap.size ≤ q) s.heap H2 locs2 → W p l e room_1 s m #[Value.ref b] below meth c H2 locs2 N1 N2 Z (F0 m 308 ls [])) : W p l e room_1 s m #[Value.ref b] below meth c H locs N1 N2 Z (F0 m 295 ls []) := by
  obtain ⟨Qc, hC, hQ⟩ := p_sound hI 
  have hx := G.1.1
  have hb := G.1.2.1
  refine lv_aload_n hx hb d_law_295 rfl (lv_at hl 2 rfl) ?_
  refine lw_call (M' := MX10_sound) (ci := 10) (As := []) (st := []) G hN d_law_296 ml_L_56 im_X10_sound se_X10_sound in_X10 cd_X10_sound rfl LY_10 np_X10_sound (by decide) (by decide) (by decide) hC hR hS hl.1 ?_
  intro r S1 H1 locs1 hq hR1 hS1
  obtain ⟨x, rfl, Qm, hCm, hQm⟩ := hQ r S1 hq
  refine lv_aload_n hx hb d_law_299 rfl (lv_at hl 1 rfl) ?_
  refine lw_call (M' := MX11_sound) (ci := 11) (As := []) (st := [vI x]) G hN d_law_300 ml_L_59 im_X11_sound se_X11_sound in_X11 cd_X11_sound rfl LY_11 np_X11_sound (by decide) (Nat.le_of_ble_eq_true rfl) (by decide) hCm hR1 hS1 hl.1 ?_
  intro r' S2 H2 locs2 hq' hR2 hS2
  obtain ⟨rfl, hI2⟩ := hQm r' S2 hq'
  refine lv_icmp_eq (tgt := 308) hx hb d_law_303 (by decide) (fun _ => K S2 H2 locs2 hI2 hR2 hS2) (fun hne => absurd rfl hne)
end
theorem law_loop {p : Program} {l : Launch} {e : Env} {s : State} {m : MethodId} {below : List Frame} {meth : Method} {c : Code} {b L : Nat} {xs : Nat → Int32} {D : va_G} {ad : Nat → Nat → Nat} {cA : Nat → ClassId} {N1 N2 : Nat} (G : LG p s m meth c b L xs D ad cA) (hN : N1 ≤ 600000 ∧ N2 ≤ 7302250) (hL : L ≤ 2048) : ∀ (n i : Nat), L < i + n → i ≤ L + 4 → ∀ (S : ST) (H : Heap) (locs : List Loc) (ls : Array Slot), LInv S → Rep D ad cA S H → va_S (fun q : Nat => s.heap.size ≤ q) s.heap H locs → LL ad b i ls → W p l e room_1 s m #[Value.ref b] below meth c H locs N1 N2 (lw_Z below #[Value.ref b] s) (F0 m 18 ls []) := by
  obtain ⟨hx, hb, hr, hml, hown, hts, hX, hbl, hlocks, hgv⟩ := G.1
  intro n
  induction n with
  | zero =>
    intro i hi hi4 S H locs ls hI hR hS hl
    refine lv_iload_n hx hb d_law_18 rfl (lv_at hl 0 rfl) ?_
    refine lv_aload_n hx hb d_law_19 rfl (lv_at hl 3 rfl) ?_
    refine va_slen hx hb hX hbl (Nat.not_le.mpr hbl) hS d_law_20 ?_
    refine lv_iconst (v := nI 4) hx hb d_law_21 (by decide) ?_
    refine lv_isub hx hb d_law_22 ?_
    refine lv_icmp_gt (tgt := 314) hx hb d_law_23 (by decide) (fun _ => ?_) (fun hng => ?_)
    · refine lv_iconst (v := 1) hx hb d_law_314 (by decide) ?_
      refine va_forget (fun q hq => hS.2.2 q hq) ?_
      refine W.widen (k := 600000) (n := 7302250) hN.1 hN.2 ?_
      exact lw_ret hx hb hr hlocks d_law_315
    · exfalso
      apply hng
      show Int32.ofNat L - nI 4 < nI i
      have e : (Int32.ofNat L - nI 4) + nI 4 = nI L := by rw [Int32.sub_add_cancel]; rfl
      rw [Int32.lt_iff_toInt_lt]
      have e1 : (nI i).toInt = (i : Int) := nI_toInt (by omega)
      have e2 : (Int32.ofNat L - nI 4).toInt = (L : Int) - 4 := by
        rw [Int32.toInt_sub, show (Int32.ofNat L).toInt = (L : Int) from nI_toInt (n := L) (by omega), show (nI 4).toInt = 4 by decide]
        exact Int.bmod_eq_of_le (by omega) (by omega)
      rw [e1, e2]
      omega
  | succ n ih =>
    intro i hi hi4 S H locs ls hI hR hS hl
    refine lv_iload_n hx hb d_law_18 rfl (lv_at hl 0 rfl) ?_
    refine lv_aload_n hx hb d_law_19 rfl (lv_at hl 3 rfl) ?_
    refine va_slen hx hb hX hbl (Nat.not_le.mpr hbl) hS d_law_20 ?_
    refine lv_iconst (v := nI 4) hx hb d_law_21 (by decide) ?_
    refine lv_isub hx hb d_law_22 ?_
    have e2 : (Int32.ofNat L - nI 4).toInt = (L : Int) - 4 := by
      rw [Int32.toInt_sub, show (Int32.ofNat L).toInt = (L : Int) from nI_toInt (n := L) (by omega), show (nI 4).toInt = 4 by decide]
      exact Int.bmod_eq_of_le (by omega) (by omega)
    have e1 : (nI i).toInt = (i : Int) := nI_toInt (by omega)
    refine lv_icmp_gt (tgt := 314) hx hb d_law_23 (by decide) (fun _ => ?_) (fun hng => ?_)
    · refine lv_iconst (v := 1) hx hb d_law_314 (by decide) ?_
      refine va_forget (fun q hq => hS.2.2 q hq) ?_
      refine W.widen (k := 600000) (n := 7302250) hN.1 hN.2 ?_
      exact lw_ret hx hb hr hlocks d_law_315
    · have hlt : i + 4 ≤ L := by
        rw [Int32.lt_iff_toInt_lt, e1, e2] at hng
        omega
      have nxt : ∀ (S2 : ST) (H2 : Heap) (locs2 : List Loc), LInv S2 → Rep D ad cA S2 H2 → va_S (fun q : Nat => s.heap.size ≤ q) s.heap H2 locs2 → W p l e room_1 s m #[Value.ref b] below meth c H2 locs2 N1 N2 (lw_Z below #[Value.ref b] s) (F0 m 308 ls []) := by
        intro S2 H2 locs2 hI2 hR2 hS2
        refine lv_iinc (v := nI (i + 4)) (lv' := [(3, .int (nI (i + 4))), (2, .ref (ad 11 0)), (1, .ref (ad 10 0)), (0, .ref b)]) hx hb d_law_308 hl (k := 0) rfl (by rw [← nI_add]; rfl) (by decide) rfl (fun ls hl => ?_)
        refine lv_goto (tgt := 18) hx hb d_law_311 (by decide) ?_
        exact ih (i + 4) (by omega) (by omega) S2 H2 locs2 ls hI2 hR2 hS2 hl
      refine lv_aload_n hx hb d_law_26 rfl (lv_at hl 3 rfl) ?_
      refine lv_iload_n hx hb d_law_27 rfl (lv_at hl 0 rfl) ?_
      refine va_sld hx hb hX hbl (Nat.not_le.mpr hbl) hS (vp_in_nI (by omega) (by omega)) d_law_28 ?_
      refine lv_bipush (v := 15) hx hb d_law_29 (by decide) ?_
      refine lv_iand hx hb d_law_31 ?_
      refine lv_topi (fun x _ => ?_)
      by_cases h09 : x.toInt < 0 ∨ 9 < x.toInt
      · exact lv_tableOut (tgt := 308) hx hb d_law_32 h09 (by decide) (nxt S H locs hI hR hS)
      · have hlo : ¬ x.toInt < 0 := fun z => h09 (Or.inl z)
        have hhi : ¬ 9 < x.toInt := fun z => h09 (Or.inr z)
        have hcs : x.toInt = 0 ∨ x.toInt = 1 ∨ x.toInt = 2 ∨ x.toInt = 3 ∨ x.toInt = 4 ∨ x.toInt = 5 ∨ x.toInt = 6 ∨ x.toInt = 7 ∨ x.toInt = 8 ∨ x.toInt = 9 := by omega
        rcases hcs with q | q | q | q | q | q | q | q | q | q
        · exact lv_tableIn (tgt := 88) hx hb d_law_32 hlo hhi (by rw [q]; rfl) (by decide) (lw_unit G hN hL hlt hI hR hS hl nxt)
        · exact lv_tableIn (tgt := 111) hx hb d_law_32 hlo hhi (by rw [q]; rfl) (by decide) (lw_act G hN hL hlt hI hR hS hl nxt)
        · exact lv_tableIn (tgt := 124) hx hb d_law_32 hlo hhi (by rw [q]; rfl) (by decide) (lw_rows G hN hL hlt hI hR hS hl nxt)
        · exact lv_tableIn (tgt := 137) hx hb d_law_32 hlo hhi (by rw [q]; rfl) (by decide) (lw_items G hN hL hlt hI hR hS hl nxt)
        · exact lv_tableIn (tgt := 150) hx hb d_law_32 hlo hhi (by rw [q]; rfl) (by decide) (lw_value G hN hL hlt hI hR hS hl nxt)
        · exact lv_tableIn (tgt := 183) hx hb d_law_32 hlo hhi (by rw [q]; rfl) (by decide) (lw_isNull G hN hL hlt hI hR hS hl nxt)
        · exact lv_tableIn (tgt := 216) hx hb d_law_32 hlo hhi (by rw [q]; rfl) (by decide) (lw_size G hN hL hlt hI hR hS hl nxt)
        · exact lv_tableIn (tgt := 239) hx hb d_law_32 hlo hhi (by rw [q]; rfl) (by decide) (lw_cell G hN hL hlt hI hR hS hl nxt)
        · exact lv_tableIn (tgt := 282) hx hb d_law_32 hlo hhi (by rw [q]; rfl) (by decide) (lw_bounded G hN hL hlt hI hR hS hl nxt)
        · exact lv_tableIn (tgt := 295) hx hb d_law_32 hlo hhi (by rw [q]; rfl) (by decide) (lw_sound G hN hL hlt hI hR hS hl nxt)
