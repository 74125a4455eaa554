/-! THE CLAIM OUT OF ONE WALK OF THE LAW'S BODY. Your part is whole_start (and what it stands on); all else here is the same for every law, but numbers. -/
def R_law : String := "UnitLogLaw"
def lw_P (b : Addr) (xs : List Int32) (args : Array Value) (s : State) : Prop := args = #[.ref b] ∧ s.IntsAt b xs ∧ xs.length ≤ 3073 ∧ (Jvm.Cond.and given_1 narrow_1).before args s = true
def lw_Q (_ : Array Value) (s : State) (o : Outcome) (t : State) : Prop := o = .returned (some (.int 1)) ∧ Framed s o t [] 600000 7302250
def lw_Z (below : List Frame) (a : Array Value) (s : State) : State → Prop := fun t => ∃ o, t.status = .running ∧ Ended t below o ∧ lw_Q a s o t
/-- the law's own end, with 1 on the stack, nothing written that was there before, its room as the claim has it -/
theorem lw_ret {p : Program} {l : Launch} {e : Env} {s : State} {m : MethodId} {below : List Frame} {meth : Method} {c : Code} {b : Nat} (hx : p.tables.exec = Jvm.exec) (hb : c.code = code) (hr : meth.sig.returnType = ret) (hlocks : meth.locks = false) {pc : Nat} {H : Heap} {ls : Array Slot} (hdg : decode code pc = .ok (.ireturn, 1)) : W p l e room_1 s m #[Value.ref b] below meth c H [] 600000 7302250 (lw_Z below #[Value.ref b] s) (F0 m pc ls [.int 1]) := by
  intro T hT X
  obtain ⟨fs, hret, hrun, hended, hW, hframe⟩ := X.leave (v := some (.int 1)) (hlocks := hlocks) (fun h => by rw [hr] at h; cases h)
  have hmeth' : T.vm.method? m = some meth := X.method'
  refine ⟨T.setFrames fs, ?_, .returned (some (.int 1)), hrun, hended, rfl, ⟨_, rfl⟩, hW, hframe⟩
  jvm_step X.here [X.here.top, hx, hb, hdg, hmeth', hr, ret, narrow_b1]
  (try refine ⟨rfl, ?_⟩); (try refine ⟨rfl, ?_⟩)
  first | (intro acts; rw [hret _ acts rfl rfl rfl]) | rw [hret _ _ rfl rfl rfl]
  exact Steps.refl _
/-- what holds at the law's entry: the machine, the code, the tables' words (any of lw_tbl by 'hts w (by decide +kernel)'), the script of L ints xs at the cell b, what the Statement gives of the start (any of its parts by flat_of_before) -/
def lw_At (p : Program) (s : State) (m : MethodId) (meth : Method) (c : Code) (b L : Nat) (xs : Nat → Int32) : Prop :=
  p.tables.exec = Jvm.exec ∧ c.code = code ∧ meth.sig.returnType = ret ∧ c.maxLocals = 4 ∧ s.vm.findClass R_law = some m.cls ∧ (∀ w ∈ lw_tbl, w.before #[Value.ref b] s = true) ∧ va_X b L xs s s.heap ∧ b < s.heap.size ∧ meth.locks = false ∧ (Jvm.Cond.and given_1 narrow_1).before #[Value.ref b] s = true

theorem nsOf {s : State} {a : Array Value} (hts : ∀ w ∈ lw_tbl, w.before a s = true) : Ns s := by
  intro w hw
  have h1 := List.all_eq_true.mp nsk_all w hw
  have h2 := hts w (nsW_in w hw)
  cases w <;> first | exact va_Nw.of rfl h2 | (simp [nsk] at h1)
theorem d_L_law_0 : decode code 0 = .ok (.new 7, 3) := by decide +kernel
theorem d_L_law_3 : decode code 3 = .ok (.dup, 1) := by decide +kernel
theorem d_L_law_4 : decode code 4 = .ok (.aload_n 0, 1) := by decide +kernel
theorem d_L_law_5 : decode code 5 = .ok (.iconst 0, 1) := by decide +kernel
theorem d_L_law_6 : decode code 6 = .ok (.invokestatic 9, 3) := by decide +kernel
theorem d_L_law_9 : decode code 9 = .ok (.invokespecial 15, 3) := by decide +kernel
theorem d_L_law_12 : decode code 12 = .ok (.astore_n 1, 1) := by decide +kernel
theorem d_L_law_13 : decode code 13 = .ok (.new 18, 3) := by decide +kernel
theorem d_L_law_16 : decode code 16 = .ok (.dup, 1) := by decide +kernel
theorem d_L_law_17 : decode code 17 = .ok (.aload_n 0, 1) := by decide +kernel
theorem d_L_law_18 : decode code 18 = .ok (.iconst 0, 1) := by decide +kernel
theorem d_L_law_19 : decode code 19 = .ok (.invokestatic 9, 3) := by decide +kernel
theorem d_L_law_22 : decode code 22 = .ok (.invokespecial 20, 3) := by decide +kernel
theorem d_L_law_25 : decode code 25 = .ok (.astore_n 2, 1) := by decide +kernel
theorem d_L_law_26 : decode code 26 = .ok (.iconst 1, 1) := by decide +kernel
theorem d_L_law_27 : decode code 27 = .ok (.istore_n 3, 1) := by decide +kernel
theorem d_L_law_28 : decode code 28 = .ok (.iload_n 3, 1) := by decide +kernel
theorem d_L_law_29 : decode code 29 = .ok (.aload_n 0, 1) := by decide +kernel
theorem d_L_law_30 : decode code 30 = .ok (.arraylength, 1) := by decide +kernel
theorem d_L_law_31 : decode code 31 = .ok (.bipush 6, 2) := by decide +kernel
theorem d_L_law_33 : decode code 33 = .ok (.isub, 1) := by decide +kernel
theorem d_L_law_34 : decode code 34 = .ok (.if_icmp .gt 474, 3) := by decide +kernel
theorem d_L_law_37 : decode code 37 = .ok (.aload_n 0, 1) := by decide +kernel
theorem d_L_law_38 : decode code 38 = .ok (.iload_n 3, 1) := by decide +kernel
theorem d_L_law_39 : decode code 39 = .ok (.iaload, 1) := by decide +kernel
theorem d_L_law_40 : decode code 40 = .ok (.bipush 15, 2) := by decide +kernel
theorem d_L_law_42 : decode code 42 = .ok (.iand, 1) := by decide +kernel
theorem d_L_law_43 : decode code 43 = .ok (.tableswitch 459 0 14 #[73, 176, 199, 233, 266, 289, 302, 315, 328, 351, 364, 377, 390, 413, 436], 73) := by decide +kernel
theorem d_L_law_116 : decode code 116 = .ok (.aload_n 1, 1) := by decide +kernel
theorem d_L_law_117 : decode code 117 = .ok (.aload_n 0, 1) := by decide +kernel
theorem d_L_law_118 : decode code 118 = .ok (.iload_n 3, 1) := by decide +kernel
theorem d_L_law_119 : decode code 119 = .ok (.iconst 1, 1) := by decide +kernel
theorem d_L_law_120 : decode code 120 = .ok (.iadd, 1) := by decide +kernel
theorem d_L_law_121 : decode code 121 = .ok (.iaload, 1) := by decide +kernel
theorem d_L_law_122 : decode code 122 = .ok (.aload_n 0, 1) := by decide +kernel
theorem d_L_law_123 : decode code 123 = .ok (.iload_n 3, 1) := by decide +kernel
theorem d_L_law_124 : decode code 124 = .ok (.iconst 2, 1) := by decide +kernel
theorem d_L_law_125 : decode code 125 = .ok (.iadd, 1) := by decide +kernel
theorem d_L_law_126 : decode code 126 = .ok (.iaload, 1) := by decide +kernel
theorem d_L_law_127 : decode code 127 = .ok (.i2l, 1) := by decide +kernel
theorem d_L_law_128 : decode code 128 = .ok (.bipush 32, 2) := by decide +kernel
theorem d_L_law_130 : decode code 130 = .ok (.lshl, 1) := by decide +kernel
theorem d_L_law_131 : decode code 131 = .ok (.aload_n 0, 1) := by decide +kernel
theorem d_L_law_132 : decode code 132 = .ok (.iload_n 3, 1) := by decide +kernel
theorem d_L_law_133 : decode code 133 = .ok (.iconst 3, 1) := by decide +kernel
theorem d_L_law_134 : decode code 134 = .ok (.iadd, 1) := by decide +kernel
theorem d_L_law_135 : decode code 135 = .ok (.iaload, 1) := by decide +kernel
theorem d_L_law_136 : decode code 136 = .ok (.i2l, 1) := by decide +kernel
theorem d_L_law_137 : decode code 137 = .ok (.ldc2_w 21, 3) := by decide +kernel
theorem d_L_law_140 : decode code 140 = .ok (.land, 1) := by decide +kernel
theorem d_L_law_141 : decode code 141 = .ok (.lor, 1) := by decide +kernel
theorem d_L_law_142 : decode code 142 = .ok (.aload_n 0, 1) := by decide +kernel
theorem d_L_law_143 : decode code 143 = .ok (.iload_n 3, 1) := by decide +kernel
theorem d_L_law_144 : decode code 144 = .ok (.iconst 4, 1) := by decide +kernel
theorem d_L_law_145 : decode code 145 = .ok (.iadd, 1) := by decide +kernel
theorem d_L_law_146 : decode code 146 = .ok (.iaload, 1) := by decide +kernel
theorem d_L_law_147 : decode code 147 = .ok (.i2l, 1) := by decide +kernel
theorem d_L_law_148 : decode code 148 = .ok (.bipush 32, 2) := by decide +kernel
theorem d_L_law_150 : decode code 150 = .ok (.lshl, 1) := by decide +kernel
theorem d_L_law_151 : decode code 151 = .ok (.aload_n 0, 1) := by decide +kernel
theorem d_L_law_152 : decode code 152 = .ok (.iload_n 3, 1) := by decide +kernel
theorem d_L_law_153 : decode code 153 = .ok (.iconst 5, 1) := by decide +kernel
theorem d_L_law_154 : decode code 154 = .ok (.iadd, 1) := by decide +kernel
theorem d_L_law_155 : decode code 155 = .ok (.iaload, 1) := by decide +kernel
theorem d_L_law_156 : decode code 156 = .ok (.i2l, 1) := by decide +kernel
theorem d_L_law_157 : decode code 157 = .ok (.ldc2_w 21, 3) := by decide +kernel
theorem d_L_law_160 : decode code 160 = .ok (.land, 1) := by decide +kernel
theorem d_L_law_161 : decode code 161 = .ok (.lor, 1) := by decide +kernel
theorem d_L_law_162 : decode code 162 = .ok (.invokevirtual 23, 3) := by decide +kernel
theorem d_L_law_165 : decode code 165 = .ok (.aload_n 2, 1) := by decide +kernel
theorem d_L_law_166 : decode code 166 = .ok (.aload_n 0, 1) := by decide +kernel
theorem d_L_law_167 : decode code 167 = .ok (.iload_n 3, 1) := by decide +kernel
theorem d_L_law_168 : decode code 168 = .ok (.iconst 1, 1) := by decide +kernel
theorem d_L_law_169 : decode code 169 = .ok (.iadd, 1) := by decide +kernel
theorem d_L_law_170 : decode code 170 = .ok (.iaload, 1) := by decide +kernel
theorem d_L_law_171 : decode code 171 = .ok (.aload_n 0, 1) := by decide +kernel
theorem d_L_law_172 : decode code 172 = .ok (.iload_n 3, 1) := by decide +kernel
theorem d_L_law_173 : decode code 173 = .ok (.iconst 2, 1) := by decide +kernel
theorem d_L_law_174 : decode code 174 = .ok (.iadd, 1) := by decide +kernel
theorem d_L_law_175 : decode code 175 = .ok (.iaload, 1) := by decide +kernel
theorem d_L_law_176 : decode code 176 = .ok (.i2l, 1) := by decide +kernel
theorem d_L_law_177 : decode code 177 = .ok (.bipush 32, 2) := by decide +kernel
theorem d_L_law_179 : decode code 179 = .ok (.lshl, 1) := by decide +kernel
theorem d_L_law_180 : decode code 180 = .ok (.aload_n 0, 1) := by decide +kernel
theorem d_L_law_181 : decode code 181 = .ok (.iload_n 3, 1) := by decide +kernel
theorem d_L_law_182 : decode code 182 = .ok (.iconst 3, 1) := by decide +kernel
theorem d_L_law_183 : decode code 183 = .ok (.iadd, 1) := by decide +kernel
theorem d_L_law_184 : decode code 184 = .ok (.iaload, 1) := by decide +kernel
theorem d_L_law_185 : decode code 185 = .ok (.i2l, 1) := by decide +kernel
theorem d_L_law_186 : decode code 186 = .ok (.ldc2_w 21, 3) := by decide +kernel
theorem d_L_law_189 : decode code 189 = .ok (.land, 1) := by decide +kernel
theorem d_L_law_190 : decode code 190 = .ok (.lor, 1) := by decide +kernel
theorem d_L_law_191 : decode code 191 = .ok (.aload_n 0, 1) := by decide +kernel
theorem d_L_law_192 : decode code 192 = .ok (.iload_n 3, 1) := by decide +kernel
theorem d_L_law_193 : decode code 193 = .ok (.iconst 4, 1) := by decide +kernel
theorem d_L_law_194 : decode code 194 = .ok (.iadd, 1) := by decide +kernel
theorem d_L_law_195 : decode code 195 = .ok (.iaload, 1) := by decide +kernel
theorem d_L_law_196 : decode code 196 = .ok (.i2l, 1) := by decide +kernel
theorem d_L_law_197 : decode code 197 = .ok (.bipush 32, 2) := by decide +kernel
theorem d_L_law_199 : decode code 199 = .ok (.lshl, 1) := by decide +kernel
theorem d_L_law_200 : decode code 200 = .ok (.aload_n 0, 1) := by decide +kernel
theorem d_L_law_201 : decode code 201 = .ok (.iload_n 3, 1) := by decide +kernel
theorem d_L_law_202 : decode code 202 = .ok (.iconst 5, 1) := by decide +kernel
theorem d_L_law_203 : decode code 203 = .ok (.iadd, 1) := by decide +kernel
theorem d_L_law_204 : decode code 204 = .ok (.iaload, 1) := by decide +kernel
theorem d_L_law_205 : decode code 205 = .ok (.i2l, 1) := by decide +kernel
theorem d_L_law_206 : decode code 206 = .ok (.ldc2_w 21, 3) := by decide +kernel
theorem d_L_law_209 : decode code 209 = .ok (.land, 1) := by decide +kernel
theorem d_L_law_210 : decode code 210 = .ok (.lor, 1) := by decide +kernel
theorem d_L_law_211 : decode code 211 = .ok (.invokevirtual 27, 3) := by decide +kernel
theorem d_L_law_214 : decode code 214 = .ok (.if_icmp .eq 288, 3) := by decide +kernel
theorem d_L_law_217 : decode code 217 = .ok (.iconst 0, 1) := by decide +kernel
theorem d_L_law_218 : decode code 218 = .ok (.ireturn, 1) := by decide +kernel
theorem d_L_law_219 : decode code 219 = .ok (.aload_n 1, 1) := by decide +kernel
theorem d_L_law_220 : decode code 220 = .ok (.aload_n 0, 1) := by decide +kernel
theorem d_L_law_221 : decode code 221 = .ok (.iload_n 3, 1) := by decide +kernel
theorem d_L_law_222 : decode code 222 = .ok (.iconst 1, 1) := by decide +kernel
theorem d_L_law_223 : decode code 223 = .ok (.iadd, 1) := by decide +kernel
theorem d_L_law_224 : decode code 224 = .ok (.iaload, 1) := by decide +kernel
theorem d_L_law_225 : decode code 225 = .ok (.invokevirtual 28, 3) := by decide +kernel
theorem d_L_law_228 : decode code 228 = .ok (.aload_n 2, 1) := by decide +kernel
theorem d_L_law_229 : decode code 229 = .ok (.aload_n 0, 1) := by decide +kernel
theorem d_L_law_230 : decode code 230 = .ok (.iload_n 3, 1) := by decide +kernel
theorem d_L_law_231 : decode code 231 = .ok (.iconst 1, 1) := by decide +kernel
theorem d_L_law_232 : decode code 232 = .ok (.iadd, 1) := by decide +kernel
theorem d_L_law_233 : decode code 233 = .ok (.iaload, 1) := by decide +kernel
theorem d_L_law_234 : decode code 234 = .ok (.invokevirtual 32, 3) := by decide +kernel
theorem d_L_law_237 : decode code 237 = .ok (.if_icmp .eq 265, 3) := by decide +kernel
theorem d_L_law_240 : decode code 240 = .ok (.iconst 0, 1) := by decide +kernel
theorem d_L_law_241 : decode code 241 = .ok (.ireturn, 1) := by decide +kernel
theorem d_L_law_242 : decode code 242 = .ok (.aload_n 1, 1) := by decide +kernel
theorem d_L_law_243 : decode code 243 = .ok (.aload_n 0, 1) := by decide +kernel
theorem d_L_law_244 : decode code 244 = .ok (.iload_n 3, 1) := by decide +kernel
theorem d_L_law_245 : decode code 245 = .ok (.iconst 1, 1) := by decide +kernel
theorem d_L_law_246 : decode code 246 = .ok (.iadd, 1) := by decide +kernel
theorem d_L_law_247 : decode code 247 = .ok (.iaload, 1) := by decide +kernel
theorem d_L_law_248 : decode code 248 = .ok (.aload_n 0, 1) := by decide +kernel
theorem d_L_law_249 : decode code 249 = .ok (.iload_n 3, 1) := by decide +kernel
theorem d_L_law_250 : decode code 250 = .ok (.iconst 2, 1) := by decide +kernel
theorem d_L_law_251 : decode code 251 = .ok (.iadd, 1) := by decide +kernel
theorem d_L_law_252 : decode code 252 = .ok (.iaload, 1) := by decide +kernel
theorem d_L_law_253 : decode code 253 = .ok (.invokevirtual 33, 3) := by decide +kernel
theorem d_L_law_256 : decode code 256 = .ok (.aload_n 2, 1) := by decide +kernel
theorem d_L_law_257 : decode code 257 = .ok (.aload_n 0, 1) := by decide +kernel
theorem d_L_law_258 : decode code 258 = .ok (.iload_n 3, 1) := by decide +kernel
theorem d_L_law_259 : decode code 259 = .ok (.iconst 1, 1) := by decide +kernel
theorem d_L_law_260 : decode code 260 = .ok (.iadd, 1) := by decide +kernel
theorem d_L_law_261 : decode code 261 = .ok (.iaload, 1) := by decide +kernel
theorem d_L_law_262 : decode code 262 = .ok (.aload_n 0, 1) := by decide +kernel
theorem d_L_law_263 : decode code 263 = .ok (.iload_n 3, 1) := by decide +kernel
theorem d_L_law_264 : decode code 264 = .ok (.iconst 2, 1) := by decide +kernel
theorem d_L_law_265 : decode code 265 = .ok (.iadd, 1) := by decide +kernel
theorem d_L_law_266 : decode code 266 = .ok (.iaload, 1) := by decide +kernel
theorem d_L_law_267 : decode code 267 = .ok (.invokevirtual 37, 3) := by decide +kernel
theorem d_L_law_270 : decode code 270 = .ok (.lcmp, 1) := by decide +kernel
theorem d_L_law_271 : decode code 271 = .ok (.ifCond .eq 231, 3) := by decide +kernel
theorem d_L_law_274 : decode code 274 = .ok (.iconst 0, 1) := by decide +kernel
theorem d_L_law_275 : decode code 275 = .ok (.ireturn, 1) := by decide +kernel
theorem d_L_law_276 : decode code 276 = .ok (.aload_n 1, 1) := by decide +kernel
theorem d_L_law_277 : decode code 277 = .ok (.aload_n 0, 1) := by decide +kernel
theorem d_L_law_278 : decode code 278 = .ok (.iload_n 3, 1) := by decide +kernel
theorem d_L_law_279 : decode code 279 = .ok (.iconst 1, 1) := by decide +kernel
theorem d_L_law_280 : decode code 280 = .ok (.iadd, 1) := by decide +kernel
theorem d_L_law_281 : decode code 281 = .ok (.iaload, 1) := by decide +kernel
theorem d_L_law_282 : decode code 282 = .ok (.aload_n 0, 1) := by decide +kernel
theorem d_L_law_283 : decode code 283 = .ok (.iload_n 3, 1) := by decide +kernel
theorem d_L_law_284 : decode code 284 = .ok (.iconst 2, 1) := by decide +kernel
theorem d_L_law_285 : decode code 285 = .ok (.iadd, 1) := by decide +kernel
theorem d_L_law_286 : decode code 286 = .ok (.iaload, 1) := by decide +kernel
theorem d_L_law_287 : decode code 287 = .ok (.invokevirtual 38, 3) := by decide +kernel
theorem d_L_law_290 : decode code 290 = .ok (.aload_n 2, 1) := by decide +kernel
theorem d_L_law_291 : decode code 291 = .ok (.aload_n 0, 1) := by decide +kernel
theorem d_L_law_292 : decode code 292 = .ok (.iload_n 3, 1) := by decide +kernel
theorem d_L_law_293 : decode code 293 = .ok (.iconst 1, 1) := by decide +kernel
theorem d_L_law_294 : decode code 294 = .ok (.iadd, 1) := by decide +kernel
theorem d_L_law_295 : decode code 295 = .ok (.iaload, 1) := by decide +kernel
theorem d_L_law_296 : decode code 296 = .ok (.aload_n 0, 1) := by decide +kernel
theorem d_L_law_297 : decode code 297 = .ok (.iload_n 3, 1) := by decide +kernel
theorem d_L_law_298 : decode code 298 = .ok (.iconst 2, 1) := by decide +kernel
theorem d_L_law_299 : decode code 299 = .ok (.iadd, 1) := by decide +kernel
theorem d_L_law_300 : decode code 300 = .ok (.iaload, 1) := by decide +kernel
theorem d_L_law_301 : decode code 301 = .ok (.invokevirtual 42, 3) := by decide +kernel
theorem d_L_law_304 : decode code 304 = .ok (.if_icmp .eq 198, 3) := by decide +kernel
theorem d_L_law_307 : decode code 307 = .ok (.iconst 0, 1) := by decide +kernel
theorem d_L_law_308 : decode code 308 = .ok (.ireturn, 1) := by decide +kernel
theorem d_L_law_309 : decode code 309 = .ok (.aload_n 1, 1) := by decide +kernel
theorem d_L_law_310 : decode code 310 = .ok (.aload_n 0, 1) := by decide +kernel
theorem d_L_law_311 : decode code 311 = .ok (.iload_n 3, 1) := by decide +kernel
theorem d_L_law_312 : decode code 312 = .ok (.iconst 1, 1) := by decide +kernel
theorem d_L_law_313 : decode code 313 = .ok (.iadd, 1) := by decide +kernel
theorem d_L_law_314 : decode code 314 = .ok (.iaload, 1) := by decide +kernel
theorem d_L_law_315 : decode code 315 = .ok (.invokevirtual 43, 3) := by decide +kernel
theorem d_L_law_318 : decode code 318 = .ok (.aload_n 2, 1) := by decide +kernel
theorem d_L_law_319 : decode code 319 = .ok (.aload_n 0, 1) := by decide +kernel
theorem d_L_law_320 : decode code 320 = .ok (.iload_n 3, 1) := by decide +kernel
theorem d_L_law_321 : decode code 321 = .ok (.iconst 1, 1) := by decide +kernel
theorem d_L_law_322 : decode code 322 = .ok (.iadd, 1) := by decide +kernel
theorem d_L_law_323 : decode code 323 = .ok (.iaload, 1) := by decide +kernel
theorem d_L_law_324 : decode code 324 = .ok (.invokevirtual 46, 3) := by decide +kernel
theorem d_L_law_327 : decode code 327 = .ok (.if_icmp .eq 175, 3) := by decide +kernel
theorem d_L_law_330 : decode code 330 = .ok (.iconst 0, 1) := by decide +kernel
theorem d_L_law_331 : decode code 331 = .ok (.ireturn, 1) := by decide +kernel
theorem d_L_law_332 : decode code 332 = .ok (.aload_n 1, 1) := by decide +kernel
theorem d_L_law_333 : decode code 333 = .ok (.invokevirtual 47, 3) := by decide +kernel
theorem d_L_law_336 : decode code 336 = .ok (.aload_n 2, 1) := by decide +kernel
theorem d_L_law_337 : decode code 337 = .ok (.invokevirtual 51, 3) := by decide +kernel
theorem d_L_law_340 : decode code 340 = .ok (.if_icmp .eq 162, 3) := by decide +kernel
theorem d_L_law_343 : decode code 343 = .ok (.iconst 0, 1) := by decide +kernel
theorem d_L_law_344 : decode code 344 = .ok (.ireturn, 1) := by decide +kernel
theorem d_L_law_345 : decode code 345 = .ok (.aload_n 1, 1) := by decide +kernel
theorem d_L_law_346 : decode code 346 = .ok (.invokevirtual 52, 3) := by decide +kernel
theorem d_L_law_349 : decode code 349 = .ok (.aload_n 2, 1) := by decide +kernel
theorem d_L_law_350 : decode code 350 = .ok (.invokevirtual 55, 3) := by decide +kernel
theorem d_L_law_353 : decode code 353 = .ok (.if_icmp .eq 149, 3) := by decide +kernel
theorem d_L_law_356 : decode code 356 = .ok (.iconst 0, 1) := by decide +kernel
theorem d_L_law_357 : decode code 357 = .ok (.ireturn, 1) := by decide +kernel
theorem d_L_law_358 : decode code 358 = .ok (.aload_n 1, 1) := by decide +kernel
theorem d_L_law_359 : decode code 359 = .ok (.invokevirtual 56, 3) := by decide +kernel
theorem d_L_law_362 : decode code 362 = .ok (.aload_n 2, 1) := by decide +kernel
theorem d_L_law_363 : decode code 363 = .ok (.invokevirtual 59, 3) := by decide +kernel
theorem d_L_law_366 : decode code 366 = .ok (.if_icmp .eq 136, 3) := by decide +kernel
theorem d_L_law_369 : decode code 369 = .ok (.iconst 0, 1) := by decide +kernel
theorem d_L_law_370 : decode code 370 = .ok (.ireturn, 1) := by decide +kernel
theorem d_L_law_371 : decode code 371 = .ok (.aload_n 1, 1) := by decide +kernel
theorem d_L_law_372 : decode code 372 = .ok (.aload_n 0, 1) := by decide +kernel
theorem d_L_law_373 : decode code 373 = .ok (.iload_n 3, 1) := by decide +kernel
theorem d_L_law_374 : decode code 374 = .ok (.iconst 1, 1) := by decide +kernel
theorem d_L_law_375 : decode code 375 = .ok (.iadd, 1) := by decide +kernel
theorem d_L_law_376 : decode code 376 = .ok (.iaload, 1) := by decide +kernel
theorem d_L_law_377 : decode code 377 = .ok (.invokevirtual 60, 3) := by decide +kernel
theorem d_L_law_380 : decode code 380 = .ok (.aload_n 2, 1) := by decide +kernel
theorem d_L_law_381 : decode code 381 = .ok (.aload_n 0, 1) := by decide +kernel
theorem d_L_law_382 : decode code 382 = .ok (.iload_n 3, 1) := by decide +kernel
theorem d_L_law_383 : decode code 383 = .ok (.iconst 1, 1) := by decide +kernel
theorem d_L_law_384 : decode code 384 = .ok (.iadd, 1) := by decide +kernel
theorem d_L_law_385 : decode code 385 = .ok (.iaload, 1) := by decide +kernel
theorem d_L_law_386 : decode code 386 = .ok (.invokevirtual 64, 3) := by decide +kernel
theorem d_L_law_389 : decode code 389 = .ok (.if_icmp .eq 113, 3) := by decide +kernel
theorem d_L_law_392 : decode code 392 = .ok (.iconst 0, 1) := by decide +kernel
theorem d_L_law_393 : decode code 393 = .ok (.ireturn, 1) := by decide +kernel
theorem d_L_law_394 : decode code 394 = .ok (.aload_n 1, 1) := by decide +kernel
theorem d_L_law_395 : decode code 395 = .ok (.invokevirtual 65, 3) := by decide +kernel
theorem d_L_law_398 : decode code 398 = .ok (.aload_n 2, 1) := by decide +kernel
theorem d_L_law_399 : decode code 399 = .ok (.invokevirtual 69, 3) := by decide +kernel
theorem d_L_law_402 : decode code 402 = .ok (.if_icmp .eq 100, 3) := by decide +kernel
theorem d_L_law_405 : decode code 405 = .ok (.iconst 0, 1) := by decide +kernel
theorem d_L_law_406 : decode code 406 = .ok (.ireturn, 1) := by decide +kernel
theorem d_L_law_407 : decode code 407 = .ok (.aload_n 1, 1) := by decide +kernel
theorem d_L_law_408 : decode code 408 = .ok (.invokevirtual 70, 3) := by decide +kernel
theorem d_L_law_411 : decode code 411 = .ok (.aload_n 2, 1) := by decide +kernel
theorem d_L_law_412 : decode code 412 = .ok (.invokevirtual 73, 3) := by decide +kernel
theorem d_L_law_415 : decode code 415 = .ok (.if_icmp .eq 87, 3) := by decide +kernel
theorem d_L_law_418 : decode code 418 = .ok (.iconst 0, 1) := by decide +kernel
theorem d_L_law_419 : decode code 419 = .ok (.ireturn, 1) := by decide +kernel
theorem d_L_law_420 : decode code 420 = .ok (.aload_n 1, 1) := by decide +kernel
theorem d_L_law_421 : decode code 421 = .ok (.invokevirtual 74, 3) := by decide +kernel
theorem d_L_law_424 : decode code 424 = .ok (.aload_n 2, 1) := by decide +kernel
theorem d_L_law_425 : decode code 425 = .ok (.invokevirtual 77, 3) := by decide +kernel
theorem d_L_law_428 : decode code 428 = .ok (.if_icmp .eq 74, 3) := by decide +kernel
theorem d_L_law_431 : decode code 431 = .ok (.iconst 0, 1) := by decide +kernel
theorem d_L_law_432 : decode code 432 = .ok (.ireturn, 1) := by decide +kernel
theorem d_L_law_433 : decode code 433 = .ok (.aload_n 1, 1) := by decide +kernel
theorem d_L_law_434 : decode code 434 = .ok (.aload_n 0, 1) := by decide +kernel
theorem d_L_law_435 : decode code 435 = .ok (.iload_n 3, 1) := by decide +kernel
theorem d_L_law_436 : decode code 436 = .ok (.iconst 1, 1) := by decide +kernel
theorem d_L_law_437 : decode code 437 = .ok (.iadd, 1) := by decide +kernel
theorem d_L_law_438 : decode code 438 = .ok (.iaload, 1) := by decide +kernel
theorem d_L_law_439 : decode code 439 = .ok (.invokevirtual 78, 3) := by decide +kernel
theorem d_L_law_442 : decode code 442 = .ok (.aload_n 2, 1) := by decide +kernel
theorem d_L_law_443 : decode code 443 = .ok (.aload_n 0, 1) := by decide +kernel
theorem d_L_law_444 : decode code 444 = .ok (.iload_n 3, 1) := by decide +kernel
theorem d_L_law_445 : decode code 445 = .ok (.iconst 1, 1) := by decide +kernel
theorem d_L_law_446 : decode code 446 = .ok (.iadd, 1) := by decide +kernel
theorem d_L_law_447 : decode code 447 = .ok (.iaload, 1) := by decide +kernel
theorem d_L_law_448 : decode code 448 = .ok (.invokevirtual 81, 3) := by decide +kernel
theorem d_L_law_451 : decode code 451 = .ok (.if_icmp .eq 51, 3) := by decide +kernel
theorem d_L_law_454 : decode code 454 = .ok (.iconst 0, 1) := by decide +kernel
theorem d_L_law_455 : decode code 455 = .ok (.ireturn, 1) := by decide +kernel
theorem d_L_law_456 : decode code 456 = .ok (.aload_n 1, 1) := by decide +kernel
theorem d_L_law_457 : decode code 457 = .ok (.aload_n 0, 1) := by decide +kernel
theorem d_L_law_458 : decode code 458 = .ok (.iload_n 3, 1) := by decide +kernel
theorem d_L_law_459 : decode code 459 = .ok (.iconst 1, 1) := by decide +kernel
theorem d_L_law_460 : decode code 460 = .ok (.iadd, 1) := by decide +kernel
theorem d_L_law_461 : decode code 461 = .ok (.iaload, 1) := by decide +kernel
theorem d_L_law_462 : decode code 462 = .ok (.invokevirtual 82, 3) := by decide +kernel
theorem d_L_law_465 : decode code 465 = .ok (.aload_n 2, 1) := by decide +kernel
theorem d_L_law_466 : decode code 466 = .ok (.aload_n 0, 1) := by decide +kernel
theorem d_L_law_467 : decode code 467 = .ok (.iload_n 3, 1) := by decide +kernel
theorem d_L_law_468 : decode code 468 = .ok (.iconst 1, 1) := by decide +kernel
theorem d_L_law_469 : decode code 469 = .ok (.iadd, 1) := by decide +kernel
theorem d_L_law_470 : decode code 470 = .ok (.iaload, 1) := by decide +kernel
theorem d_L_law_471 : decode code 471 = .ok (.invokevirtual 85, 3) := by decide +kernel
theorem d_L_law_474 : decode code 474 = .ok (.if_icmp .eq 28, 3) := by decide +kernel
theorem d_L_law_477 : decode code 477 = .ok (.iconst 0, 1) := by decide +kernel
theorem d_L_law_478 : decode code 478 = .ok (.ireturn, 1) := by decide +kernel
theorem d_L_law_479 : decode code 479 = .ok (.aload_n 1, 1) := by decide +kernel
theorem d_L_law_480 : decode code 480 = .ok (.aload_n 0, 1) := by decide +kernel
theorem d_L_law_481 : decode code 481 = .ok (.iload_n 3, 1) := by decide +kernel
theorem d_L_law_482 : decode code 482 = .ok (.iconst 1, 1) := by decide +kernel
theorem d_L_law_483 : decode code 483 = .ok (.iadd, 1) := by decide +kernel
theorem d_L_law_484 : decode code 484 = .ok (.iaload, 1) := by decide +kernel
theorem d_L_law_485 : decode code 485 = .ok (.invokevirtual 86, 3) := by decide +kernel
theorem d_L_law_488 : decode code 488 = .ok (.aload_n 2, 1) := by decide +kernel
theorem d_L_law_489 : decode code 489 = .ok (.aload_n 0, 1) := by decide +kernel
theorem d_L_law_490 : decode code 490 = .ok (.iload_n 3, 1) := by decide +kernel
theorem d_L_law_491 : decode code 491 = .ok (.iconst 1, 1) := by decide +kernel
theorem d_L_law_492 : decode code 492 = .ok (.iadd, 1) := by decide +kernel
theorem d_L_law_493 : decode code 493 = .ok (.iaload, 1) := by decide +kernel
theorem d_L_law_494 : decode code 494 = .ok (.invokevirtual 89, 3) := by decide +kernel
theorem d_L_law_497 : decode code 497 = .ok (.if_icmp .eq 5, 3) := by decide +kernel
theorem d_L_law_500 : decode code 500 = .ok (.iconst 0, 1) := by decide +kernel
theorem d_L_law_501 : decode code 501 = .ok (.ireturn, 1) := by decide +kernel
theorem d_L_law_502 : decode code 502 = .ok (.iinc 3 6, 3) := by decide +kernel
theorem d_L_law_505 : decode code 505 = .ok (.goto (-477), 3) := by decide +kernel
theorem d_L_law_508 : decode code 508 = .ok (.iconst 1, 1) := by decide +kernel
theorem d_L_law_509 : decode code 509 = .ok (.ireturn, 1) := by decide +kernel
