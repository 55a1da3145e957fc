/-! THE CLAIM OUT OF ONE WALK OF THE LAW'S BODY. Your part is whole_start (and what it stands on); all else here is the same for every law, but numbers. -/
def R_law : String := "RealSolverLaw"
def lw_P (b : Addr) (xs : List Int32) (args : Array Value) (s : State) : Prop := args = #[.ref b] ∧ s.IntsAt b xs ∧ xs.length ≤ 6 ∧ (Jvm.Cond.and given_1 narrow_1).before args s = true
def lw_Q (_ : Array Value) (s : State) (o : Outcome) (t : State) : Prop := o = .returned (some (.int 1)) ∧ Framed s o t [] 157632 8629354
def lw_Z (below : List Frame) (a : Array Value) (s : State) : State → Prop := fun t => ∃ o, t.status = .running ∧ Ended t below o ∧ lw_Q a s o t
/-- the law's own end, with 1 on the stack, nothing written that was there before, its room as the claim has it -/
theorem lw_ret {p : Program} {l : Launch} {e : Env} {s : State} {m : MethodId} {below : List Frame} {meth : Method} {c : Code} {b : Nat} (hx : p.tables.exec = Jvm.exec) (hb : c.code = code) (hr : meth.sig.returnType = ret) (hlocks : meth.locks = false) {pc : Nat} {H : Heap} {ls : Array Slot} (hdg : decode code pc = .ok (.ireturn, 1)) : W p l e room_1 s m #[Value.ref b] below meth c H [] 157632 8629354 (lw_Z below #[Value.ref b] s) (F0 m pc ls [.int 1]) := by
  intro T hT X
  obtain ⟨fs, hret, hrun, hended, hW, hframe⟩ := X.leave (v := some (.int 1)) (hlocks := hlocks) (fun h => by rw [hr] at h; cases h)
  have hmeth' : T.vm.method? m = some meth := X.method'
  refine ⟨T.setFrames fs, ?_, .returned (some (.int 1)), hrun, hended, rfl, ⟨_, rfl⟩, hW, hframe⟩
  jvm_step X.here [X.here.top, hx, hb, hdg, hmeth', hr, ret, narrow_b1]
  (try refine ⟨rfl, ?_⟩); (try refine ⟨rfl, ?_⟩)
  first | (intro acts; rw [hret _ acts rfl rfl rfl]) | rw [hret _ _ rfl rfl rfl]
  exact Steps.refl _
/-- what holds at the law's entry: the machine, the code, the tables' words (any of lw_tbl by 'hts w (by decide +kernel)'), the script of L ints xs at the cell b, what the Statement gives of the start (any of its parts by flat_of_before) -/
def lw_At (p : Program) (s : State) (m : MethodId) (meth : Method) (c : Code) (b L : Nat) (xs : Nat → Int32) : Prop :=
  p.tables.exec = Jvm.exec ∧ c.code = code ∧ meth.sig.returnType = ret ∧ c.maxLocals = 4 ∧ s.vm.findClass R_law = some m.cls ∧ (∀ w ∈ lw_tbl, w.before #[Value.ref b] s = true) ∧ va_X b L xs s s.heap ∧ b < s.heap.size ∧ meth.locks = false ∧ (Jvm.Cond.and given_1 narrow_1).before #[Value.ref b] s = true
abbrev RL : String := "RealSolverLaw"
theorem dL_law_0 : decode code 0 = .ok (.new 7, 3) := by decide +kernel
theorem dL_law_3 : decode code 3 = .ok (.dup, 1) := by decide +kernel
theorem dL_law_4 : decode code 4 = .ok (.invokespecial 9, 3) := by decide +kernel
theorem dL_law_7 : decode code 7 = .ok (.astore_n 1, 1) := by decide +kernel
theorem dL_law_8 : decode code 8 = .ok (.new 10, 3) := by decide +kernel
theorem dL_law_11 : decode code 11 = .ok (.dup, 1) := by decide +kernel
theorem dL_law_12 : decode code 12 = .ok (.invokespecial 12, 3) := by decide +kernel
theorem dL_law_15 : decode code 15 = .ok (.astore_n 2, 1) := by decide +kernel
theorem dL_law_16 : decode code 16 = .ok (.iconst 0, 1) := by decide +kernel
theorem dL_law_17 : decode code 17 = .ok (.istore_n 3, 1) := by decide +kernel
theorem dL_law_18 : decode code 18 = .ok (.iload_n 3, 1) := by decide +kernel
theorem dL_law_19 : decode code 19 = .ok (.aload_n 0, 1) := by decide +kernel
theorem dL_law_20 : decode code 20 = .ok (.arraylength, 1) := by decide +kernel
theorem dL_law_21 : decode code 21 = .ok (.bipush 6, 2) := by decide +kernel
theorem dL_law_23 : decode code 23 = .ok (.isub, 1) := by decide +kernel
theorem dL_law_24 : decode code 24 = .ok (.if_icmp .gt 675, 3) := by decide +kernel
theorem dL_law_27 : decode code 27 = .ok (.aload_n 0, 1) := by decide +kernel
theorem dL_law_28 : decode code 28 = .ok (.iload_n 3, 1) := by decide +kernel
theorem dL_law_29 : decode code 29 = .ok (.iaload, 1) := by decide +kernel
theorem dL_law_30 : decode code 30 = .ok (.bipush 31, 2) := by decide +kernel
theorem dL_law_32 : decode code 32 = .ok (.iand, 1) := by decide +kernel
theorem dL_law_33 : decode code 33 = .ok (.tableswitch 660 0 24 #[115, 138, 201, 224, 237, 250, 263, 286, 299, 322, 335, 348, 361, 384, 407, 420, 443, 476, 519, 562, 575, 598, 611, 634, 647], 115) := by decide +kernel
theorem dL_law_148 : decode code 148 = .ok (.aload_n 1, 1) := by decide +kernel
theorem dL_law_149 : decode code 149 = .ok (.aload_n 0, 1) := by decide +kernel
theorem dL_law_150 : decode code 150 = .ok (.iload_n 3, 1) := by decide +kernel
theorem dL_law_151 : decode code 151 = .ok (.iconst 1, 1) := by decide +kernel
theorem dL_law_152 : decode code 152 = .ok (.iadd, 1) := by decide +kernel
theorem dL_law_153 : decode code 153 = .ok (.iaload, 1) := by decide +kernel
theorem dL_law_154 : decode code 154 = .ok (.invokevirtual 13, 3) := by decide +kernel
theorem dL_law_157 : decode code 157 = .ok (.aload_n 2, 1) := by decide +kernel
theorem dL_law_158 : decode code 158 = .ok (.aload_n 0, 1) := by decide +kernel
theorem dL_law_159 : decode code 159 = .ok (.iload_n 3, 1) := by decide +kernel
theorem dL_law_160 : decode code 160 = .ok (.iconst 1, 1) := by decide +kernel
theorem dL_law_161 : decode code 161 = .ok (.iadd, 1) := by decide +kernel
theorem dL_law_162 : decode code 162 = .ok (.iaload, 1) := by decide +kernel
theorem dL_law_163 : decode code 163 = .ok (.invokevirtual 17, 3) := by decide +kernel
theorem dL_law_166 : decode code 166 = .ok (.if_icmp .eq 527, 3) := by decide +kernel
theorem dL_law_171 : decode code 171 = .ok (.aload_n 1, 1) := by decide +kernel
theorem dL_law_172 : decode code 172 = .ok (.aload_n 0, 1) := by decide +kernel
theorem dL_law_173 : decode code 173 = .ok (.iload_n 3, 1) := by decide +kernel
theorem dL_law_174 : decode code 174 = .ok (.iconst 1, 1) := by decide +kernel
theorem dL_law_175 : decode code 175 = .ok (.iadd, 1) := by decide +kernel
theorem dL_law_176 : decode code 176 = .ok (.iaload, 1) := by decide +kernel
theorem dL_law_177 : decode code 177 = .ok (.aload_n 0, 1) := by decide +kernel
theorem dL_law_178 : decode code 178 = .ok (.iload_n 3, 1) := by decide +kernel
theorem dL_law_179 : decode code 179 = .ok (.iconst 2, 1) := by decide +kernel
theorem dL_law_180 : decode code 180 = .ok (.iadd, 1) := by decide +kernel
theorem dL_law_181 : decode code 181 = .ok (.iaload, 1) := by decide +kernel
theorem dL_law_182 : decode code 182 = .ok (.aload_n 0, 1) := by decide +kernel
theorem dL_law_183 : decode code 183 = .ok (.iload_n 3, 1) := by decide +kernel
theorem dL_law_184 : decode code 184 = .ok (.iconst 3, 1) := by decide +kernel
theorem dL_law_185 : decode code 185 = .ok (.iadd, 1) := by decide +kernel
theorem dL_law_186 : decode code 186 = .ok (.iaload, 1) := by decide +kernel
theorem dL_law_187 : decode code 187 = .ok (.aload_n 0, 1) := by decide +kernel
theorem dL_law_188 : decode code 188 = .ok (.iload_n 3, 1) := by decide +kernel
theorem dL_law_189 : decode code 189 = .ok (.iconst 4, 1) := by decide +kernel
theorem dL_law_190 : decode code 190 = .ok (.iadd, 1) := by decide +kernel
theorem dL_law_191 : decode code 191 = .ok (.iaload, 1) := by decide +kernel
theorem dL_law_192 : decode code 192 = .ok (.aload_n 0, 1) := by decide +kernel
theorem dL_law_193 : decode code 193 = .ok (.iload_n 3, 1) := by decide +kernel
theorem dL_law_194 : decode code 194 = .ok (.iconst 5, 1) := by decide +kernel
theorem dL_law_195 : decode code 195 = .ok (.iadd, 1) := by decide +kernel
theorem dL_law_196 : decode code 196 = .ok (.iaload, 1) := by decide +kernel
theorem dL_law_197 : decode code 197 = .ok (.invokevirtual 18, 3) := by decide +kernel
theorem dL_law_200 : decode code 200 = .ok (.aload_n 2, 1) := by decide +kernel
theorem dL_law_201 : decode code 201 = .ok (.aload_n 0, 1) := by decide +kernel
theorem dL_law_202 : decode code 202 = .ok (.iload_n 3, 1) := by decide +kernel
theorem dL_law_203 : decode code 203 = .ok (.iconst 1, 1) := by decide +kernel
theorem dL_law_204 : decode code 204 = .ok (.iadd, 1) := by decide +kernel
theorem dL_law_205 : decode code 205 = .ok (.iaload, 1) := by decide +kernel
theorem dL_law_206 : decode code 206 = .ok (.aload_n 0, 1) := by decide +kernel
theorem dL_law_207 : decode code 207 = .ok (.iload_n 3, 1) := by decide +kernel
theorem dL_law_208 : decode code 208 = .ok (.iconst 2, 1) := by decide +kernel
theorem dL_law_209 : decode code 209 = .ok (.iadd, 1) := by decide +kernel
theorem dL_law_210 : decode code 210 = .ok (.iaload, 1) := by decide +kernel
theorem dL_law_211 : decode code 211 = .ok (.aload_n 0, 1) := by decide +kernel
theorem dL_law_212 : decode code 212 = .ok (.iload_n 3, 1) := by decide +kernel
theorem dL_law_213 : decode code 213 = .ok (.iconst 3, 1) := by decide +kernel
theorem dL_law_214 : decode code 214 = .ok (.iadd, 1) := by decide +kernel
theorem dL_law_215 : decode code 215 = .ok (.iaload, 1) := by decide +kernel
theorem dL_law_216 : decode code 216 = .ok (.aload_n 0, 1) := by decide +kernel
theorem dL_law_217 : decode code 217 = .ok (.iload_n 3, 1) := by decide +kernel
theorem dL_law_218 : decode code 218 = .ok (.iconst 4, 1) := by decide +kernel
theorem dL_law_219 : decode code 219 = .ok (.iadd, 1) := by decide +kernel
theorem dL_law_220 : decode code 220 = .ok (.iaload, 1) := by decide +kernel
theorem dL_law_221 : decode code 221 = .ok (.aload_n 0, 1) := by decide +kernel
theorem dL_law_222 : decode code 222 = .ok (.iload_n 3, 1) := by decide +kernel
theorem dL_law_223 : decode code 223 = .ok (.iconst 5, 1) := by decide +kernel
theorem dL_law_224 : decode code 224 = .ok (.iadd, 1) := by decide +kernel
theorem dL_law_225 : decode code 225 = .ok (.iaload, 1) := by decide +kernel
theorem dL_law_226 : decode code 226 = .ok (.invokevirtual 22, 3) := by decide +kernel
theorem dL_law_229 : decode code 229 = .ok (.if_icmp .eq 464, 3) := by decide +kernel
theorem dL_law_234 : decode code 234 = .ok (.aload_n 1, 1) := by decide +kernel
theorem dL_law_235 : decode code 235 = .ok (.aload_n 0, 1) := by decide +kernel
theorem dL_law_236 : decode code 236 = .ok (.iload_n 3, 1) := by decide +kernel
theorem dL_law_237 : decode code 237 = .ok (.iconst 1, 1) := by decide +kernel
theorem dL_law_238 : decode code 238 = .ok (.iadd, 1) := by decide +kernel
theorem dL_law_239 : decode code 239 = .ok (.iaload, 1) := by decide +kernel
theorem dL_law_240 : decode code 240 = .ok (.invokevirtual 23, 3) := by decide +kernel
theorem dL_law_243 : decode code 243 = .ok (.aload_n 2, 1) := by decide +kernel
theorem dL_law_244 : decode code 244 = .ok (.aload_n 0, 1) := by decide +kernel
theorem dL_law_245 : decode code 245 = .ok (.iload_n 3, 1) := by decide +kernel
theorem dL_law_246 : decode code 246 = .ok (.iconst 1, 1) := by decide +kernel
theorem dL_law_247 : decode code 247 = .ok (.iadd, 1) := by decide +kernel
theorem dL_law_248 : decode code 248 = .ok (.iaload, 1) := by decide +kernel
theorem dL_law_249 : decode code 249 = .ok (.invokevirtual 26, 3) := by decide +kernel
theorem dL_law_252 : decode code 252 = .ok (.if_icmp .eq 441, 3) := by decide +kernel
theorem dL_law_257 : decode code 257 = .ok (.aload_n 1, 1) := by decide +kernel
theorem dL_law_258 : decode code 258 = .ok (.invokevirtual 27, 3) := by decide +kernel
theorem dL_law_261 : decode code 261 = .ok (.aload_n 2, 1) := by decide +kernel
theorem dL_law_262 : decode code 262 = .ok (.invokevirtual 31, 3) := by decide +kernel
theorem dL_law_265 : decode code 265 = .ok (.if_icmp .eq 428, 3) := by decide +kernel
theorem dL_law_270 : decode code 270 = .ok (.aload_n 1, 1) := by decide +kernel
theorem dL_law_271 : decode code 271 = .ok (.invokevirtual 32, 3) := by decide +kernel
theorem dL_law_274 : decode code 274 = .ok (.aload_n 2, 1) := by decide +kernel
theorem dL_law_275 : decode code 275 = .ok (.invokevirtual 35, 3) := by decide +kernel
theorem dL_law_278 : decode code 278 = .ok (.if_icmp .eq 415, 3) := by decide +kernel
theorem dL_law_283 : decode code 283 = .ok (.aload_n 1, 1) := by decide +kernel
theorem dL_law_284 : decode code 284 = .ok (.invokevirtual 36, 3) := by decide +kernel
theorem dL_law_287 : decode code 287 = .ok (.aload_n 2, 1) := by decide +kernel
theorem dL_law_288 : decode code 288 = .ok (.invokevirtual 39, 3) := by decide +kernel
theorem dL_law_291 : decode code 291 = .ok (.if_icmp .eq 402, 3) := by decide +kernel
theorem dL_law_296 : decode code 296 = .ok (.aload_n 1, 1) := by decide +kernel
theorem dL_law_297 : decode code 297 = .ok (.aload_n 0, 1) := by decide +kernel
theorem dL_law_298 : decode code 298 = .ok (.iload_n 3, 1) := by decide +kernel
theorem dL_law_299 : decode code 299 = .ok (.iconst 1, 1) := by decide +kernel
theorem dL_law_300 : decode code 300 = .ok (.iadd, 1) := by decide +kernel
theorem dL_law_301 : decode code 301 = .ok (.iaload, 1) := by decide +kernel
theorem dL_law_302 : decode code 302 = .ok (.invokevirtual 40, 3) := by decide +kernel
theorem dL_law_305 : decode code 305 = .ok (.aload_n 2, 1) := by decide +kernel
theorem dL_law_306 : decode code 306 = .ok (.aload_n 0, 1) := by decide +kernel
theorem dL_law_307 : decode code 307 = .ok (.iload_n 3, 1) := by decide +kernel
theorem dL_law_308 : decode code 308 = .ok (.iconst 1, 1) := by decide +kernel
theorem dL_law_309 : decode code 309 = .ok (.iadd, 1) := by decide +kernel
theorem dL_law_310 : decode code 310 = .ok (.iaload, 1) := by decide +kernel
theorem dL_law_311 : decode code 311 = .ok (.invokevirtual 43, 3) := by decide +kernel
theorem dL_law_314 : decode code 314 = .ok (.if_icmp .eq 379, 3) := by decide +kernel
theorem dL_law_319 : decode code 319 = .ok (.aload_n 1, 1) := by decide +kernel
theorem dL_law_320 : decode code 320 = .ok (.invokevirtual 44, 3) := by decide +kernel
theorem dL_law_323 : decode code 323 = .ok (.aload_n 2, 1) := by decide +kernel
theorem dL_law_324 : decode code 324 = .ok (.invokevirtual 47, 3) := by decide +kernel
theorem dL_law_327 : decode code 327 = .ok (.if_icmp .eq 366, 3) := by decide +kernel
theorem dL_law_332 : decode code 332 = .ok (.aload_n 1, 1) := by decide +kernel
theorem dL_law_333 : decode code 333 = .ok (.aload_n 0, 1) := by decide +kernel
theorem dL_law_334 : decode code 334 = .ok (.iload_n 3, 1) := by decide +kernel
theorem dL_law_335 : decode code 335 = .ok (.iconst 1, 1) := by decide +kernel
theorem dL_law_336 : decode code 336 = .ok (.iadd, 1) := by decide +kernel
theorem dL_law_337 : decode code 337 = .ok (.iaload, 1) := by decide +kernel
theorem dL_law_338 : decode code 338 = .ok (.invokevirtual 48, 3) := by decide +kernel
theorem dL_law_341 : decode code 341 = .ok (.aload_n 2, 1) := by decide +kernel
theorem dL_law_342 : decode code 342 = .ok (.aload_n 0, 1) := by decide +kernel
theorem dL_law_343 : decode code 343 = .ok (.iload_n 3, 1) := by decide +kernel
theorem dL_law_344 : decode code 344 = .ok (.iconst 1, 1) := by decide +kernel
theorem dL_law_345 : decode code 345 = .ok (.iadd, 1) := by decide +kernel
theorem dL_law_346 : decode code 346 = .ok (.iaload, 1) := by decide +kernel
theorem dL_law_347 : decode code 347 = .ok (.invokevirtual 51, 3) := by decide +kernel
theorem dL_law_350 : decode code 350 = .ok (.if_icmp .eq 343, 3) := by decide +kernel
theorem dL_law_355 : decode code 355 = .ok (.aload_n 1, 1) := by decide +kernel
theorem dL_law_356 : decode code 356 = .ok (.invokevirtual 52, 3) := by decide +kernel
theorem dL_law_359 : decode code 359 = .ok (.aload_n 2, 1) := by decide +kernel
theorem dL_law_360 : decode code 360 = .ok (.invokevirtual 55, 3) := by decide +kernel
theorem dL_law_363 : decode code 363 = .ok (.if_icmp .eq 330, 3) := by decide +kernel
theorem dL_law_368 : decode code 368 = .ok (.aload_n 1, 1) := by decide +kernel
theorem dL_law_369 : decode code 369 = .ok (.invokevirtual 56, 3) := by decide +kernel
theorem dL_law_372 : decode code 372 = .ok (.aload_n 2, 1) := by decide +kernel
theorem dL_law_373 : decode code 373 = .ok (.invokevirtual 59, 3) := by decide +kernel
theorem dL_law_376 : decode code 376 = .ok (.if_icmp .eq 317, 3) := by decide +kernel
theorem dL_law_381 : decode code 381 = .ok (.aload_n 1, 1) := by decide +kernel
theorem dL_law_382 : decode code 382 = .ok (.invokevirtual 60, 3) := by decide +kernel
theorem dL_law_385 : decode code 385 = .ok (.aload_n 2, 1) := by decide +kernel
theorem dL_law_386 : decode code 386 = .ok (.invokevirtual 63, 3) := by decide +kernel
theorem dL_law_389 : decode code 389 = .ok (.if_icmp .eq 304, 3) := by decide +kernel
theorem dL_law_394 : decode code 394 = .ok (.aload_n 1, 1) := by decide +kernel
theorem dL_law_395 : decode code 395 = .ok (.aload_n 0, 1) := by decide +kernel
theorem dL_law_396 : decode code 396 = .ok (.iload_n 3, 1) := by decide +kernel
theorem dL_law_397 : decode code 397 = .ok (.iconst 1, 1) := by decide +kernel
theorem dL_law_398 : decode code 398 = .ok (.iadd, 1) := by decide +kernel
theorem dL_law_399 : decode code 399 = .ok (.iaload, 1) := by decide +kernel
theorem dL_law_400 : decode code 400 = .ok (.invokevirtual 64, 3) := by decide +kernel
theorem dL_law_403 : decode code 403 = .ok (.aload_n 2, 1) := by decide +kernel
theorem dL_law_404 : decode code 404 = .ok (.aload_n 0, 1) := by decide +kernel
theorem dL_law_405 : decode code 405 = .ok (.iload_n 3, 1) := by decide +kernel
theorem dL_law_406 : decode code 406 = .ok (.iconst 1, 1) := by decide +kernel
theorem dL_law_407 : decode code 407 = .ok (.iadd, 1) := by decide +kernel
theorem dL_law_408 : decode code 408 = .ok (.iaload, 1) := by decide +kernel
theorem dL_law_409 : decode code 409 = .ok (.invokevirtual 67, 3) := by decide +kernel
theorem dL_law_412 : decode code 412 = .ok (.if_icmp .eq 281, 3) := by decide +kernel
theorem dL_law_417 : decode code 417 = .ok (.aload_n 1, 1) := by decide +kernel
theorem dL_law_418 : decode code 418 = .ok (.aload_n 0, 1) := by decide +kernel
theorem dL_law_419 : decode code 419 = .ok (.iload_n 3, 1) := by decide +kernel
theorem dL_law_420 : decode code 420 = .ok (.iconst 1, 1) := by decide +kernel
theorem dL_law_421 : decode code 421 = .ok (.iadd, 1) := by decide +kernel
theorem dL_law_422 : decode code 422 = .ok (.iaload, 1) := by decide +kernel
theorem dL_law_423 : decode code 423 = .ok (.invokevirtual 68, 3) := by decide +kernel
theorem dL_law_426 : decode code 426 = .ok (.aload_n 2, 1) := by decide +kernel
theorem dL_law_427 : decode code 427 = .ok (.aload_n 0, 1) := by decide +kernel
theorem dL_law_428 : decode code 428 = .ok (.iload_n 3, 1) := by decide +kernel
theorem dL_law_429 : decode code 429 = .ok (.iconst 1, 1) := by decide +kernel
theorem dL_law_430 : decode code 430 = .ok (.iadd, 1) := by decide +kernel
theorem dL_law_431 : decode code 431 = .ok (.iaload, 1) := by decide +kernel
theorem dL_law_432 : decode code 432 = .ok (.invokevirtual 71, 3) := by decide +kernel
theorem dL_law_435 : decode code 435 = .ok (.if_icmp .eq 258, 3) := by decide +kernel
theorem dL_law_440 : decode code 440 = .ok (.aload_n 1, 1) := by decide +kernel
theorem dL_law_441 : decode code 441 = .ok (.invokevirtual 72, 3) := by decide +kernel
theorem dL_law_444 : decode code 444 = .ok (.aload_n 2, 1) := by decide +kernel
theorem dL_law_445 : decode code 445 = .ok (.invokevirtual 75, 3) := by decide +kernel
theorem dL_law_448 : decode code 448 = .ok (.if_icmp .eq 245, 3) := by decide +kernel
theorem dL_law_453 : decode code 453 = .ok (.aload_n 1, 1) := by decide +kernel
theorem dL_law_454 : decode code 454 = .ok (.aload_n 0, 1) := by decide +kernel
theorem dL_law_455 : decode code 455 = .ok (.iload_n 3, 1) := by decide +kernel
theorem dL_law_456 : decode code 456 = .ok (.iconst 1, 1) := by decide +kernel
theorem dL_law_457 : decode code 457 = .ok (.iadd, 1) := by decide +kernel
theorem dL_law_458 : decode code 458 = .ok (.iaload, 1) := by decide +kernel
theorem dL_law_459 : decode code 459 = .ok (.invokevirtual 76, 3) := by decide +kernel
theorem dL_law_462 : decode code 462 = .ok (.aload_n 2, 1) := by decide +kernel
theorem dL_law_463 : decode code 463 = .ok (.aload_n 0, 1) := by decide +kernel
theorem dL_law_464 : decode code 464 = .ok (.iload_n 3, 1) := by decide +kernel
theorem dL_law_465 : decode code 465 = .ok (.iconst 1, 1) := by decide +kernel
theorem dL_law_466 : decode code 466 = .ok (.iadd, 1) := by decide +kernel
theorem dL_law_467 : decode code 467 = .ok (.iaload, 1) := by decide +kernel
theorem dL_law_468 : decode code 468 = .ok (.invokevirtual 79, 3) := by decide +kernel
theorem dL_law_471 : decode code 471 = .ok (.if_icmp .eq 222, 3) := by decide +kernel
theorem dL_law_476 : decode code 476 = .ok (.aload_n 1, 1) := by decide +kernel
theorem dL_law_477 : decode code 477 = .ok (.aload_n 0, 1) := by decide +kernel
theorem dL_law_478 : decode code 478 = .ok (.iload_n 3, 1) := by decide +kernel
theorem dL_law_479 : decode code 479 = .ok (.iconst 1, 1) := by decide +kernel
theorem dL_law_480 : decode code 480 = .ok (.iadd, 1) := by decide +kernel
theorem dL_law_481 : decode code 481 = .ok (.iaload, 1) := by decide +kernel
theorem dL_law_482 : decode code 482 = .ok (.aload_n 0, 1) := by decide +kernel
theorem dL_law_483 : decode code 483 = .ok (.iload_n 3, 1) := by decide +kernel
theorem dL_law_484 : decode code 484 = .ok (.iconst 2, 1) := by decide +kernel
theorem dL_law_485 : decode code 485 = .ok (.iadd, 1) := by decide +kernel
theorem dL_law_486 : decode code 486 = .ok (.iaload, 1) := by decide +kernel
theorem dL_law_487 : decode code 487 = .ok (.invokevirtual 80, 3) := by decide +kernel
theorem dL_law_490 : decode code 490 = .ok (.aload_n 2, 1) := by decide +kernel
theorem dL_law_491 : decode code 491 = .ok (.aload_n 0, 1) := by decide +kernel
theorem dL_law_492 : decode code 492 = .ok (.iload_n 3, 1) := by decide +kernel
theorem dL_law_493 : decode code 493 = .ok (.iconst 1, 1) := by decide +kernel
theorem dL_law_494 : decode code 494 = .ok (.iadd, 1) := by decide +kernel
theorem dL_law_495 : decode code 495 = .ok (.iaload, 1) := by decide +kernel
theorem dL_law_496 : decode code 496 = .ok (.aload_n 0, 1) := by decide +kernel
theorem dL_law_497 : decode code 497 = .ok (.iload_n 3, 1) := by decide +kernel
theorem dL_law_498 : decode code 498 = .ok (.iconst 2, 1) := by decide +kernel
theorem dL_law_499 : decode code 499 = .ok (.iadd, 1) := by decide +kernel
theorem dL_law_500 : decode code 500 = .ok (.iaload, 1) := by decide +kernel
theorem dL_law_501 : decode code 501 = .ok (.invokevirtual 84, 3) := by decide +kernel
theorem dL_law_504 : decode code 504 = .ok (.if_icmp .eq 189, 3) := by decide +kernel
theorem dL_law_509 : decode code 509 = .ok (.aload_n 1, 1) := by decide +kernel
theorem dL_law_510 : decode code 510 = .ok (.aload_n 0, 1) := by decide +kernel
theorem dL_law_511 : decode code 511 = .ok (.iload_n 3, 1) := by decide +kernel
theorem dL_law_512 : decode code 512 = .ok (.iconst 1, 1) := by decide +kernel
theorem dL_law_513 : decode code 513 = .ok (.iadd, 1) := by decide +kernel
theorem dL_law_514 : decode code 514 = .ok (.iaload, 1) := by decide +kernel
theorem dL_law_515 : decode code 515 = .ok (.aload_n 0, 1) := by decide +kernel
theorem dL_law_516 : decode code 516 = .ok (.iload_n 3, 1) := by decide +kernel
theorem dL_law_517 : decode code 517 = .ok (.iconst 2, 1) := by decide +kernel
theorem dL_law_518 : decode code 518 = .ok (.iadd, 1) := by decide +kernel
theorem dL_law_519 : decode code 519 = .ok (.iaload, 1) := by decide +kernel
theorem dL_law_520 : decode code 520 = .ok (.aload_n 0, 1) := by decide +kernel
theorem dL_law_521 : decode code 521 = .ok (.iload_n 3, 1) := by decide +kernel
theorem dL_law_522 : decode code 522 = .ok (.iconst 3, 1) := by decide +kernel
theorem dL_law_523 : decode code 523 = .ok (.iadd, 1) := by decide +kernel
theorem dL_law_524 : decode code 524 = .ok (.iaload, 1) := by decide +kernel
theorem dL_law_525 : decode code 525 = .ok (.invokevirtual 85, 3) := by decide +kernel
theorem dL_law_528 : decode code 528 = .ok (.aload_n 2, 1) := by decide +kernel
theorem dL_law_529 : decode code 529 = .ok (.aload_n 0, 1) := by decide +kernel
theorem dL_law_530 : decode code 530 = .ok (.iload_n 3, 1) := by decide +kernel
theorem dL_law_531 : decode code 531 = .ok (.iconst 1, 1) := by decide +kernel
theorem dL_law_532 : decode code 532 = .ok (.iadd, 1) := by decide +kernel
theorem dL_law_533 : decode code 533 = .ok (.iaload, 1) := by decide +kernel
theorem dL_law_534 : decode code 534 = .ok (.aload_n 0, 1) := by decide +kernel
theorem dL_law_535 : decode code 535 = .ok (.iload_n 3, 1) := by decide +kernel
theorem dL_law_536 : decode code 536 = .ok (.iconst 2, 1) := by decide +kernel
theorem dL_law_537 : decode code 537 = .ok (.iadd, 1) := by decide +kernel
theorem dL_law_538 : decode code 538 = .ok (.iaload, 1) := by decide +kernel
theorem dL_law_539 : decode code 539 = .ok (.aload_n 0, 1) := by decide +kernel
theorem dL_law_540 : decode code 540 = .ok (.iload_n 3, 1) := by decide +kernel
theorem dL_law_541 : decode code 541 = .ok (.iconst 3, 1) := by decide +kernel
theorem dL_law_542 : decode code 542 = .ok (.iadd, 1) := by decide +kernel
theorem dL_law_543 : decode code 543 = .ok (.iaload, 1) := by decide +kernel
theorem dL_law_544 : decode code 544 = .ok (.invokevirtual 89, 3) := by decide +kernel
theorem dL_law_547 : decode code 547 = .ok (.if_icmp .eq 146, 3) := by decide +kernel
theorem dL_law_552 : decode code 552 = .ok (.aload_n 1, 1) := by decide +kernel
theorem dL_law_553 : decode code 553 = .ok (.aload_n 0, 1) := by decide +kernel
theorem dL_law_554 : decode code 554 = .ok (.iload_n 3, 1) := by decide +kernel
theorem dL_law_555 : decode code 555 = .ok (.iconst 1, 1) := by decide +kernel
theorem dL_law_556 : decode code 556 = .ok (.iadd, 1) := by decide +kernel
theorem dL_law_557 : decode code 557 = .ok (.iaload, 1) := by decide +kernel
theorem dL_law_558 : decode code 558 = .ok (.aload_n 0, 1) := by decide +kernel
theorem dL_law_559 : decode code 559 = .ok (.iload_n 3, 1) := by decide +kernel
theorem dL_law_560 : decode code 560 = .ok (.iconst 2, 1) := by decide +kernel
theorem dL_law_561 : decode code 561 = .ok (.iadd, 1) := by decide +kernel
theorem dL_law_562 : decode code 562 = .ok (.iaload, 1) := by decide +kernel
theorem dL_law_563 : decode code 563 = .ok (.aload_n 0, 1) := by decide +kernel
theorem dL_law_564 : decode code 564 = .ok (.iload_n 3, 1) := by decide +kernel
theorem dL_law_565 : decode code 565 = .ok (.iconst 3, 1) := by decide +kernel
theorem dL_law_566 : decode code 566 = .ok (.iadd, 1) := by decide +kernel
theorem dL_law_567 : decode code 567 = .ok (.iaload, 1) := by decide +kernel
theorem dL_law_568 : decode code 568 = .ok (.invokevirtual 90, 3) := by decide +kernel
theorem dL_law_571 : decode code 571 = .ok (.aload_n 2, 1) := by decide +kernel
theorem dL_law_572 : decode code 572 = .ok (.aload_n 0, 1) := by decide +kernel
theorem dL_law_573 : decode code 573 = .ok (.iload_n 3, 1) := by decide +kernel
theorem dL_law_574 : decode code 574 = .ok (.iconst 1, 1) := by decide +kernel
theorem dL_law_575 : decode code 575 = .ok (.iadd, 1) := by decide +kernel
theorem dL_law_576 : decode code 576 = .ok (.iaload, 1) := by decide +kernel
theorem dL_law_577 : decode code 577 = .ok (.aload_n 0, 1) := by decide +kernel
theorem dL_law_578 : decode code 578 = .ok (.iload_n 3, 1) := by decide +kernel
theorem dL_law_579 : decode code 579 = .ok (.iconst 2, 1) := by decide +kernel
theorem dL_law_580 : decode code 580 = .ok (.iadd, 1) := by decide +kernel
theorem dL_law_581 : decode code 581 = .ok (.iaload, 1) := by decide +kernel
theorem dL_law_582 : decode code 582 = .ok (.aload_n 0, 1) := by decide +kernel
theorem dL_law_583 : decode code 583 = .ok (.iload_n 3, 1) := by decide +kernel
theorem dL_law_584 : decode code 584 = .ok (.iconst 3, 1) := by decide +kernel
theorem dL_law_585 : decode code 585 = .ok (.iadd, 1) := by decide +kernel
theorem dL_law_586 : decode code 586 = .ok (.iaload, 1) := by decide +kernel
theorem dL_law_587 : decode code 587 = .ok (.invokevirtual 93, 3) := by decide +kernel
theorem dL_law_590 : decode code 590 = .ok (.if_icmp .eq 103, 3) := by decide +kernel
theorem dL_law_595 : decode code 595 = .ok (.aload_n 1, 1) := by decide +kernel
theorem dL_law_596 : decode code 596 = .ok (.invokevirtual 94, 3) := by decide +kernel
theorem dL_law_599 : decode code 599 = .ok (.aload_n 2, 1) := by decide +kernel
theorem dL_law_600 : decode code 600 = .ok (.invokevirtual 97, 3) := by decide +kernel
theorem dL_law_603 : decode code 603 = .ok (.if_icmp .eq 90, 3) := by decide +kernel
theorem dL_law_608 : decode code 608 = .ok (.aload_n 1, 1) := by decide +kernel
theorem dL_law_609 : decode code 609 = .ok (.aload_n 0, 1) := by decide +kernel
theorem dL_law_610 : decode code 610 = .ok (.iload_n 3, 1) := by decide +kernel
theorem dL_law_611 : decode code 611 = .ok (.iconst 1, 1) := by decide +kernel
theorem dL_law_612 : decode code 612 = .ok (.iadd, 1) := by decide +kernel
theorem dL_law_613 : decode code 613 = .ok (.iaload, 1) := by decide +kernel
theorem dL_law_614 : decode code 614 = .ok (.invokevirtual 98, 3) := by decide +kernel
theorem dL_law_617 : decode code 617 = .ok (.aload_n 2, 1) := by decide +kernel
theorem dL_law_618 : decode code 618 = .ok (.aload_n 0, 1) := by decide +kernel
theorem dL_law_619 : decode code 619 = .ok (.iload_n 3, 1) := by decide +kernel
theorem dL_law_620 : decode code 620 = .ok (.iconst 1, 1) := by decide +kernel
theorem dL_law_621 : decode code 621 = .ok (.iadd, 1) := by decide +kernel
theorem dL_law_622 : decode code 622 = .ok (.iaload, 1) := by decide +kernel
theorem dL_law_623 : decode code 623 = .ok (.invokevirtual 101, 3) := by decide +kernel
theorem dL_law_626 : decode code 626 = .ok (.if_icmp .eq 67, 3) := by decide +kernel
theorem dL_law_631 : decode code 631 = .ok (.aload_n 1, 1) := by decide +kernel
theorem dL_law_632 : decode code 632 = .ok (.invokevirtual 102, 3) := by decide +kernel
theorem dL_law_635 : decode code 635 = .ok (.aload_n 2, 1) := by decide +kernel
theorem dL_law_636 : decode code 636 = .ok (.invokevirtual 105, 3) := by decide +kernel
theorem dL_law_639 : decode code 639 = .ok (.if_icmp .eq 54, 3) := by decide +kernel
theorem dL_law_644 : decode code 644 = .ok (.aload_n 1, 1) := by decide +kernel
theorem dL_law_645 : decode code 645 = .ok (.aload_n 0, 1) := by decide +kernel
theorem dL_law_646 : decode code 646 = .ok (.iload_n 3, 1) := by decide +kernel
theorem dL_law_647 : decode code 647 = .ok (.iconst 1, 1) := by decide +kernel
theorem dL_law_648 : decode code 648 = .ok (.iadd, 1) := by decide +kernel
theorem dL_law_649 : decode code 649 = .ok (.iaload, 1) := by decide +kernel
theorem dL_law_650 : decode code 650 = .ok (.invokevirtual 106, 3) := by decide +kernel
theorem dL_law_653 : decode code 653 = .ok (.aload_n 2, 1) := by decide +kernel
theorem dL_law_654 : decode code 654 = .ok (.aload_n 0, 1) := by decide +kernel
theorem dL_law_655 : decode code 655 = .ok (.iload_n 3, 1) := by decide +kernel
theorem dL_law_656 : decode code 656 = .ok (.iconst 1, 1) := by decide +kernel
theorem dL_law_657 : decode code 657 = .ok (.iadd, 1) := by decide +kernel
theorem dL_law_658 : decode code 658 = .ok (.iaload, 1) := by decide +kernel
theorem dL_law_659 : decode code 659 = .ok (.invokevirtual 109, 3) := by decide +kernel
theorem dL_law_662 : decode code 662 = .ok (.if_icmp .eq 31, 3) := by decide +kernel
theorem dL_law_667 : decode code 667 = .ok (.aload_n 1, 1) := by decide +kernel
theorem dL_law_668 : decode code 668 = .ok (.invokevirtual 110, 3) := by decide +kernel
theorem dL_law_671 : decode code 671 = .ok (.aload_n 2, 1) := by decide +kernel
theorem dL_law_672 : decode code 672 = .ok (.invokevirtual 113, 3) := by decide +kernel
theorem dL_law_675 : decode code 675 = .ok (.if_icmp .eq 18, 3) := by decide +kernel
theorem dL_law_680 : decode code 680 = .ok (.aload_n 1, 1) := by decide +kernel
theorem dL_law_681 : decode code 681 = .ok (.invokevirtual 114, 3) := by decide +kernel
theorem dL_law_684 : decode code 684 = .ok (.aload_n 2, 1) := by decide +kernel
theorem dL_law_685 : decode code 685 = .ok (.invokevirtual 117, 3) := by decide +kernel
theorem dL_law_688 : decode code 688 = .ok (.if_icmp .eq 5, 3) := by decide +kernel
theorem dL_law_693 : decode code 693 = .ok (.iinc 3 6, 3) := by decide +kernel
theorem dL_law_696 : decode code 696 = .ok (.goto (-678), 3) := by decide +kernel
theorem dL_law_699 : decode code 699 = .ok (.iconst 1, 1) := by decide +kernel
theorem dL_law_700 : decode code 700 = .ok (.ireturn, 1) := by decide +kernel
def w_law_0 : List Cond := [.fieldLink RX11 65 "RealSolver" "outcome" "I", .code yX11_refuse cX11_refuse 2 (some .int), .methodLink RX11 71 yX11_refuse, .instanceMethod yX11_refuse, .selects RX11 yX11_refuse yX11_refuse, .initialized RX11, .fieldLink RX11 61 "RealSolver" "variableCount" "I", .fieldLink RX11 75 "RealSolver" "solved" "Z", .code yX11_answer cX11_answer 2 (some .int), .methodLink RX11 79 yX11_answer, .instanceMethod yX11_answer, .selects RX11 yX11_answer yX11_answer, .code yX11_variables cX11_variables 2 (some .int), .methodLink RL 13 yX11_variables, .instanceMethod yX11_variables, .selects RX11 yX11_variables yX11_variables, .fieldLink RX14 554 "RealSolverModel" "status" "I", .code yX14_no cX14_no 2 (some .int), .methodLink RX14 573 yX14_no, .instanceMethod yX14_no, .selects RX14 yX14_no yX14_no, .initialized RX14, .fieldLink RX14 7 "RealSolverModel" "variables" "I", .fieldLink RX14 10 "RealSolverModel" "px" "[I"]
set_option maxRecDepth 200000 in
theorem w_law_0_in : ∀ w ∈ w_law_0, w ∈ lw_tbl := fun w h => (goodIn_r (big := lw_tbl) w_law_0 [456, 491, 488, 490, 5, 29, 455, 458, 495, 492, 494, 6, 487, 484, 485, 486, 1573, 1710, 1707, 1709, 19, 40, 1512, 1514] (by decide +kernel) (by decide +kernel) w h).1
def w_law_1 : List Cond := [.fieldLink RX14 1 "RealSolverModel" "products" "I", .fieldLink RX14 14 "RealSolverModel" "py" "[I", .fieldLink RX14 17 "RealSolverModel" "pz" "[I", .fieldLink RX14 20 "RealSolverModel" "which" "[I", .code yX14_orderProducts cX14_orderProducts 4 none, .methodLink RX14 567 yX14_orderProducts, .instanceMethod yX14_orderProducts, .selects RX14 yX14_orderProducts yX14_orderProducts, .fieldLink RX14 576 "RealSolverModel" "isSolved" "Z", .code yX14_fine cX14_fine 2 (some .int), .methodLink RX14 557 yX14_fine, .instanceMethod yX14_fine, .selects RX14 yX14_fine yX14_fine, .code yX14_variables cX14_variables 2 (some .int), .methodLink RL 17 yX14_variables, .instanceMethod yX14_variables, .selects RX14 yX14_variables yX14_variables, .fieldLink RX11 82 "RealSolver" "onTape" "I", .fieldLink RX11 9 "RealSolver" "tape" "[B", .code yX11_append cX11_append 3 none, .methodLink RX11 85 yX11_append, .instanceMethod yX11_append, .selects RX11 yX11_append yX11_append, .code yX11_feed cX11_feed 6 (some .int)]
set_option maxRecDepth 200000 in
theorem w_law_1_in : ∀ w ∈ w_law_1, w ∈ lw_tbl := fun w h => (goodIn_r (big := lw_tbl) w_law_1 [1513, 1515, 1516, 1517, 1498, 1495, 1497, 0, 1532, 1714, 1711, 1713, 21, 1706, 1703, 1704, 1705, 454, 447, 503, 500, 502, 9, 499] (by decide +kernel) (by decide +kernel) w h).1
def w_law_2 : List Cond := [.methodLink RL 18 yX11_feed, .instanceMethod yX11_feed, .selects RX11 yX11_feed yX11_feed, .fieldLink RX14 459 "RealSolverModel" "taped" "I", .fieldLink RX14 462 "RealSolverModel" "tape" "[B", .code yX14_feed cX14_feed 8 (some .int), .methodLink RL 22 yX14_feed, .instanceMethod yX14_feed, .selects RX14 yX14_feed yX14_feed, .code yX11_end cX11_end 2 (some .int), .methodLink RL 23 yX11_end, .instanceMethod yX11_end, .selects RX11 yX11_end yX11_end, .code yX14_end cX14_end 2 (some .int), .methodLink RL 26 yX14_end, .instanceMethod yX14_end, .selects RX14 yX14_end yX14_end, .fieldLink RX11 32 "RealSolver" "reader" "LRealSolver$Reader;", .code yX11_takeTape cX11_takeTape 2 (some .int), .methodLink RX11 89 yX11_takeTape, .instanceMethod yX11_takeTape, .selects RX11 yX11_takeTape yX11_takeTape, .fieldLink RX7 9 "RealSolver$Reader" "bytes" "[B", .methodLink RX7 49 Lib.Math.min.name]
set_option maxRecDepth 200000 in
theorem w_law_2_in : ∀ w ∈ w_law_2, w ∈ lw_tbl := fun w h => (goodIn_r (big := lw_tbl) w_law_2 [496, 497, 498, 1561, 1560, 1718, 1715, 1716, 1717, 507, 504, 505, 506, 1722, 1719, 1720, 1721, 450, 515, 512, 514, 16, 120, 524] (by decide +kernel) (by decide +kernel) w h).1
def w_law_3 : List Cond := [.static Lib.Math.min.name, .initialized "java/lang/Math", .code Lib.Math.min.name Lib.Math.min.code 2 (some .int), .fieldLink RX7 36 "RealSolver$Reader" "size" "I", .fieldLink RX7 55 "RealSolver$Reader" "variableCount" "I", .fieldLink RX7 58 "RealSolver$Reader" "mostDegree" "I", .fieldLink RX7 61 "RealSolver$Reader" "terms" "I", .fieldLink RX7 64 "RealSolver$Reader" "polynomials" "I", .fieldLink RX7 32 "RealSolver$Reader" "at" "I", .code yX7_step cX7_step 2 none, .methodLink RX7 43 yX7_step, .instanceMethod yX7_step, .selects RX7 yX7_step yX7_step, .initialized RX7, .code yX7_begin cX7_begin 5 none, .methodLink RX7 28 yX7_begin, .instanceMethod yX7_begin, .selects RX7 yX7_begin yX7_begin, .fieldLink RX7 25 "RealSolver$Reader" "firstTerm" "[I", .code yX7_atSign cX7_atSign 1 (some .boolean), .methodLink RX7 67 yX7_atSign, .instanceMethod yX7_atSign, .selects RX7 yX7_atSign yX7_atSign, .code yX7_atDigit cX7_atDigit 1 (some .boolean)]
set_option maxRecDepth 200000 in
theorem w_law_3_in : ∀ w ∈ w_law_3, w ∈ lw_tbl := fun w h => (goodIn_r (big := lw_tbl) w_law_3 [525, 42, 526, 121, 123, 124, 131, 135, 122, 530, 527, 529, 13, 32, 523, 520, 522, 14, 132, 538, 535, 537, 11, 546] (by decide +kernel) (by decide +kernel) w h).1
def w_law_4 : List Cond := [.methodLink RX7 75 yX7_atDigit, .instanceMethod yX7_atDigit, .selects RX7 yX7_atDigit yX7_atDigit, .code yX7_readTerm cX7_readTerm 11 (some .int), .methodLink RX7 71 yX7_readTerm, .instanceMethod yX7_readTerm, .selects RX7 yX7_readTerm yX7_readTerm, .code yX7_readPolynomial cX7_readPolynomial 4 (some .int), .methodLink RX7 39 yX7_readPolynomial, .instanceMethod yX7_readPolynomial, .selects RX7 yX7_readPolynomial yX7_readPolynomial, .code yX7_readSystem cX7_readSystem 6 (some .int), .methodLink RX11 93 yX7_readSystem, .instanceMethod yX7_readSystem, .selects RX7 yX7_readSystem yX7_readSystem, .fieldLink RX11 68 "RealSolver" "faultPlace" "I", .code yX11_solve cX11_solve 2 (some .int), .methodLink RL 27 yX11_solve, .instanceMethod yX11_solve, .selects RX11 yX11_solve yX11_solve, .fieldLink RX14 456 "RealSolverModel" "readAt" "I", .fieldLink RX14 466 "RealSolverModel" "fault" "I", .fieldLink RX14 490 "RealSolverModel" "termMany" "I", .fieldLink RX14 493 "RealSolverModel" "polyRead" "I"]
set_option maxRecDepth 200000 in
theorem w_law_4_in : ∀ w ∈ w_law_4, w ∈ lw_tbl := fun w h => (goodIn_r (big := lw_tbl) w_law_4 [543, 545, 10, 542, 539, 541, 12, 534, 531, 533, 15, 519, 516, 517, 518, 457, 511, 508, 509, 510, 1562, 1563, 1568, 1569] (by decide +kernel) (by decide +kernel) w h).1
def w_law_5 : List Cond := [.code yX14_beginReading cX14_beginReading 1 none, .methodLink RX14 507 yX14_beginReading, .instanceMethod yX14_beginReading, .selects RX14 yX14_beginReading yX14_beginReading, .code yX14_look_ cX14_look_ 1 (some .int), .methodLink RX14 469 yX14_look_, .instanceMethod yX14_look_, .selects RX14 yX14_look_ yX14_look_, .code yX14_isDigit cX14_isDigit 1 (some .boolean), .methodLink RX14 471 yX14_isDigit, .static yX14_isDigit, .code yX14_isVariable cX14_isVariable 1 (some .boolean), .methodLink RX14 474 yX14_isVariable, .static yX14_isVariable, .code yX14_wrong cX14_wrong 2 (some .boolean), .methodLink RX14 477 yX14_wrong, .instanceMethod yX14_wrong, .selects RX14 yX14_wrong yX14_wrong, .code yX14_readTerm cX14_readTerm 9 (some .boolean), .methodLink RX14 503 yX14_readTerm, .instanceMethod yX14_readTerm, .selects RX14 yX14_readTerm yX14_readTerm, .code yX14_readPoly cX14_readPoly 4 (some .boolean), .methodLink RX14 510 yX14_readPoly]
set_option maxRecDepth 200000 in
theorem w_law_5_in : ∀ w ∈ w_law_5, w ∈ lw_tbl := fun w h => (goodIn_r (big := lw_tbl) w_law_5 [1734, 1731, 1733, 25, 1742, 1739, 1741, 22, 1749, 1747, 1748, 1752, 1750, 1751, 1756, 1753, 1755, 23, 1746, 1743, 1745, 24, 1738, 1735] (by decide +kernel) (by decide +kernel) w h).1
def w_law_6 : List Cond := [.instanceMethod yX14_readPoly, .selects RX14 yX14_readPoly yX14_readPoly, .code yX14_readSystem cX14_readSystem 2 (some .boolean), .methodLink RX14 579 yX14_readSystem, .instanceMethod yX14_readSystem, .selects RX14 yX14_readSystem yX14_readSystem, .code yX14_solve cX14_solve 2 (some .int), .methodLink RL 31 yX14_solve, .instanceMethod yX14_solve, .selects RX14 yX14_solve yX14_solve, .code yX11_place cX11_place 1 (some .int), .methodLink RL 32 yX11_place, .instanceMethod yX11_place, .selects RX11 yX11_place yX11_place, .code yX14_place cX14_place 1 (some .int), .methodLink RL 35 yX14_place, .instanceMethod yX14_place, .selects RX14 yX14_place yX14_place, .code yX11_basis cX11_basis 1 (some .int), .methodLink RL 36 yX11_basis, .instanceMethod yX11_basis, .selects RX11 yX11_basis yX11_basis, .code yX14_basis cX14_basis 1 (some .int), .methodLink RL 39 yX14_basis]
set_option maxRecDepth 200000 in
theorem w_law_6_in : ∀ w ∈ w_law_6, w ∈ lw_tbl := fun w h => (goodIn_r (big := lw_tbl) w_law_6 [1737, 26, 1730, 1727, 1729, 27, 1726, 1723, 1724, 1725, 1167, 1164, 1165, 1166, 2143, 2140, 2141, 2142, 1171, 1168, 1169, 1170, 2147, 2144] (by decide +kernel) (by decide +kernel) w h).1
def w_law_7 : List Cond := [.instanceMethod yX14_basis, .selects RX14 yX14_basis yX14_basis, .code yX11_poly cX11_poly 2 (some .int), .methodLink RL 40 yX11_poly, .instanceMethod yX11_poly, .selects RX11 yX11_poly yX11_poly, .code yX14_poly cX14_poly 2 (some .int), .methodLink RL 43 yX14_poly, .instanceMethod yX14_poly, .selects RX14 yX14_poly yX14_poly, .code yX11_lackOfZeros cX11_lackOfZeros 1 (some .int), .methodLink RX11 171 yX11_lackOfZeros, .instanceMethod yX11_lackOfZeros, .selects RX11 yX11_lackOfZeros yX11_lackOfZeros, .code yX11_stairs cX11_stairs 2 (some .int), .methodLink RL 44 yX11_stairs, .instanceMethod yX11_stairs, .selects RX11 yX11_stairs yX11_stairs, .code yX14_why cX14_why 1 (some .int), .methodLink RX14 606 yX14_why, .instanceMethod yX14_why, .selects RX14 yX14_why yX14_why, .code yX14_stairs cX14_stairs 1 (some .int), .methodLink RL 47 yX14_stairs]
set_option maxRecDepth 200000 in
theorem w_law_7_in : ∀ w ∈ w_law_7, w ∈ lw_tbl := fun w h => (goodIn_r (big := lw_tbl) w_law_7 [2145, 2146, 1175, 1172, 1173, 1174, 2151, 2148, 2149, 2150, 1237, 1234, 1236, 3, 1233, 1230, 1231, 1232, 2186, 2183, 2185, 17, 2182, 2179] (by decide +kernel) (by decide +kernel) w h).1
def w_law_8 : List Cond := [.instanceMethod yX14_stairs, .selects RX14 yX14_stairs yX14_stairs, .code yX11_stair cX11_stair 3 (some .int), .methodLink RL 48 yX11_stair, .instanceMethod yX11_stair, .selects RX11 yX11_stair yX11_stair, .code yX14_stair cX14_stair 2 (some .int), .methodLink RL 51 yX14_stair, .instanceMethod yX14_stair, .selects RX14 yX14_stair yX14_stair, .code yX11_rest cX11_rest 3 (some .int), .methodLink RL 52 yX11_rest, .instanceMethod yX11_rest, .selects RX11 yX11_rest yX11_rest, .code yX14_rest cX14_rest 1 (some .int), .methodLink RL 55 yX14_rest, .instanceMethod yX14_rest, .selects RX14 yX14_rest yX14_rest, .code yX11_zeros cX11_zeros 2 (some .int), .methodLink RL 56 yX11_zeros, .instanceMethod yX11_zeros, .selects RX11 yX11_zeros yX11_zeros, .code yX14_zeros cX14_zeros 1 (some .int), .methodLink RL 59 yX14_zeros]
set_option maxRecDepth 200000 in
theorem w_law_8_in : ∀ w ∈ w_law_8, w ∈ lw_tbl := fun w h => (goodIn_r (big := lw_tbl) w_law_8 [2180, 2181, 1241, 1238, 1239, 1240, 2190, 2187, 2188, 2189, 1246, 1243, 1244, 1245, 2194, 2191, 2192, 2193, 1294, 1291, 1292, 1293, 2210, 2207] (by decide +kernel) (by decide +kernel) w h).1
def w_law_9 : List Cond := [.instanceMethod yX14_zeros, .selects RX14 yX14_zeros yX14_zeros, .code yX11_form cX11_form 2 (some .int), .methodLink RL 60 yX11_form, .instanceMethod yX11_form, .selects RX11 yX11_form yX11_form, .code yX14_form cX14_form 1 (some .int), .methodLink RL 63 yX14_form, .instanceMethod yX14_form, .selects RX14 yX14_form yX14_form, .code yX11_lackOfVariable cX11_lackOfVariable 4 (some .int), .methodLink RX11 202 yX11_lackOfVariable, .instanceMethod yX11_lackOfVariable, .selects RX11 yX11_lackOfVariable yX11_lackOfVariable, .code yX11_eliminant cX11_eliminant 3 (some .int), .methodLink RL 64 yX11_eliminant, .instanceMethod yX11_eliminant, .selects RX11 yX11_eliminant yX11_eliminant, .code yX14_eliminant cX14_eliminant 2 (some .int), .methodLink RL 67 yX14_eliminant, .instanceMethod yX14_eliminant, .selects RX14 yX14_eliminant yX14_eliminant, .code yX11_fraction cX11_fraction 3 (some .int), .methodLink RL 68 yX11_fraction]
set_option maxRecDepth 200000 in
theorem w_law_9_in : ∀ w ∈ w_law_9, w ∈ lw_tbl := fun w h => (goodIn_r (big := lw_tbl) w_law_9 [2208, 2209, 1298, 1295, 1296, 1297, 2214, 2211, 2212, 2213, 1306, 1303, 1305, 4, 1302, 1299, 1300, 1301, 2218, 2215, 2216, 2217, 1314, 1311] (by decide +kernel) (by decide +kernel) w h).1
def w_law_10 : List Cond := [.instanceMethod yX11_fraction, .selects RX11 yX11_fraction yX11_fraction, .code yX14_fraction cX14_fraction 2 (some .int), .methodLink RL 71 yX14_fraction, .instanceMethod yX14_fraction, .selects RX14 yX14_fraction yX14_fraction, .code yX11_real cX11_real 2 (some .int), .methodLink RL 72 yX11_real, .instanceMethod yX11_real, .selects RX11 yX11_real yX11_real, .code yX14_real cX14_real 1 (some .int), .methodLink RL 75 yX14_real, .instanceMethod yX14_real, .selects RX14 yX14_real yX14_real, .code yX11_lackOfReal cX11_lackOfReal 3 (some .int), .methodLink RX11 220 yX11_lackOfReal, .instanceMethod yX11_lackOfReal, .selects RX11 yX11_lackOfReal yX11_lackOfReal, .code yX11_multiplicity cX11_multiplicity 3 (some .int), .methodLink RL 76 yX11_multiplicity, .instanceMethod yX11_multiplicity, .selects RX11 yX11_multiplicity yX11_multiplicity, .code yX14_zeroWhy cX14_zeroWhy 3 (some .int), .methodLink RX14 618 yX14_zeroWhy]
set_option maxRecDepth 200000 in
theorem w_law_10_in : ∀ w ∈ w_law_10, w ∈ lw_tbl := fun w h => (goodIn_r (big := lw_tbl) w_law_10 [1312, 1313, 2226, 2223, 2224, 2225, 1318, 1315, 1316, 1317, 2234, 2231, 2232, 2233, 1327, 1324, 1326, 7, 1323, 1320, 1321, 1322, 2242, 2239] (by decide +kernel) (by decide +kernel) w h).1
def w_law_11 : List Cond := [.instanceMethod yX14_zeroWhy, .selects RX14 yX14_zeroWhy yX14_zeroWhy, .code yX14_multiplicity cX14_multiplicity 3 (some .int), .methodLink RL 79 yX14_multiplicity, .instanceMethod yX14_multiplicity, .selects RX14 yX14_multiplicity yX14_multiplicity, .code yX11_lackOfCoordinate cX11_lackOfCoordinate 4 (some .int), .methodLink RX11 226 yX11_lackOfCoordinate, .instanceMethod yX11_lackOfCoordinate, .selects RX11 yX11_lackOfCoordinate yX11_lackOfCoordinate, .code yX11_rank cX11_rank 4 (some .int), .methodLink RL 80 yX11_rank, .instanceMethod yX11_rank, .selects RX11 yX11_rank yX11_rank, .code yX14_rank cX14_rank 4 (some .int), .methodLink RL 84 yX14_rank, .instanceMethod yX14_rank, .selects RX14 yX14_rank yX14_rank, .code yX11_floor cX11_floor 7 (some .int), .methodLink RL 85 yX11_floor, .instanceMethod yX11_floor, .selects RX11 yX11_floor yX11_floor, .code yX14_floorWhy cX14_floorWhy 4 (some .int), .methodLink RX14 627 yX14_floorWhy]
set_option maxRecDepth 200000 in
theorem w_law_11_in : ∀ w ∈ w_law_11, w ∈ lw_tbl := fun w h => (goodIn_r (big := lw_tbl) w_law_11 [2241, 18, 2238, 2235, 2236, 2237, 1335, 1332, 1334, 8, 1331, 1328, 1329, 1330, 2266, 2263, 2264, 2265, 1369, 1366, 1367, 1368, 2278, 2275] (by decide +kernel) (by decide +kernel) w h).1
def w_law_12 : List Cond := [.instanceMethod yX14_floorWhy, .selects RX14 yX14_floorWhy yX14_floorWhy, .code yX14_floor cX14_floor 5 (some .int), .methodLink RL 89 yX14_floor, .instanceMethod yX14_floor, .selects RX14 yX14_floor yX14_floor, .code yX11_exact cX11_exact 6 (some .int), .methodLink RL 90 yX11_exact, .instanceMethod yX11_exact, .selects RX11 yX11_exact yX11_exact, .code yX14_exact cX14_exact 6 (some .int), .methodLink RL 93 yX14_exact, .instanceMethod yX14_exact, .selects RX14 yX14_exact yX14_exact, .code yX11_apart cX11_apart 5 (some .int), .methodLink RL 94 yX11_apart, .instanceMethod yX11_apart, .selects RX11 yX11_apart yX11_apart, .code yX14_apart cX14_apart 6 (some .int), .methodLink RL 97 yX14_apart, .instanceMethod yX14_apart, .selects RX14 yX14_apart yX14_apart, .code yX11_sign cX11_sign 6 (some .int), .methodLink RL 98 yX11_sign]
set_option maxRecDepth 200000 in
theorem w_law_12_in : ∀ w ∈ w_law_12, w ∈ lw_tbl := fun w h => (goodIn_r (big := lw_tbl) w_law_12 [2277, 20, 2274, 2271, 2272, 2273, 1385, 1382, 1383, 1384, 2299, 2296, 2297, 2298, 1393, 1390, 1391, 1392, 2303, 2300, 2301, 2302, 1410, 1407] (by decide +kernel) (by decide +kernel) w h).1
def w_law_13 : List Cond := [.instanceMethod yX11_sign, .selects RX11 yX11_sign yX11_sign, .code yX14_sign cX14_sign 6 (some .int), .methodLink RL 101 yX14_sign, .instanceMethod yX14_sign, .selects RX14 yX14_sign yX14_sign, .fieldLink RX11 25 "RealSolver" "pen" "LRealSolver$Pen;", .fieldLink RX11 168 "RealSolver$Pen" "size" "I", .code yX11_length cX11_length 1 (some .int), .methodLink RL 102 yX11_length, .instanceMethod yX11_length, .selects RX11 yX11_length yX11_length, .fieldLink RX14 516 "RealSolverModel" "textSize" "I", .code yX14_length cX14_length 1 (some .int), .methodLink RL 105 yX14_length, .instanceMethod yX14_length, .selects RX14 yX14_length yX14_length, .code yX11_letter cX11_letter 2 (some .int), .methodLink RL 106 yX11_letter, .instanceMethod yX11_letter, .selects RX11 yX11_letter yX11_letter, .code yX14_letter cX14_letter 2 (some .int), .methodLink RL 109 yX14_letter, .instanceMethod yX14_letter]
set_option maxRecDepth 200000 in
theorem w_law_13_in : ∀ w ∈ w_law_13, w ∈ lw_tbl := fun w h => (goodIn_r (big := lw_tbl) w_law_13 [1408, 1409, 2311, 2308, 2309, 2310, 449, 106, 1419, 1416, 1417, 1418, 1571, 2315, 2312, 2313, 2314, 1423, 1420, 1421, 1422, 2319, 2316, 2317] (by decide +kernel) (by decide +kernel) w h).1
def w_law_14 : List Cond := [.selects RX14 yX14_letter yX14_letter, .code yX11_status cX11_status 1 (some .int), .methodLink RL 110 yX11_status, .instanceMethod yX11_status, .selects RX11 yX11_status yX11_status, .code yX14_status cX14_status 1 (some .int), .methodLink RL 113 yX14_status, .instanceMethod yX14_status, .selects RX14 yX14_status yX14_status, .code yX11_digest cX11_digest 3 (some .int), .methodLink RL 114 yX11_digest, .instanceMethod yX11_digest, .selects RX11 yX11_digest yX11_digest, .code yX14_digest cX14_digest 3 (some .int), .methodLink RL 117 yX14_digest, .instanceMethod yX14_digest, .selects RX14 yX14_digest yX14_digest, .classLink RL 7 RX11, .instantiable RX11 12, .methodLink RX11 1 objectInit, .instanceMethod objectInit, .code objectInit ⟨#[0xb1]⟩ 1 none, .arrayClass .byte, .classLink RX11 13 RX2]
set_option maxRecDepth 200000 in
theorem w_law_14_in : ∀ w ∈ w_law_14, w ∈ lw_tbl := fun w h => (goodIn_r (big := lw_tbl) w_law_14 [2318, 1427, 1424, 1425, 1426, 2323, 2320, 2321, 2322, 1431, 1428, 1429, 1430, 2327, 2324, 2325, 2326, 49, 50, 54, 55, 56, 94, 57] (by decide +kernel) (by decide +kernel) w h).1
def w_law_15 : List Cond := [.instantiable RX2 6, .initialized RX2, .methodLink RX2 1 objectInit, .arrayClass .int, .fieldLink RX2 7 "RealSolver$Numbers" "w" "[I", .fieldLink RX2 13 "RealSolver$Numbers" "top" "I", .code yX2_init cX2_init 1 none, .methodLink RX11 15 yX2_init, .instanceMethod yX2_init, .fieldLink RX11 16 "RealSolver" "numbers" "LRealSolver$Numbers;", .classLink RX11 20 RX3, .instantiable RX3 3, .initialized RX3, .methodLink RX3 1 objectInit, .fieldLink RX3 7 "RealSolver$Pen" "text" "[B", .fieldLink RX3 13 "RealSolver$Pen" "numbers" "LRealSolver$Numbers;", .code yX3_init cX3_init 2 none, .methodLink RX11 22 yX3_init, .instanceMethod yX3_init, .classLink RX11 29 RX7, .instantiable RX7 11, .methodLink RX7 3 objectInit, .fieldLink RX7 15 "RealSolver$Reader" "key" "[I", .fieldLink RX7 19 "RealSolver$Reader" "powers" "[I"]
set_option maxRecDepth 200000 in
theorem w_law_15_in : ∀ w ∈ w_law_15, w ∈ lw_tbl := fun w h => (goodIn_r (big := lw_tbl) w_law_15 [58, 30, 62, 95, 63, 70, 61, 59, 60, 448, 96, 97, 31, 101, 103, 102, 100, 98, 99, 114, 115, 119, 125, 127] (by decide +kernel) (by decide +kernel) w h).1
def w_law_16 : List Cond := [.fieldLink RX7 22 "RealSolver$Reader" "coefficient" "[I", .code yX7_init cX7_init 1 none, .instanceMethod yX7_init, .classLink RX11 36 RX0, .instantiable RX0 12, .initialized RX0, .methodLink RX0 1 objectInit, .fieldLink RX0 9 "RealSolver$Ideal" "at" "[I", .fieldLink RX0 13 "RealSolver$Ideal" "lead" "[I", .arrayClass .boolean, .fieldLink RX0 16 "RealSolver$Ideal" "live" "[Z", .fieldLink RX0 20 "RealSolver$Ideal" "pairFirst" "[I", .fieldLink RX0 23 "RealSolver$Ideal" "pairSecond" "[I", .fieldLink RX0 26 "RealSolver$Ideal" "pairMultiple" "[I", .fieldLink RX0 29 "RealSolver$Ideal" "wanted" "[Z", .fieldLink RX0 32 "RealSolver$Ideal" "multiple" "[I", .fieldLink RX0 35 "RealSolver$Ideal" "level" "[I", .fieldLink RX0 38 "RealSolver$Ideal" "numbers" "LRealSolver$Numbers;", .code yX0_init cX0_init 2 none, .methodLink RX11 38 yX0_init, .instanceMethod yX0_init, .fieldLink RX11 39 "RealSolver" "ideal" "LRealSolver$Ideal;", .classLink RX11 43 RX6, .instantiable RX6 7]
set_option maxRecDepth 200000 in
theorem w_law_16_in : ∀ w ∈ w_law_16, w ∈ lw_tbl := fun w h => (goodIn_r (big := lw_tbl) w_law_16 [129, 118, 117, 159, 160, 33, 164, 166, 168, 206, 170, 174, 175, 176, 178, 179, 180, 165, 163, 161, 162, 451, 207, 208] (by decide +kernel) (by decide +kernel) w h).1
def w_law_17 : List Cond := [.initialized RX6, .methodLink RX6 3 objectInit, .fieldLink RX6 9 "RealSolver$Quotient" "stairKey" "[I", .classLink RX6 15 "[[I", .fieldLink RX6 17 "RealSolver$Quotient" "column" "[[I", .fieldLink RX6 20 "RealSolver$Quotient" "numbers" "LRealSolver$Numbers;", .fieldLink RX6 24 "RealSolver$Quotient" "ideal" "LRealSolver$Ideal;", .code yX6_init cX6_init 3 none, .methodLink RX11 45 yX6_init, .instanceMethod yX6_init, .fieldLink RX11 48 "RealSolver" "quotient" "LRealSolver$Quotient;", .classLink RX11 52 RX4, .instantiable RX4 20, .initialized RX4, .methodLink RX4 7 objectInit, .classLink RX4 3 RX1, .fieldLink RX4 13 "RealSolver$Points" "eliminants" "[LRealSolver$InT;", .fieldLink RX4 17 "RealSolver$Points" "fractions" "[LRealSolver$InT;", .classLink RX4 20 RX9, .fieldLink RX4 22 "RealSolver$Points" "roots" "[LRealSolver$Roots;", .fieldLink RX4 26 "RealSolver$Points" "multiple" "[I", .fieldLink RX4 30 "RealSolver$Points" "ranks" "[I", .fieldLink RX4 33 "RealSolver$Points" "trace" "[I", .classLink RX4 36 "[[I"]
set_option maxRecDepth 200000 in
theorem w_law_17_in : ∀ w ∈ w_law_17, w ∈ lw_tbl := fun w h => (goodIn_r (big := lw_tbl) w_law_17 [34, 212, 226, 213, 229, 215, 216, 211, 209, 210, 452, 245, 246, 35, 250, 251, 385, 387, 253, 389, 393, 395, 397, 255] (by decide +kernel) (by decide +kernel) w h).1
def w_law_18 : List Cond := [.fieldLink RX4 38 "RealSolver$Points" "row" "[[I", .fieldLink RX4 43 "RealSolver$Points" "factor" "[I", .fieldLink RX4 46 "RealSolver$Points" "weight" "[I", .instantiable RX1 3, .initialized RX1, .methodLink RX1 3 objectInit, .fieldLink RX1 9 "RealSolver$InT" "degree" "I", .fieldLink RX1 15 "RealSolver$InT" "at" "[I", .code yX1_init cX1_init 1 none, .instanceMethod yX1_init, .fieldLink RX4 50 "RealSolver$Points" "whole" "LRealSolver$InT;", .fieldLink RX4 54 "RealSolver$Points" "simple" "LRealSolver$InT;", .fieldLink RX4 57 "RealSolver$Points" "repeated" "LRealSolver$InT;", .fieldLink RX4 60 "RealSolver$Points" "kept" "[I", .fieldLink RX4 63 "RealSolver$Points" "vector" "[I", .fieldLink RX4 66 "RealSolver$Points" "numbers" "LRealSolver$Numbers;", .fieldLink RX4 70 "RealSolver$Points" "quotient" "LRealSolver$Quotient;", .classLink RX4 74 RX8, .instantiable RX8 6, .initialized RX8, .methodLink RX8 1 objectInit, .classLink RX8 7 RX1, .fieldLink RX8 10 "RealSolver$Ring" "first" "LRealSolver$InT;", .fieldLink RX8 16 "RealSolver$Ring" "second" "LRealSolver$InT;"]
set_option maxRecDepth 200000 in
theorem w_law_18_in : ∀ w ∈ w_law_18, w ∈ lw_tbl := fun w h => (goodIn_r (big := lw_tbl) w_law_18 [398, 399, 400, 256, 36, 260, 261, 267, 259, 258, 401, 402, 403, 404, 405, 381, 382, 282, 283, 37, 287, 288, 291, 292] (by decide +kernel) (by decide +kernel) w h).1
def w_law_19 : List Cond := [.fieldLink RX8 19 "RealSolver$Ring" "slope" "LRealSolver$InT;", .arrayClass .long, .fieldLink RX8 22 "RealSolver$Ring" "modFirst" "[J", .fieldLink RX8 26 "RealSolver$Ring" "modSecond" "[J", .fieldLink RX8 29 "RealSolver$Ring" "numbers" "LRealSolver$Numbers;", .code yX8_init cX8_init 2 none, .methodLink RX4 76 yX8_init, .instanceMethod yX8_init, .fieldLink RX4 79 "RealSolver$Points" "ring" "LRealSolver$Ring;", .classLink RX4 83 RX10, .instantiable RX10 7, .initialized RX10, .methodLink RX10 3 objectInit, .classLink RX10 11 "[[J", .fieldLink RX10 13 "RealSolver$Shadow" "matrix" "[[J", .fieldLink RX10 18 "RealSolver$Shadow" "reduced" "[[J", .fieldLink RX10 23 "RealSolver$Shadow" "polynomial" "[J", .fieldLink RX10 27 "RealSolver$Shadow" "image" "[J", .fieldLink RX10 30 "RealSolver$Shadow" "next" "[J", .fieldLink RX10 33 "RealSolver$Shadow" "numbers" "LRealSolver$Numbers;", .fieldLink RX10 37 "RealSolver$Shadow" "quotient" "LRealSolver$Quotient;", .code yX10_init cX10_init 3 none, .methodLink RX4 85 yX10_init, .instanceMethod yX10_init]
set_option maxRecDepth 200000 in
theorem w_law_19_in : ∀ w ∈ w_law_19, w ∈ lw_tbl := fun w h => (goodIn_r (big := lw_tbl) w_law_19 [293, 309, 294, 295, 290, 286, 284, 285, 383, 310, 311, 38, 315, 316, 320, 321, 322, 323, 324, 318, 319, 314, 312, 313] (by decide +kernel) (by decide +kernel) w h).1
def w_law_20 : List Cond := [.fieldLink RX4 88 "RealSolver$Points" "shadow" "LRealSolver$Shadow;", .instantiable RX9 10, .initialized RX9, .methodLink RX9 3 objectInit, .classLink RX9 9 RX1, .fieldLink RX9 12 "RealSolver$Roots" "of" "LRealSolver$InT;", .fieldLink RX9 18 "RealSolver$Roots" "level" "[I", .fieldLink RX9 22 "RealSolver$Roots" "met" "[Z", .fieldLink RX9 26 "RealSolver$Roots" "side" "[I", .classLink RX9 29 "[[I", .fieldLink RX9 31 "RealSolver$Roots" "floor" "[[I", .fieldLink RX9 34 "RealSolver$Roots" "moved" "[I", .fieldLink RX9 37 "RealSolver$Roots" "turned" "[I", .fieldLink RX9 40 "RealSolver$Roots" "numbers" "LRealSolver$Numbers;", .fieldLink RX9 44 "RealSolver$Roots" "ring" "LRealSolver$Ring;", .code yX9_init cX9_init 3 none, .methodLink RX4 92 yX9_init, .instanceMethod yX9_init, .code yX4_init cX4_init 4 none, .methodLink RX11 54 yX4_init, .instanceMethod yX4_init, .fieldLink RX11 57 "RealSolver" "points" "LRealSolver$Points;", .code yX11_init cX11_init 1 none, .methodLink RL 9 yX11_init]
set_option maxRecDepth 200000 in
theorem w_law_20_in : ∀ w ∈ w_law_20, w ∈ lw_tbl := fun w h => (goodIn_r (big := lw_tbl) w_law_20 [384, 340, 39, 344, 345, 350, 353, 355, 356, 347, 357, 358, 359, 348, 349, 343, 341, 342, 249, 247, 248, 453, 53, 51] (by decide +kernel) (by decide +kernel) w h).1
def w_law_21 : List Cond := [.instanceMethod yX11_init, .classLink RL 10 RX14, .instantiable RX14 64, .methodLink RX14 560 objectInit, .classLink RX14 63 RX12, .instantiable RX12 12, .initialized RX12, .methodLink RX12 1 objectInit, .constant RX12 9 (3000000), .fieldLink RX12 10 "RealSolverModel$Bigs" "m" "[I", .constant RX12 14 (1500000), .fieldLink RX12 15 "RealSolverModel$Bigs" "spare" "[I", .constant RX12 18 (40000), .fieldLink RX12 19 "RealSolverModel$Bigs" "at" "[I", .fieldLink RX12 22 "RealSolverModel$Bigs" "size" "[I", .fieldLink RX12 25 "RealSolverModel$Bigs" "sign" "[I", .fieldLink RX12 28 "RealSolverModel$Bigs" "sizes" "[I", .fieldLink RX12 31 "RealSolverModel$Bigs" "signs" "[I", .constant RX12 34 (100000), .fieldLink RX12 35 "RealSolverModel$Bigs" "one" "[I", .fieldLink RX12 38 "RealSolverModel$Bigs" "two" "[I", .code yX12_init cX12_init 1 none, .instanceMethod yX12_init, .fieldLink RX14 55 "RealSolverModel" "w" "LRealSolverModel$Bigs;"]
set_option maxRecDepth 200000 in
theorem w_law_21_in : ∀ w ∈ w_law_21, w ∈ lw_tbl := fun w h => (goodIn_r (big := lw_tbl) w_law_21 [52, 1432, 1433, 1437, 1438, 1439, 41, 1443, 1444, 1448, 1445, 1449, 1446, 1450, 1451, 1452, 1453, 1454, 1447, 1461, 1462, 1442, 1441, 1511] (by decide +kernel) (by decide +kernel) w h).1
def w_law_22 : List Cond := [.classLink RX14 45 RX13, .fieldLink RX14 40 "RealSolverModel" "polys" "[LRealSolverModel$Poly;", .fieldLink RX14 59 "RealSolverModel" "row" "[I", .fieldLink RX14 49 "RealSolverModel" "keep" "[I", .fieldLink RX14 81 "RealSolverModel" "rowIs" "[Z", .fieldLink RX14 158 "RealSolverModel" "pairA" "[I", .fieldLink RX14 164 "RealSolverModel" "pairB" "[I", .fieldLink RX14 206 "RealSolverModel" "order" "[I", .fieldLink RX14 227 "RealSolverModel" "stair" "[I", .fieldLink RX14 224 "RealSolverModel" "stairOf" "[I", .classLink RX14 246 "[[I", .fieldLink RX14 230 "RealSolverModel" "columns" "[[[I", .fieldLink RX14 248 "RealSolverModel" "columnsBy" "[I", .classLink RX14 234 "[I", .fieldLink RX14 334 "RealSolverModel" "eliminants" "[[I", .fieldLink RX14 337 "RealSolverModel" "fractions" "[[I", .fieldLink RX14 358 "RealSolverModel" "chain" "[[I", .fieldLink RX14 419 "RealSolverModel" "lows" "[I", .fieldLink RX14 422 "RealSolverModel" "highs" "[I", .fieldLink RX14 425 "RealSolverModel" "scales" "[I", .fieldLink RX14 487 "RealSolverModel" "termOf" "[I", .fieldLink RX14 496 "RealSolverModel" "termProduct" "[I", .fieldLink RX14 499 "RealSolverModel" "termNumber" "[J", .fieldLink RX14 484 "RealSolverModel" "power" "[I"]
set_option maxRecDepth 200000 in
theorem w_law_22_in : ∀ w ∈ w_law_22, w ∈ lw_tbl := fun w h => (goodIn_r (big := lw_tbl) w_law_22 [1488, 1518, 1520, 1523, 1524, 1528, 1529, 1531, 1534, 1536, 1490, 1537, 1538, 1492, 1545, 1546, 1547, 1556, 1557, 1558, 1564, 1565, 1566, 1567] (by decide +kernel) (by decide +kernel) w h).1
def w_law_23 : List Cond := [.constant RX14 565 (400000), .fieldLink RX14 513 "RealSolverModel" "text" "[B", .constant RX14 566 (60000), .fieldLink RX14 531 "RealSolverModel" "figures" "[B", .fieldLink RX12 45 "RealSolverModel$Bigs" "top" "I", .fieldLink RX12 41 "RealSolverModel$Bigs" "many" "I", .code yX12_make cX12_make 5 (some .int), .methodLink RX12 48 yX12_make, .instanceMethod yX12_make, .selects RX12 yX12_make yX12_make, .code yX12_of cX12_of 5 (some .int), .methodLink RX14 94 yX12_of, .instanceMethod yX12_of, .selects RX12 yX12_of yX12_of, .fieldLink RX14 36 "RealSolverModel" "frozen" "Z", .fieldLink RX14 71 "RealSolverModel" "baseTop" "I", .fieldLink RX14 74 "RealSolverModel" "baseMany" "I", .fieldLink RX14 33 "RealSolverModel" "polyMany" "I", .fieldLink RX14 52 "RealSolverModel" "rowTop" "I", .fieldLink RX14 68 "RealSolverModel" "divisor" "I", .code yX14_beginNumbers cX14_beginNumbers 2 none, .methodLink RX14 570 yX14_beginNumbers, .instanceMethod yX14_beginNumbers, .selects RX14 yX14_beginNumbers yX14_beginNumbers]
set_option maxRecDepth 200000 in
theorem w_law_23_in : ∀ w ∈ w_law_23, w ∈ lw_tbl := fun w h => (goodIn_r (big := lw_tbl) w_law_23 [1493, 1570, 1494, 1572, 1455, 1457, 1510, 1507, 1509, 2, 1506, 1503, 1504, 1505, 1525, 1526, 1527, 1519, 1521, 1522, 1502, 1499, 1501, 1] (by decide +kernel) (by decide +kernel) w h).1
def w_law_24 : List Cond := [.code yX14_init cX14_init 1 none, .methodLink RL 12 yX14_init, .instanceMethod yX14_init, .instantiable RX13 2]
set_option maxRecDepth 200000 in
theorem w_law_24_in : ∀ w ∈ w_law_24, w ∈ lw_tbl := fun w h => (goodIn_r (big := lw_tbl) w_law_24 [1436, 1434, 1435, 1921] (by decide +kernel) (by decide +kernel) w h).1
set_option maxRecDepth 200000 in
theorem ul_X11_in : ∀ w ∈ wsX110, w ∈ lw_tbl := fun w h => (goodIn_r (big := lw_tbl) wsX110 [459, 461, 463, 465, 467, 469, 471, 473, 475, 477, 479, 481] (by decide +kernel) (by decide +kernel) w h).1
set_option maxRecDepth 200000 in
theorem ul_X14_in : ∀ w ∈ wsX140, w ∈ lw_tbl := fun w h => (goodIn_r (big := lw_tbl) wsX140 [1574, 1576, 1578, 1580, 1582, 1584, 1586, 1588, 1590, 1592, 1594, 1596, 1598, 1600, 1602, 1604, 1606, 1608, 1610, 1612, 1614, 1616, 1618, 1620, 1622, 1624, 1626, 1628, 1630, 1632, 1634, 1636, 1638, 1640, 1642, 1644, 1646, 1648, 1650, 1652, 1654, 1656, 1658, 1660, 1662, 1664, 1666, 1668, 1670, 1672, 1674, 1676, 1678, 1680, 1682, 1684, 1686, 1688, 1690, 1692, 1694, 1696, 1698, 1700] (by decide +kernel) (by decide +kernel) w h).1
set_option maxRecDepth 200000 in
theorem ul_X7_in : ∀ w ∈ wsX70, w ∈ lw_tbl := fun w h => (goodIn_r (big := lw_tbl) wsX70 [136, 138, 140, 142, 144, 146, 148, 150, 152, 154, 156] (by decide +kernel) (by decide +kernel) w h).1
set_option maxRecDepth 200000 in
theorem ul_X3_in : ∀ w ∈ wsX30, w ∈ lw_tbl := fun w h => (goodIn_r (big := lw_tbl) wsX30 [107, 109, 111] (by decide +kernel) (by decide +kernel) w h).1
set_option maxRecDepth 200000 in
theorem ul_X2_in : ∀ w ∈ wsX20, w ∈ lw_tbl := fun w h => (goodIn_r (big := lw_tbl) wsX20 [81, 83, 85, 87, 89, 91] (by decide +kernel) (by decide +kernel) w h).1
set_option maxRecDepth 200000 in
theorem ul_X0_in : ∀ w ∈ wsX00, w ∈ lw_tbl := fun w h => (goodIn_r (big := lw_tbl) wsX00 [181, 183, 185, 187, 189, 191, 193, 195, 197, 199, 201, 203] (by decide +kernel) (by decide +kernel) w h).1
set_option maxRecDepth 200000 in
theorem ul_X6_in : ∀ w ∈ wsX60, w ∈ lw_tbl := fun w h => (goodIn_r (big := lw_tbl) wsX60 [230, 232, 234, 236, 238, 240, 242] (by decide +kernel) (by decide +kernel) w h).1
set_option maxRecDepth 200000 in
theorem ul_X4_in : ∀ w ∈ wsX40, w ∈ lw_tbl := fun w h => (goodIn_r (big := lw_tbl) wsX40 [406, 408, 410, 412, 414, 416, 418, 420, 422, 424, 426, 428, 430, 432, 434, 436, 438, 440, 442, 444] (by decide +kernel) (by decide +kernel) w h).1
set_option maxRecDepth 200000 in
theorem ul_X1_in : ∀ w ∈ wsX10, w ∈ lw_tbl := fun w h => (goodIn_r (big := lw_tbl) wsX10 [275, 277, 279] (by decide +kernel) (by decide +kernel) w h).1
set_option maxRecDepth 200000 in
theorem ul_X8_in : ∀ w ∈ wsX80, w ∈ lw_tbl := fun w h => (goodIn_r (big := lw_tbl) wsX80 [296, 298, 300, 302, 304, 306] (by decide +kernel) (by decide +kernel) w h).1
set_option maxRecDepth 200000 in
theorem ul_X10_in : ∀ w ∈ wsX100, w ∈ lw_tbl := fun w h => (goodIn_r (big := lw_tbl) wsX100 [325, 327, 329, 331, 333, 335, 337] (by decide +kernel) (by decide +kernel) w h).1
set_option maxRecDepth 200000 in
theorem ul_X9_in : ∀ w ∈ wsX90, w ∈ lw_tbl := fun w h => (goodIn_r (big := lw_tbl) wsX90 [360, 362, 364, 366, 368, 370, 372, 374, 376, 378] (by decide +kernel) (by decide +kernel) w h).1
set_option maxRecDepth 200000 in
theorem ul_X12_in : ∀ w ∈ wsX120, w ∈ lw_tbl := fun w h => (goodIn_r (big := lw_tbl) wsX120 [1463, 1465, 1467, 1469, 1471, 1473, 1475, 1477, 1479, 1481, 1483, 1485] (by decide +kernel) (by decide +kernel) w h).1
set_option maxRecDepth 200000 in
theorem ul_X13_in : ∀ w ∈ wsX130, w ∈ lw_tbl := fun w h => (goodIn_r (big := lw_tbl) wsX130 [1930, 1932] (by decide +kernel) (by decide +kernel) w h).1
def w_law : List Cond := w_law_0 ++ (w_law_1 ++ (w_law_2 ++ (w_law_3 ++ (w_law_4 ++ (w_law_5 ++ (w_law_6 ++ (w_law_7 ++ (w_law_8 ++ (w_law_9 ++ (w_law_10 ++ (w_law_11 ++ (w_law_12 ++ (w_law_13 ++ (w_law_14 ++ (w_law_15 ++ (w_law_16 ++ (w_law_17 ++ (w_law_18 ++ (w_law_19 ++ (w_law_20 ++ (w_law_21 ++ (w_law_22 ++ (w_law_23 ++ (w_law_24 ++ (wsX110 ++ (wsX140 ++ (wsX70 ++ (wsX30 ++ (wsX20 ++ (wsX00 ++ (wsX60 ++ (wsX40 ++ (wsX10 ++ (wsX80 ++ (wsX100 ++ (wsX90 ++ (wsX120 ++ (wsX130 ++ ([] : List Cond)))))))))))))))))))))))))))))))))))))))
theorem w_law_in : ∀ w ∈ w_law, w ∈ lw_tbl := List.forall_mem_append.mpr ⟨w_law_0_in, List.forall_mem_append.mpr ⟨w_law_1_in, List.forall_mem_append.mpr ⟨w_law_2_in, List.forall_mem_append.mpr ⟨w_law_3_in, List.forall_mem_append.mpr ⟨w_law_4_in, List.forall_mem_append.mpr ⟨w_law_5_in, List.forall_mem_append.mpr ⟨w_law_6_in, List.forall_mem_append.mpr ⟨w_law_7_in, List.forall_mem_append.mpr ⟨w_law_8_in, List.forall_mem_append.mpr ⟨w_law_9_in, List.forall_mem_append.mpr ⟨w_law_10_in, List.forall_mem_append.mpr ⟨w_law_11_in, List.forall_mem_append.mpr ⟨w_law_12_in, List.forall_mem_append.mpr ⟨w_law_13_in, List.forall_mem_append.mpr ⟨w_law_14_in, List.forall_mem_append.mpr ⟨w_law_15_in, List.forall_mem_append.mpr ⟨w_law_16_in, List.forall_mem_append.mpr ⟨w_law_17_in, List.forall_mem_append.mpr ⟨w_law_18_in, List.forall_mem_append.mpr ⟨w_law_19_in, List.forall_mem_append.mpr ⟨w_law_20_in, List.forall_mem_append.mpr ⟨w_law_21_in, List.forall_mem_append.mpr ⟨w_law_22_in, List.forall_mem_append.mpr ⟨w_law_23_in, List.forall_mem_append.mpr ⟨w_law_24_in, List.forall_mem_append.mpr ⟨ul_X11_in, List.forall_mem_append.mpr ⟨ul_X14_in, List.forall_mem_append.mpr ⟨ul_X7_in, List.forall_mem_append.mpr ⟨ul_X3_in, List.forall_mem_append.mpr ⟨ul_X2_in, List.forall_mem_append.mpr ⟨ul_X0_in, List.forall_mem_append.mpr ⟨ul_X6_in, List.forall_mem_append.mpr ⟨ul_X4_in, List.forall_mem_append.mpr ⟨ul_X1_in, List.forall_mem_append.mpr ⟨ul_X8_in, List.forall_mem_append.mpr ⟨ul_X10_in, List.forall_mem_append.mpr ⟨ul_X9_in, List.forall_mem_append.mpr ⟨ul_X12_in, List.forall_mem_append.mpr ⟨ul_X13_in, fun _ h => absurd h List.not_mem_nil⟩⟩⟩⟩⟩⟩⟩⟩⟩⟩⟩⟩⟩⟩⟩⟩⟩⟩⟩⟩⟩⟩⟩⟩⟩⟩⟩⟩⟩⟩⟩⟩⟩⟩⟩⟩⟩⟩⟩
theorem in_law_X11 : ∀ w ∈ wsX110, w ∈ w_law := fun _ h => List.mem_append_right _ (List.mem_append_right _ (List.mem_append_right _ (List.mem_append_right _ (List.mem_append_right _ (List.mem_append_right _ (List.mem_append_right _ (List.mem_append_right _ (List.mem_append_right _ (List.mem_append_right _ (List.mem_append_right _ (List.mem_append_right _ (List.mem_append_right _ (List.mem_append_right _ (List.mem_append_right _ (List.mem_append_right _ (List.mem_append_right _ (List.mem_append_right _ (List.mem_append_right _ (List.mem_append_right _ (List.mem_append_right _ (List.mem_append_right _ (List.mem_append_right _ (List.mem_append_right _ (List.mem_append_right _ (List.mem_append_left _ h)))))))))))))))))))))))))
theorem in_law_X14 : ∀ w ∈ wsX140, w ∈ w_law := fun _ h => List.mem_append_right _ (List.mem_append_right _ (List.mem_append_right _ (List.mem_append_right _ (List.mem_append_right _ (List.mem_append_right _ (List.mem_append_right _ (List.mem_append_right _ (List.mem_append_right _ (List.mem_append_right _ (List.mem_append_right _ (List.mem_append_right _ (List.mem_append_right _ (List.mem_append_right _ (List.mem_append_right _ (List.mem_append_right _ (List.mem_append_right _ (List.mem_append_right _ (List.mem_append_right _ (List.mem_append_right _ (List.mem_append_right _ (List.mem_append_right _ (List.mem_append_right _ (List.mem_append_right _ (List.mem_append_right _ (List.mem_append_right _ (List.mem_append_left _ h))))))))))))))))))))))))))
theorem in_law_X7 : ∀ w ∈ wsX70, w ∈ w_law := fun _ h => List.mem_append_right _ (List.mem_append_right _ (List.mem_append_right _ (List.mem_append_right _ (List.mem_append_right _ (List.mem_append_right _ (List.mem_append_right _ (List.mem_append_right _ (List.mem_append_right _ (List.mem_append_right _ (List.mem_append_right _ (List.mem_append_right _ (List.mem_append_right _ (List.mem_append_right _ (List.mem_append_right _ (List.mem_append_right _ (List.mem_append_right _ (List.mem_append_right _ (List.mem_append_right _ (List.mem_append_right _ (List.mem_append_right _ (List.mem_append_right _ (List.mem_append_right _ (List.mem_append_right _ (List.mem_append_right _ (List.mem_append_right _ (List.mem_append_right _ (List.mem_append_left _ h)))))))))))))))))))))))))))
theorem in_law_X3 : ∀ w ∈ wsX30, w ∈ w_law := fun _ h => List.mem_append_right _ (List.mem_append_right _ (List.mem_append_right _ (List.mem_append_right _ (List.mem_append_right _ (List.mem_append_right _ (List.mem_append_right _ (List.mem_append_right _ (List.mem_append_right _ (List.mem_append_right _ (List.mem_append_right _ (List.mem_append_right _ (List.mem_append_right _ (List.mem_append_right _ (List.mem_append_right _ (List.mem_append_right _ (List.mem_append_right _ (List.mem_append_right _ (List.mem_append_right _ (List.mem_append_right _ (List.mem_append_right _ (List.mem_append_right _ (List.mem_append_right _ (List.mem_append_right _ (List.mem_append_right _ (List.mem_append_right _ (List.mem_append_right _ (List.mem_append_right _ (List.mem_append_left _ h))))))))))))))))))))))))))))
theorem in_law_X2 : ∀ w ∈ wsX20, w ∈ w_law := fun _ h => List.mem_append_right _ (List.mem_append_right _ (List.mem_append_right _ (List.mem_append_right _ (List.mem_append_right _ (List.mem_append_right _ (List.mem_append_right _ (List.mem_append_right _ (List.mem_append_right _ (List.mem_append_right _ (List.mem_append_right _ (List.mem_append_right _ (List.mem_append_right _ (List.mem_append_right _ (List.mem_append_right _ (List.mem_append_right _ (List.mem_append_right _ (List.mem_append_right _ (List.mem_append_right _ (List.mem_append_right _ (List.mem_append_right _ (List.mem_append_right _ (List.mem_append_right _ (List.mem_append_right _ (List.mem_append_right _ (List.mem_append_right _ (List.mem_append_right _ (List.mem_append_right _ (List.mem_append_right _ (List.mem_append_left _ h)))))))))))))))))))))))))))))
theorem in_law_X0 : ∀ w ∈ wsX00, w ∈ w_law := fun _ h => List.mem_append_right _ (List.mem_append_right _ (List.mem_append_right _ (List.mem_append_right _ (List.mem_append_right _ (List.mem_append_right _ (List.mem_append_right _ (List.mem_append_right _ (List.mem_append_right _ (List.mem_append_right _ (List.mem_append_right _ (List.mem_append_right _ (List.mem_append_right _ (List.mem_append_right _ (List.mem_append_right _ (List.mem_append_right _ (List.mem_append_right _ (List.mem_append_right _ (List.mem_append_right _ (List.mem_append_right _ (List.mem_append_right _ (List.mem_append_right _ (List.mem_append_right _ (List.mem_append_right _ (List.mem_append_right _ (List.mem_append_right _ (List.mem_append_right _ (List.mem_append_right _ (List.mem_append_right _ (List.mem_append_right _ (List.mem_append_left _ h))))))))))))))))))))))))))))))
theorem in_law_X6 : ∀ w ∈ wsX60, w ∈ w_law := fun _ h => List.mem_append_right _ (List.mem_append_right _ (List.mem_append_right _ (List.mem_append_right _ (List.mem_append_right _ (List.mem_append_right _ (List.mem_append_right _ (List.mem_append_right _ (List.mem_append_right _ (List.mem_append_right _ (List.mem_append_right _ (List.mem_append_right _ (List.mem_append_right _ (List.mem_append_right _ (List.mem_append_right _ (List.mem_append_right _ (List.mem_append_right _ (List.mem_append_right _ (List.mem_append_right _ (List.mem_append_right _ (List.mem_append_right _ (List.mem_append_right _ (List.mem_append_right _ (List.mem_append_right _ (List.mem_append_right _ (List.mem_append_right _ (List.mem_append_right _ (List.mem_append_right _ (List.mem_append_right _ (List.mem_append_right _ (List.mem_append_right _ (List.mem_append_left _ h)))))))))))))))))))))))))))))))
theorem in_law_X4 : ∀ w ∈ wsX40, w ∈ w_law := fun _ h => List.mem_append_right _ (List.mem_append_right _ (List.mem_append_right _ (List.mem_append_right _ (List.mem_append_right _ (List.mem_append_right _ (List.mem_append_right _ (List.mem_append_right _ (List.mem_append_right _ (List.mem_append_right _ (List.mem_append_right _ (List.mem_append_right _ (List.mem_append_right _ (List.mem_append_right _ (List.mem_append_right _ (List.mem_append_right _ (List.mem_append_right _ (List.mem_append_right _ (List.mem_append_right _ (List.mem_append_right _ (List.mem_append_right _ (List.mem_append_right _ (List.mem_append_right _ (List.mem_append_right _ (List.mem_append_right _ (List.mem_append_right _ (List.mem_append_right _ (List.mem_append_right _ (List.mem_append_right _ (List.mem_append_right _ (List.mem_append_right _ (List.mem_append_right _ (List.mem_append_left _ h))))))))))))))))))))))))))))))))
theorem in_law_X1 : ∀ w ∈ wsX10, w ∈ w_law := fun _ h => List.mem_append_right _ (List.mem_append_right _ (List.mem_append_right _ (List.mem_append_right _ (List.mem_append_right _ (List.mem_append_right _ (List.mem_append_right _ (List.mem_append_right _ (List.mem_append_right _ (List.mem_append_right _ (List.mem_append_right _ (List.mem_append_right _ (List.mem_append_right _ (List.mem_append_right _ (List.mem_append_right _ (List.mem_append_right _ (List.mem_append_right _ (List.mem_append_right _ (List.mem_append_right _ (List.mem_append_right _ (List.mem_append_right _ (List.mem_append_right _ (List.mem_append_right _ (List.mem_append_right _ (List.mem_append_right _ (List.mem_append_right _ (List.mem_append_right _ (List.mem_append_right _ (List.mem_append_right _ (List.mem_append_right _ (List.mem_append_right _ (List.mem_append_right _ (List.mem_append_right _ (List.mem_append_left _ h)))))))))))))))))))))))))))))))))
theorem in_law_X8 : ∀ w ∈ wsX80, w ∈ w_law := fun _ h => List.mem_append_right _ (List.mem_append_right _ (List.mem_append_right _ (List.mem_append_right _ (List.mem_append_right _ (List.mem_append_right _ (List.mem_append_right _ (List.mem_append_right _ (List.mem_append_right _ (List.mem_append_right _ (List.mem_append_right _ (List.mem_append_right _ (List.mem_append_right _ (List.mem_append_right _ (List.mem_append_right _ (List.mem_append_right _ (List.mem_append_right _ (List.mem_append_right _ (List.mem_append_right _ (List.mem_append_right _ (List.mem_append_right _ (List.mem_append_right _ (List.mem_append_right _ (List.mem_append_right _ (List.mem_append_right _ (List.mem_append_right _ (List.mem_append_right _ (List.mem_append_right _ (List.mem_append_right _ (List.mem_append_right _ (List.mem_append_right _ (List.mem_append_right _ (List.mem_append_right _ (List.mem_append_right _ (List.mem_append_left _ h))))))))))))))))))))))))))))))))))
theorem in_law_X10 : ∀ w ∈ wsX100, w ∈ w_law := fun _ h => List.mem_append_right _ (List.mem_append_right _ (List.mem_append_right _ (List.mem_append_right _ (List.mem_append_right _ (List.mem_append_right _ (List.mem_append_right _ (List.mem_append_right _ (List.mem_append_right _ (List.mem_append_right _ (List.mem_append_right _ (List.mem_append_right _ (List.mem_append_right _ (List.mem_append_right _ (List.mem_append_right _ (List.mem_append_right _ (List.mem_append_right _ (List.mem_append_right _ (List.mem_append_right _ (List.mem_append_right _ (List.mem_append_right _ (List.mem_append_right _ (List.mem_append_right _ (List.mem_append_right _ (List.mem_append_right _ (List.mem_append_right _ (List.mem_append_right _ (List.mem_append_right _ (List.mem_append_right _ (List.mem_append_right _ (List.mem_append_right _ (List.mem_append_right _ (List.mem_append_right _ (List.mem_append_right _ (List.mem_append_right _ (List.mem_append_left _ h)))))))))))))))))))))))))))))))))))
theorem in_law_X9 : ∀ w ∈ wsX90, w ∈ w_law := fun _ h => List.mem_append_right _ (List.mem_append_right _ (List.mem_append_right _ (List.mem_append_right _ (List.mem_append_right _ (List.mem_append_right _ (List.mem_append_right _ (List.mem_append_right _ (List.mem_append_right _ (List.mem_append_right _ (List.mem_append_right _ (List.mem_append_right _ (List.mem_append_right _ (List.mem_append_right _ (List.mem_append_right _ (List.mem_append_right _ (List.mem_append_right _ (List.mem_append_right _ (List.mem_append_right _ (List.mem_append_right _ (List.mem_append_right _ (List.mem_append_right _ (List.mem_append_right _ (List.mem_append_right _ (List.mem_append_right _ (List.mem_append_right _ (List.mem_append_right _ (List.mem_append_right _ (List.mem_append_right _ (List.mem_append_right _ (List.mem_append_right _ (List.mem_append_right _ (List.mem_append_right _ (List.mem_append_right _ (List.mem_append_right _ (List.mem_append_right _ (List.mem_append_left _ h))))))))))))))))))))))))))))))))))))
theorem in_law_X12 : ∀ w ∈ wsX120, w ∈ w_law := fun _ h => List.mem_append_right _ (List.mem_append_right _ (List.mem_append_right _ (List.mem_append_right _ (List.mem_append_right _ (List.mem_append_right _ (List.mem_append_right _ (List.mem_append_right _ (List.mem_append_right _ (List.mem_append_right _ (List.mem_append_right _ (List.mem_append_right _ (List.mem_append_right _ (List.mem_append_right _ (List.mem_append_right _ (List.mem_append_right _ (List.mem_append_right _ (List.mem_append_right _ (List.mem_append_right _ (List.mem_append_right _ (List.mem_append_right _ (List.mem_append_right _ (List.mem_append_right _ (List.mem_append_right _ (List.mem_append_right _ (List.mem_append_right _ (List.mem_append_right _ (List.mem_append_right _ (List.mem_append_right _ (List.mem_append_right _ (List.mem_append_right _ (List.mem_append_right _ (List.mem_append_right _ (List.mem_append_right _ (List.mem_append_right _ (List.mem_append_right _ (List.mem_append_right _ (List.mem_append_left _ h)))))))))))))))))))))))))))))))))))))
theorem in_law_X13 : ∀ w ∈ wsX130, w ∈ w_law := fun _ h => List.mem_append_right _ (List.mem_append_right _ (List.mem_append_right _ (List.mem_append_right _ (List.mem_append_right _ (List.mem_append_right _ (List.mem_append_right _ (List.mem_append_right _ (List.mem_append_right _ (List.mem_append_right _ (List.mem_append_right _ (List.mem_append_right _ (List.mem_append_right _ (List.mem_append_right _ (List.mem_append_right _ (List.mem_append_right _ (List.mem_append_right _ (List.mem_append_right _ (List.mem_append_right _ (List.mem_append_right _ (List.mem_append_right _ (List.mem_append_right _ (List.mem_append_right _ (List.mem_append_right _ (List.mem_append_right _ (List.mem_append_right _ (List.mem_append_right _ (List.mem_append_right _ (List.mem_append_right _ (List.mem_append_right _ (List.mem_append_right _ (List.mem_append_right _ (List.mem_append_right _ (List.mem_append_right _ (List.mem_append_right _ (List.mem_append_right _ (List.mem_append_right _ (List.mem_append_right _ (List.mem_append_left _ h))))))))))))))))))))))))))))))))))))))
set_option maxRecDepth 20000 in
theorem g_law_X11_variables_13 : GoodIn w_law (wsV RL 13 RX11 yX11_variables w_X11_variables) := goodIn_r _ [13, 14, 15, 5, 12, 0, 1, 2, 3, 4, 5, 6, 7, 8, 9, 10, 11, 580, 581, 582, 583, 584, 585, 586, 587, 588, 589, 590, 591] (by decide +kernel) (by decide +kernel)
set_option maxRecDepth 20000 in
theorem g_law_X14_variables_17 : GoodIn w_law (wsV RL 17 RX14 yX14_variables w_X14_variables) := goodIn_r _ [38, 39, 40, 21, 37, 16, 17, 18, 19, 20, 21, 22, 23, 24, 25, 26, 27, 28, 29, 30, 31, 32, 33, 34, 35, 36, 592, 593, 594, 595, 596, 597, 598, 599, 600, 601, 602, 603, 604, 605, 606, 607, 608, 609, 610, 611, 612, 613, 614, 615, 616, 617, 618, 619, 620, 621, 622, 623, 624, 625, 626, 627, 628, 629, 630, 631, 632, 633, 634, 635, 636, 637, 638, 639, 640, 641, 642, 643, 644, 645, 646, 647, 648, 649, 650, 651, 652, 653, 654, 655] (by decide +kernel) (by decide +kernel)
set_option maxRecDepth 20000 in
theorem g_law_X11_feed_18 : GoodIn w_law (wsV RL 18 RX11 yX11_feed w_X11_feed) := goodIn_r _ [48, 49, 50, 5, 47, 41, 42, 43, 44, 45, 46, 5, 0, 8, 9, 10, 11, 580, 581, 582, 583, 584, 585, 586, 587, 588, 589, 590, 591] (by decide +kernel) (by decide +kernel)
set_option maxRecDepth 20000 in
theorem g_law_X14_feed_22 : GoodIn w_law (wsV RL 22 RX14 yX14_feed w_X14_feed) := goodIn_r _ [54, 55, 56, 21, 53, 51, 52, 16, 33, 34, 35, 36, 21, 592, 593, 594, 595, 596, 597, 598, 599, 600, 601, 602, 603, 604, 605, 606, 607, 608, 609, 610, 611, 612, 613, 614, 615, 616, 617, 618, 619, 620, 621, 622, 623, 624, 625, 626, 627, 628, 629, 630, 631, 632, 633, 634, 635, 636, 637, 638, 639, 640, 641, 642, 643, 644, 645, 646, 647, 648, 649, 650, 651, 652, 653, 654, 655] (by decide +kernel) (by decide +kernel)
set_option maxRecDepth 20000 in
theorem g_law_X11_end_23 : GoodIn w_law (wsV RL 23 RX11 yX11_end w_X11_end) := goodIn_r _ [58, 59, 60, 5, 57, 0, 1, 2, 3, 4, 5, 41, 8, 9, 10, 11, 580, 581, 582, 583, 584, 585, 586, 587, 588, 589, 590, 591] (by decide +kernel) (by decide +kernel)
set_option maxRecDepth 20000 in
theorem g_law_X14_end_26 : GoodIn w_law (wsV RL 26 RX14 yX14_end w_X14_end) := goodIn_r _ [62, 63, 64, 21, 61, 16, 17, 18, 19, 20, 21, 51, 33, 34, 35, 36, 592, 593, 594, 595, 596, 597, 598, 599, 600, 601, 602, 603, 604, 605, 606, 607, 608, 609, 610, 611, 612, 613, 614, 615, 616, 617, 618, 619, 620, 621, 622, 623, 624, 625, 626, 627, 628, 629, 630, 631, 632, 633, 634, 635, 636, 637, 638, 639, 640, 641, 642, 643, 644, 645, 646, 647, 648, 649, 650, 651, 652, 653, 654, 655] (by decide +kernel) (by decide +kernel)
set_option maxRecDepth 20000 in
theorem g_law_X11_solve_27 : GoodIn w_law (wsV RL 27 RX11 yX11_solve w_X11_solve) := goodIn_r _ [113, 114, 115, 5, 112, 65, 42, 41, 66, 67, 68, 69, 5, 6, 70, 71, 72, 73, 74, 75, 76, 77, 78, 79, 80, 81, 82, 83, 84, 85, 86, 87, 88, 89, 90, 91, 92, 93, 94, 95, 96, 97, 98, 99, 100, 101, 102, 103, 104, 105, 106, 107, 108, 109, 110, 111, 0, 1, 2, 3, 4, 580, 581, 582, 583, 584, 585, 586, 587, 588, 589, 590, 591, 656, 657, 658, 659, 660, 661, 662, 663, 664, 665, 666] (by decide +kernel) (by decide +kernel)
set_option maxRecDepth 20000 in
theorem g_law_X14_solve_31 : GoodIn w_law (wsV RL 31 RX14 yX14_solve w_X14_solve) := goodIn_r _ [151, 152, 153, 21, 150, 116, 117, 118, 119, 120, 121, 122, 123, 21, 22, 51, 124, 125, 126, 127, 128, 129, 130, 131, 132, 133, 134, 135, 136, 137, 138, 139, 140, 141, 142, 143, 144, 145, 146, 147, 148, 149, 16, 17, 18, 19, 20, 592, 593, 594, 595, 596, 597, 598, 599, 600, 601, 602, 603, 604, 605, 606, 607, 608, 609, 610, 611, 612, 613, 614, 615, 616, 617, 618, 619, 620, 621, 622, 623, 624, 625, 626, 627, 628, 629, 630, 631, 632, 633, 634, 635, 636, 637, 638, 639, 640, 641, 642, 643, 644, 645, 646, 647, 648, 649, 650, 651, 652, 653, 654, 655] (by decide +kernel) (by decide +kernel)
set_option maxRecDepth 20000 in
theorem g_law_X11_place_32 : GoodIn w_law (wsV RL 32 RX11 yX11_place w_X11_place) := goodIn_r _ [155, 156, 157, 5, 154, 111, 580, 581, 582, 583, 584, 585, 586, 587, 588, 589, 590, 591] (by decide +kernel) (by decide +kernel)
set_option maxRecDepth 20000 in
theorem g_law_X14_place_35 : GoodIn w_law (wsV RL 35 RX14 yX14_place w_X14_place) := goodIn_r _ [159, 160, 161, 21, 158, 117, 592, 593, 594, 595, 596, 597, 598, 599, 600, 601, 602, 603, 604, 605, 606, 607, 608, 609, 610, 611, 612, 613, 614, 615, 616, 617, 618, 619, 620, 621, 622, 623, 624, 625, 626, 627, 628, 629, 630, 631, 632, 633, 634, 635, 636, 637, 638, 639, 640, 641, 642, 643, 644, 645, 646, 647, 648, 649, 650, 651, 652, 653, 654, 655] (by decide +kernel) (by decide +kernel)
set_option maxRecDepth 20000 in
theorem g_law_X11_basis_36 : GoodIn w_law (wsV RL 36 RX11 yX11_basis w_X11_basis) := goodIn_r _ [163, 164, 165, 5, 162, 7, 0, 1, 2, 3, 4, 5, 580, 581, 582, 583, 584, 585, 586, 587, 588, 589, 590, 591] (by decide +kernel) (by decide +kernel)
set_option maxRecDepth 20000 in
theorem g_law_X14_basis_39 : GoodIn w_law (wsV RL 39 RX14 yX14_basis w_X14_basis) := goodIn_r _ [167, 168, 169, 21, 166, 32, 16, 17, 18, 19, 20, 21, 592, 593, 594, 595, 596, 597, 598, 599, 600, 601, 602, 603, 604, 605, 606, 607, 608, 609, 610, 611, 612, 613, 614, 615, 616, 617, 618, 619, 620, 621, 622, 623, 624, 625, 626, 627, 628, 629, 630, 631, 632, 633, 634, 635, 636, 637, 638, 639, 640, 641, 642, 643, 644, 645, 646, 647, 648, 649, 650, 651, 652, 653, 654, 655] (by decide +kernel) (by decide +kernel)
set_option maxRecDepth 20000 in
theorem g_law_X11_poly_40 : GoodIn w_law (wsV RL 40 RX11 yX11_poly w_X11_poly) := goodIn_r _ [171, 172, 173, 5, 170, 7, 0, 1, 2, 3, 4, 5, 580, 581, 582, 583, 584, 585, 586, 587, 588, 589, 590, 591] (by decide +kernel) (by decide +kernel)
set_option maxRecDepth 20000 in
theorem g_law_X14_poly_43 : GoodIn w_law (wsV RL 43 RX14 yX14_poly w_X14_poly) := goodIn_r _ [175, 176, 177, 21, 174, 32, 16, 17, 18, 19, 20, 21, 592, 593, 594, 595, 596, 597, 598, 599, 600, 601, 602, 603, 604, 605, 606, 607, 608, 609, 610, 611, 612, 613, 614, 615, 616, 617, 618, 619, 620, 621, 622, 623, 624, 625, 626, 627, 628, 629, 630, 631, 632, 633, 634, 635, 636, 637, 638, 639, 640, 641, 642, 643, 644, 645, 646, 647, 648, 649, 650, 651, 652, 653, 654, 655] (by decide +kernel) (by decide +kernel)
set_option maxRecDepth 20000 in
theorem g_law_X11_stairs_44 : GoodIn w_law (wsV RL 44 RX11 yX11_stairs w_X11_stairs) := goodIn_r _ [183, 184, 185, 5, 182, 7, 178, 179, 180, 181, 5, 0, 1, 2, 3, 4, 580, 581, 582, 583, 584, 585, 586, 587, 588, 589, 590, 591] (by decide +kernel) (by decide +kernel)
set_option maxRecDepth 20000 in
theorem g_law_X14_stairs_47 : GoodIn w_law (wsV RL 47 RX14 yX14_stairs w_X14_stairs) := goodIn_r _ [191, 192, 193, 21, 190, 32, 186, 187, 188, 189, 21, 16, 17, 18, 19, 20, 592, 593, 594, 595, 596, 597, 598, 599, 600, 601, 602, 603, 604, 605, 606, 607, 608, 609, 610, 611, 612, 613, 614, 615, 616, 617, 618, 619, 620, 621, 622, 623, 624, 625, 626, 627, 628, 629, 630, 631, 632, 633, 634, 635, 636, 637, 638, 639, 640, 641, 642, 643, 644, 645, 646, 647, 648, 649, 650, 651, 652, 653, 654, 655] (by decide +kernel) (by decide +kernel)
set_option maxRecDepth 20000 in
theorem g_law_X11_stair_48 : GoodIn w_law (wsV RL 48 RX11 yX11_stair w_X11_stair) := goodIn_r _ [195, 196, 197, 5, 194, 7, 178, 179, 180, 181, 5, 0, 1, 2, 3, 4, 580, 581, 582, 583, 584, 585, 586, 587, 588, 589, 590, 591] (by decide +kernel) (by decide +kernel)
set_option maxRecDepth 20000 in
theorem g_law_X14_stair_51 : GoodIn w_law (wsV RL 51 RX14 yX14_stair w_X14_stair) := goodIn_r _ [199, 200, 201, 21, 198, 32, 186, 187, 188, 189, 21, 16, 17, 18, 19, 20, 592, 593, 594, 595, 596, 597, 598, 599, 600, 601, 602, 603, 604, 605, 606, 607, 608, 609, 610, 611, 612, 613, 614, 615, 616, 617, 618, 619, 620, 621, 622, 623, 624, 625, 626, 627, 628, 629, 630, 631, 632, 633, 634, 635, 636, 637, 638, 639, 640, 641, 642, 643, 644, 645, 646, 647, 648, 649, 650, 651, 652, 653, 654, 655] (by decide +kernel) (by decide +kernel)
set_option maxRecDepth 20000 in
theorem g_law_X11_rest_52 : GoodIn w_law (wsV RL 52 RX11 yX11_rest w_X11_rest) := goodIn_r _ [203, 204, 205, 5, 202, 7, 0, 1, 2, 3, 4, 5, 580, 581, 582, 583, 584, 585, 586, 587, 588, 589, 590, 591] (by decide +kernel) (by decide +kernel)
set_option maxRecDepth 20000 in
theorem g_law_X14_rest_55 : GoodIn w_law (wsV RL 55 RX14 yX14_rest w_X14_rest) := goodIn_r _ [207, 208, 209, 21, 206, 32, 16, 17, 18, 19, 20, 21, 592, 593, 594, 595, 596, 597, 598, 599, 600, 601, 602, 603, 604, 605, 606, 607, 608, 609, 610, 611, 612, 613, 614, 615, 616, 617, 618, 619, 620, 621, 622, 623, 624, 625, 626, 627, 628, 629, 630, 631, 632, 633, 634, 635, 636, 637, 638, 639, 640, 641, 642, 643, 644, 645, 646, 647, 648, 649, 650, 651, 652, 653, 654, 655] (by decide +kernel) (by decide +kernel)
set_option maxRecDepth 20000 in
theorem g_law_X11_zeros_56 : GoodIn w_law (wsV RL 56 RX11 yX11_zeros w_X11_zeros) := goodIn_r _ [211, 212, 213, 5, 210, 7, 178, 179, 180, 181, 5, 0, 1, 2, 3, 4, 580, 581, 582, 583, 584, 585, 586, 587, 588, 589, 590, 591] (by decide +kernel) (by decide +kernel)
set_option maxRecDepth 20000 in
theorem g_law_X14_zeros_59 : GoodIn w_law (wsV RL 59 RX14 yX14_zeros w_X14_zeros) := goodIn_r _ [215, 216, 217, 21, 214, 32, 186, 187, 188, 189, 21, 16, 17, 18, 19, 20, 592, 593, 594, 595, 596, 597, 598, 599, 600, 601, 602, 603, 604, 605, 606, 607, 608, 609, 610, 611, 612, 613, 614, 615, 616, 617, 618, 619, 620, 621, 622, 623, 624, 625, 626, 627, 628, 629, 630, 631, 632, 633, 634, 635, 636, 637, 638, 639, 640, 641, 642, 643, 644, 645, 646, 647, 648, 649, 650, 651, 652, 653, 654, 655] (by decide +kernel) (by decide +kernel)
set_option maxRecDepth 20000 in
theorem g_law_X11_form_60 : GoodIn w_law (wsV RL 60 RX11 yX11_form w_X11_form) := goodIn_r _ [219, 220, 221, 5, 218, 7, 178, 179, 180, 181, 5, 0, 1, 2, 3, 4, 580, 581, 582, 583, 584, 585, 586, 587, 588, 589, 590, 591] (by decide +kernel) (by decide +kernel)
set_option maxRecDepth 20000 in
theorem g_law_X14_form_63 : GoodIn w_law (wsV RL 63 RX14 yX14_form w_X14_form) := goodIn_r _ [223, 224, 225, 21, 222, 32, 186, 187, 188, 189, 21, 16, 17, 18, 19, 20, 592, 593, 594, 595, 596, 597, 598, 599, 600, 601, 602, 603, 604, 605, 606, 607, 608, 609, 610, 611, 612, 613, 614, 615, 616, 617, 618, 619, 620, 621, 622, 623, 624, 625, 626, 627, 628, 629, 630, 631, 632, 633, 634, 635, 636, 637, 638, 639, 640, 641, 642, 643, 644, 645, 646, 647, 648, 649, 650, 651, 652, 653, 654, 655] (by decide +kernel) (by decide +kernel)
set_option maxRecDepth 20000 in
theorem g_law_X11_eliminant_64 : GoodIn w_law (wsV RL 64 RX11 yX11_eliminant w_X11_eliminant) := goodIn_r _ [231, 232, 233, 5, 230, 7, 178, 179, 180, 181, 5, 226, 227, 228, 229, 0, 1, 2, 3, 4, 580, 581, 582, 583, 584, 585, 586, 587, 588, 589, 590, 591] (by decide +kernel) (by decide +kernel)
set_option maxRecDepth 20000 in
theorem g_law_X14_eliminant_67 : GoodIn w_law (wsV RL 67 RX14 yX14_eliminant w_X14_eliminant) := goodIn_r _ [235, 236, 237, 21, 234, 32, 186, 187, 188, 189, 21, 16, 17, 18, 19, 20, 592, 593, 594, 595, 596, 597, 598, 599, 600, 601, 602, 603, 604, 605, 606, 607, 608, 609, 610, 611, 612, 613, 614, 615, 616, 617, 618, 619, 620, 621, 622, 623, 624, 625, 626, 627, 628, 629, 630, 631, 632, 633, 634, 635, 636, 637, 638, 639, 640, 641, 642, 643, 644, 645, 646, 647, 648, 649, 650, 651, 652, 653, 654, 655] (by decide +kernel) (by decide +kernel)
set_option maxRecDepth 20000 in
theorem g_law_X11_fraction_68 : GoodIn w_law (wsV RL 68 RX11 yX11_fraction w_X11_fraction) := goodIn_r _ [239, 240, 241, 5, 238, 7, 178, 179, 180, 181, 5, 226, 227, 228, 229, 0, 1, 2, 3, 4, 580, 581, 582, 583, 584, 585, 586, 587, 588, 589, 590, 591] (by decide +kernel) (by decide +kernel)
set_option maxRecDepth 20000 in
theorem g_law_X14_fraction_71 : GoodIn w_law (wsV RL 71 RX14 yX14_fraction w_X14_fraction) := goodIn_r _ [243, 244, 245, 21, 242, 32, 186, 187, 188, 189, 21, 16, 17, 18, 19, 20, 592, 593, 594, 595, 596, 597, 598, 599, 600, 601, 602, 603, 604, 605, 606, 607, 608, 609, 610, 611, 612, 613, 614, 615, 616, 617, 618, 619, 620, 621, 622, 623, 624, 625, 626, 627, 628, 629, 630, 631, 632, 633, 634, 635, 636, 637, 638, 639, 640, 641, 642, 643, 644, 645, 646, 647, 648, 649, 650, 651, 652, 653, 654, 655] (by decide +kernel) (by decide +kernel)
set_option maxRecDepth 20000 in
theorem g_law_X11_real_72 : GoodIn w_law (wsV RL 72 RX11 yX11_real w_X11_real) := goodIn_r _ [247, 248, 249, 5, 246, 7, 178, 179, 180, 181, 5, 0, 1, 2, 3, 4, 580, 581, 582, 583, 584, 585, 586, 587, 588, 589, 590, 591] (by decide +kernel) (by decide +kernel)
set_option maxRecDepth 20000 in
theorem g_law_X14_real_75 : GoodIn w_law (wsV RL 75 RX14 yX14_real w_X14_real) := goodIn_r _ [251, 252, 253, 21, 250, 32, 186, 187, 188, 189, 21, 16, 17, 18, 19, 20, 592, 593, 594, 595, 596, 597, 598, 599, 600, 601, 602, 603, 604, 605, 606, 607, 608, 609, 610, 611, 612, 613, 614, 615, 616, 617, 618, 619, 620, 621, 622, 623, 624, 625, 626, 627, 628, 629, 630, 631, 632, 633, 634, 635, 636, 637, 638, 639, 640, 641, 642, 643, 644, 645, 646, 647, 648, 649, 650, 651, 652, 653, 654, 655] (by decide +kernel) (by decide +kernel)
set_option maxRecDepth 20000 in
theorem g_law_X11_multiplicity_76 : GoodIn w_law (wsV RL 76 RX11 yX11_multiplicity w_X11_multiplicity) := goodIn_r _ [259, 260, 261, 5, 258, 7, 178, 179, 180, 181, 5, 254, 255, 256, 257, 0, 1, 2, 3, 4, 580, 581, 582, 583, 584, 585, 586, 587, 588, 589, 590, 591] (by decide +kernel) (by decide +kernel)
set_option maxRecDepth 20000 in
theorem g_law_X14_multiplicity_79 : GoodIn w_law (wsV RL 79 RX14 yX14_multiplicity w_X14_multiplicity) := goodIn_r _ [267, 268, 269, 21, 266, 32, 186, 187, 188, 189, 21, 262, 263, 264, 265, 16, 17, 18, 19, 20, 592, 593, 594, 595, 596, 597, 598, 599, 600, 601, 602, 603, 604, 605, 606, 607, 608, 609, 610, 611, 612, 613, 614, 615, 616, 617, 618, 619, 620, 621, 622, 623, 624, 625, 626, 627, 628, 629, 630, 631, 632, 633, 634, 635, 636, 637, 638, 639, 640, 641, 642, 643, 644, 645, 646, 647, 648, 649, 650, 651, 652, 653, 654, 655] (by decide +kernel) (by decide +kernel)
set_option maxRecDepth 20000 in
theorem g_law_X11_rank_80 : GoodIn w_law (wsV RL 80 RX11 yX11_rank w_X11_rank) := goodIn_r _ [275, 276, 277, 5, 274, 7, 178, 179, 180, 181, 5, 226, 227, 228, 229, 270, 271, 272, 273, 0, 1, 2, 3, 4, 580, 581, 582, 583, 584, 585, 586, 587, 588, 589, 590, 591] (by decide +kernel) (by decide +kernel)
set_option maxRecDepth 20000 in
theorem g_law_X14_rank_84 : GoodIn w_law (wsV RL 84 RX14 yX14_rank w_X14_rank) := goodIn_r _ [279, 280, 281, 21, 278, 32, 186, 187, 188, 189, 21, 262, 263, 264, 265, 16, 17, 18, 19, 20, 592, 593, 594, 595, 596, 597, 598, 599, 600, 601, 602, 603, 604, 605, 606, 607, 608, 609, 610, 611, 612, 613, 614, 615, 616, 617, 618, 619, 620, 621, 622, 623, 624, 625, 626, 627, 628, 629, 630, 631, 632, 633, 634, 635, 636, 637, 638, 639, 640, 641, 642, 643, 644, 645, 646, 647, 648, 649, 650, 651, 652, 653, 654, 655] (by decide +kernel) (by decide +kernel)
set_option maxRecDepth 20000 in
theorem g_law_X11_floor_85 : GoodIn w_law (wsV RL 85 RX11 yX11_floor w_X11_floor) := goodIn_r _ [283, 284, 285, 5, 282, 0, 1, 2, 3, 4, 5, 7, 178, 179, 180, 181, 226, 227, 228, 229, 270, 271, 272, 273, 580, 581, 582, 583, 584, 585, 586, 587, 588, 589, 590, 591] (by decide +kernel) (by decide +kernel)
set_option maxRecDepth 20000 in
theorem g_law_X14_floor_89 : GoodIn w_law (wsV RL 89 RX14 yX14_floor w_X14_floor) := goodIn_r _ [291, 292, 293, 21, 290, 32, 186, 187, 188, 189, 21, 262, 263, 264, 265, 286, 287, 288, 289, 16, 17, 18, 19, 20, 592, 593, 594, 595, 596, 597, 598, 599, 600, 601, 602, 603, 604, 605, 606, 607, 608, 609, 610, 611, 612, 613, 614, 615, 616, 617, 618, 619, 620, 621, 622, 623, 624, 625, 626, 627, 628, 629, 630, 631, 632, 633, 634, 635, 636, 637, 638, 639, 640, 641, 642, 643, 644, 645, 646, 647, 648, 649, 650, 651, 652, 653, 654, 655] (by decide +kernel) (by decide +kernel)
set_option maxRecDepth 20000 in
theorem g_law_X11_exact_90 : GoodIn w_law (wsV RL 90 RX11 yX11_exact w_X11_exact) := goodIn_r _ [295, 296, 297, 5, 294, 0, 1, 2, 3, 4, 5, 7, 178, 179, 180, 181, 226, 227, 228, 229, 270, 271, 272, 273, 580, 581, 582, 583, 584, 585, 586, 587, 588, 589, 590, 591] (by decide +kernel) (by decide +kernel)
set_option maxRecDepth 20000 in
theorem g_law_X14_exact_93 : GoodIn w_law (wsV RL 93 RX14 yX14_exact w_X14_exact) := goodIn_r _ [299, 300, 301, 21, 298, 32, 186, 187, 188, 189, 21, 262, 263, 264, 265, 286, 287, 288, 289, 16, 17, 18, 19, 20, 592, 593, 594, 595, 596, 597, 598, 599, 600, 601, 602, 603, 604, 605, 606, 607, 608, 609, 610, 611, 612, 613, 614, 615, 616, 617, 618, 619, 620, 621, 622, 623, 624, 625, 626, 627, 628, 629, 630, 631, 632, 633, 634, 635, 636, 637, 638, 639, 640, 641, 642, 643, 644, 645, 646, 647, 648, 649, 650, 651, 652, 653, 654, 655] (by decide +kernel) (by decide +kernel)
set_option maxRecDepth 20000 in
theorem g_law_X11_apart_94 : GoodIn w_law (wsV RL 94 RX11 yX11_apart w_X11_apart) := goodIn_r _ [303, 304, 305, 5, 302, 7, 178, 179, 180, 181, 5, 0, 1, 2, 3, 4, 580, 581, 582, 583, 584, 585, 586, 587, 588, 589, 590, 591] (by decide +kernel) (by decide +kernel)
set_option maxRecDepth 20000 in
theorem g_law_X14_apart_97 : GoodIn w_law (wsV RL 97 RX14 yX14_apart w_X14_apart) := goodIn_r _ [307, 308, 309, 21, 306, 32, 186, 187, 188, 189, 21, 16, 17, 18, 19, 20, 592, 593, 594, 595, 596, 597, 598, 599, 600, 601, 602, 603, 604, 605, 606, 607, 608, 609, 610, 611, 612, 613, 614, 615, 616, 617, 618, 619, 620, 621, 622, 623, 624, 625, 626, 627, 628, 629, 630, 631, 632, 633, 634, 635, 636, 637, 638, 639, 640, 641, 642, 643, 644, 645, 646, 647, 648, 649, 650, 651, 652, 653, 654, 655] (by decide +kernel) (by decide +kernel)
set_option maxRecDepth 20000 in
theorem g_law_X11_sign_98 : GoodIn w_law (wsV RL 98 RX11 yX11_sign w_X11_sign) := goodIn_r _ [311, 312, 313, 5, 310, 7, 178, 179, 180, 181, 5, 254, 255, 256, 257, 0, 1, 2, 3, 4, 580, 581, 582, 583, 584, 585, 586, 587, 588, 589, 590, 591] (by decide +kernel) (by decide +kernel)
set_option maxRecDepth 20000 in
theorem g_law_X14_sign_101 : GoodIn w_law (wsV RL 101 RX14 yX14_sign w_X14_sign) := goodIn_r _ [315, 316, 317, 21, 314, 32, 186, 187, 188, 189, 21, 262, 263, 264, 265, 16, 17, 18, 19, 20, 592, 593, 594, 595, 596, 597, 598, 599, 600, 601, 602, 603, 604, 605, 606, 607, 608, 609, 610, 611, 612, 613, 614, 615, 616, 617, 618, 619, 620, 621, 622, 623, 624, 625, 626, 627, 628, 629, 630, 631, 632, 633, 634, 635, 636, 637, 638, 639, 640, 641, 642, 643, 644, 645, 646, 647, 648, 649, 650, 651, 652, 653, 654, 655] (by decide +kernel) (by decide +kernel)
set_option maxRecDepth 20000 in
theorem g_law_X11_length_102 : GoodIn w_law (wsV RL 102 RX11 yX11_length w_X11_length) := goodIn_r _ [321, 322, 323, 5, 320, 318, 319, 580, 581, 582, 583, 584, 585, 586, 587, 588, 589, 590, 591, 667, 668, 669] (by decide +kernel) (by decide +kernel)
set_option maxRecDepth 20000 in
theorem g_law_X14_length_105 : GoodIn w_law (wsV RL 105 RX14 yX14_length w_X14_length) := goodIn_r _ [326, 327, 328, 21, 325, 324, 592, 593, 594, 595, 596, 597, 598, 599, 600, 601, 602, 603, 604, 605, 606, 607, 608, 609, 610, 611, 612, 613, 614, 615, 616, 617, 618, 619, 620, 621, 622, 623, 624, 625, 626, 627, 628, 629, 630, 631, 632, 633, 634, 635, 636, 637, 638, 639, 640, 641, 642, 643, 644, 645, 646, 647, 648, 649, 650, 651, 652, 653, 654, 655] (by decide +kernel) (by decide +kernel)
set_option maxRecDepth 20000 in
theorem g_law_X11_letter_106 : GoodIn w_law (wsV RL 106 RX11 yX11_letter w_X11_letter) := goodIn_r _ [330, 331, 332, 5, 329, 318, 319, 580, 581, 582, 583, 584, 585, 586, 587, 588, 589, 590, 591, 667, 668, 669] (by decide +kernel) (by decide +kernel)
set_option maxRecDepth 20000 in
theorem g_law_X14_letter_109 : GoodIn w_law (wsV RL 109 RX14 yX14_letter w_X14_letter) := goodIn_r _ [334, 335, 336, 21, 333, 324, 592, 593, 594, 595, 596, 597, 598, 599, 600, 601, 602, 603, 604, 605, 606, 607, 608, 609, 610, 611, 612, 613, 614, 615, 616, 617, 618, 619, 620, 621, 622, 623, 624, 625, 626, 627, 628, 629, 630, 631, 632, 633, 634, 635, 636, 637, 638, 639, 640, 641, 642, 643, 644, 645, 646, 647, 648, 649, 650, 651, 652, 653, 654, 655] (by decide +kernel) (by decide +kernel)
set_option maxRecDepth 20000 in
theorem g_law_X11_status_110 : GoodIn w_law (wsV RL 110 RX11 yX11_status w_X11_status) := goodIn_r _ [338, 339, 340, 5, 337, 0, 580, 581, 582, 583, 584, 585, 586, 587, 588, 589, 590, 591] (by decide +kernel) (by decide +kernel)
set_option maxRecDepth 20000 in
theorem g_law_X14_status_113 : GoodIn w_law (wsV RL 113 RX14 yX14_status w_X14_status) := goodIn_r _ [342, 343, 344, 21, 341, 16, 592, 593, 594, 595, 596, 597, 598, 599, 600, 601, 602, 603, 604, 605, 606, 607, 608, 609, 610, 611, 612, 613, 614, 615, 616, 617, 618, 619, 620, 621, 622, 623, 624, 625, 626, 627, 628, 629, 630, 631, 632, 633, 634, 635, 636, 637, 638, 639, 640, 641, 642, 643, 644, 645, 646, 647, 648, 649, 650, 651, 652, 653, 654, 655] (by decide +kernel) (by decide +kernel)
set_option maxRecDepth 20000 in
theorem g_law_X11_digest_114 : GoodIn w_law (wsV RL 114 RX11 yX11_digest w_X11_digest) := goodIn_r _ [346, 347, 348, 5, 345, 318, 319, 41, 6, 7, 178, 179, 180, 181, 5, 580, 581, 582, 583, 584, 585, 586, 587, 588, 589, 590, 591, 667, 668, 669] (by decide +kernel) (by decide +kernel)
set_option maxRecDepth 20000 in
theorem g_law_X14_digest_117 : GoodIn w_law (wsV RL 117 RX14 yX14_digest w_X14_digest) := goodIn_r _ [350, 351, 352, 21, 349, 324, 51, 22, 32, 592, 593, 594, 595, 596, 597, 598, 599, 600, 601, 602, 603, 604, 605, 606, 607, 608, 609, 610, 611, 612, 613, 614, 615, 616, 617, 618, 619, 620, 621, 622, 623, 624, 625, 626, 627, 628, 629, 630, 631, 632, 633, 634, 635, 636, 637, 638, 639, 640, 641, 642, 643, 644, 645, 646, 647, 648, 649, 650, 651, 652, 653, 654, 655] (by decide +kernel) (by decide +kernel)
set_option maxRecDepth 20000 in
theorem g_law_X11_init_9 : GoodIn w_law w_X11_init := goodIn_r _ [502, 355, 356, 357, 358, 42, 359, 360, 361, 362, 363, 364, 365, 366, 367, 368, 369, 370, 371, 372, 373, 374, 375, 376, 377, 378, 318, 379, 380, 85, 381, 70, 382, 383, 384, 90, 385, 386, 65, 387, 388, 389, 390, 391, 392, 393, 394, 395, 396, 397, 398, 399, 400, 401, 402, 403, 404, 405, 406, 407, 408, 409, 410, 411, 412, 413, 414, 415, 416, 417, 418, 419, 420, 421, 422, 423, 424, 425, 426, 427, 428, 429, 430, 431, 432, 433, 434, 435, 436, 437, 438, 439, 440, 441, 442, 443, 444, 445, 446, 447, 448, 449, 450, 451, 452, 453, 454, 455, 456, 457, 458, 459, 460, 461, 462, 463, 464, 465, 466, 467, 468, 469, 470, 471, 472, 473, 474, 475, 476, 477, 478, 479, 480, 481, 482, 483, 484, 485, 486, 487, 488, 489, 490, 491, 492, 493, 494, 495, 496, 497, 498, 499, 500, 501, 6, 0, 111, 580, 581, 582, 583, 584, 585, 586, 587, 588, 589, 590, 591, 670, 671, 672, 673, 674, 675, 667, 668, 669, 656, 657, 658, 659, 660, 661, 662, 663, 664, 665, 666, 676, 677, 678, 679, 680, 681, 682, 683, 684, 685, 686, 687, 688, 689, 690, 691, 692, 693, 694, 695, 696, 697, 698, 699, 700, 701, 702, 703, 704, 705, 706, 707, 708, 709, 710, 711, 712, 713, 714, 715, 716, 717, 718, 719, 720, 721, 722, 723, 724, 725, 726, 727, 728, 729, 730, 731, 732, 733, 734, 735, 736, 737, 738, 739, 740] (by decide +kernel) (by decide +kernel)
set_option maxRecDepth 20000 in
theorem g_law_X14_init_12 : GoodIn w_law w_X14_init := goodIn_r _ [576, 507, 356, 357, 508, 509, 510, 511, 512, 363, 513, 514, 515, 516, 517, 518, 519, 520, 521, 522, 523, 524, 525, 526, 527, 22, 23, 25, 26, 27, 528, 529, 530, 531, 393, 532, 533, 534, 535, 536, 537, 538, 539, 540, 541, 542, 543, 544, 545, 546, 547, 358, 52, 117, 548, 549, 457, 550, 551, 552, 553, 554, 555, 24, 28, 29, 30, 31, 21, 556, 557, 558, 559, 560, 561, 562, 563, 564, 565, 566, 567, 568, 569, 570, 571, 572, 573, 574, 575, 741, 742, 743, 744, 745, 746, 747, 748, 749, 750, 751, 752, 592, 593, 594, 595, 596, 597, 598, 599, 600, 601, 602, 603, 604, 605, 606, 607, 608, 609, 610, 611, 612, 613, 614, 615, 616, 617, 618, 619, 620, 621, 622, 623, 624, 625, 626, 627, 628, 629, 630, 631, 632, 633, 634, 635, 636, 637, 638, 639, 640, 641, 642, 643, 644, 645, 646, 647, 648, 649, 650, 651, 652, 653, 654, 655] (by decide +kernel) (by decide +kernel)
set_option maxHeartbeats 4000000 in
set_option maxRecDepth 100000 in
theorem law_tail {p : Program} {l : Launch} {e : Env} {s : State} {m : MethodId} {below : List Frame} {meth : Method} {c : Code} {dC : Nat → ClassId} {dI : Nat → Nat → Nat} {b : Nat} {xs : Nat → Int32} {cells slots x0 m0 : Nat} {H : Heap} {locs : List Loc} {ls : Array Slot} (C0 : lw_At p s m meth c b 6 xs) (hce : cells ≤ 157632) (hsl : slots ≤ 8629354) (hS : va_S (fun q : Nat => s.heap.size ≤ q) s.heap H locs) (hl : lv_has ls 4 [(3, .int 0), (2, .ref m0), (1, .ref x0), (0, .ref b)]) : W p l e room_1 s m #[Value.ref b] below meth c H locs cells slots (lw_Z below #[Value.ref b] s) (F0 m 693 ls []) := by
  obtain ⟨hx, hb, hr, hml, hown, hts0, hX, hbl, hlocks, hgv⟩ := C0
  have hts : ∀ w ∈ w_law, w.before #[Value.ref b] s = true := fun w h => hts0 w (w_law_in w h)
  have hA : ∀ q : Nat, s.heap.size ≤ q → (fun q : Nat => s.heap.size ≤ q) q := fun _ h => h
  have hbA : ¬ (fun q : Nat => s.heap.size ≤ q) b := Nat.not_le.mpr hbl
  refine lv_iinc (v := 6) (lv' := [(3, .int 6), (2, .ref m0), (1, .ref x0), (0, .ref b)]) hx hb dL_law_693 hl (k := 0) rfl (by decide) (by decide) rfl (fun ls hl => ?_)
  refine lv_goto (tgt := 18) hx hb dL_law_696 (by decide) ?_
  refine lv_iload_n hx hb dL_law_18 rfl (lv_at hl 0 rfl) ?_
  refine lv_aload_n hx hb dL_law_19 rfl (lv_at hl 3 rfl) ?_
  refine va_slen hx hb hX hbl hbA hS dL_law_20 ?_
  refine lv_topi (fun f_1 ef_1 => ?_)
  obtain rfl : f_1 = 6 := ef_1.trans (by rfl)
  refine lv_bipush (v := 6) hx hb dL_law_21 (by decide) ?_
  refine lv_isub hx hb dL_law_23 ?_
  refine lv_topi (fun f_2 ef_2 => ?_)
  obtain rfl : f_2 = 0 := ef_2.trans (by decide)
  refine lv_icmp_gt (tgt := 699) hx hb dL_law_24 (by decide) (fun c_3 => ?_) (fun c_3 => absurd (by decide) c_3)
  refine lv_iconst (v := 1) hx hb dL_law_699 (by decide) ?_
  refine va_forget (fun q hq => hS.2.2 q hq) ?_
  refine W.widen (k := 157632) (n := 8629354) hce hsl ?_
  exact lw_ret hx hb hr hlocks dL_law_700
