def R_law : String := "SealedRecordsLaw"
def lw_P (b : Addr) (xs : List Int32) (args : Array Value) (s : State) : Prop := args = #[.ref b] ∧ s.IntsAt b xs ∧ xs.length ≤ 2561 ∧ (Jvm.Cond.and given_1 narrow_1).before args s = true
def lw_Q (_ : Array Value) (s : State) (o : Outcome) (t : State) : Prop := o = .returned (some (.int 1)) ∧ Framed s o t [] 600000 7302250
def lw_Z (below : List Frame) (a : Array Value) (s : State) : State → Prop := fun t => ∃ o, t.status = .running ∧ Ended t below o ∧ lw_Q a s o t
/-- the law's own end, with 1 on the stack, nothing written that was there before, its room as the claim has it -/
theorem lw_ret {p : Program} {l : Launch} {e : Env} {s : State} {m : MethodId} {below : List Frame} {meth : Method} {c : Code} {b : Nat} (hx : p.tables.exec = Jvm.exec) (hb : c.code = code) (hr : meth.sig.returnType = ret) (hlocks : meth.locks = false) {pc : Nat} {H : Heap} {ls : Array Slot} (hdg : decode code pc = .ok (.ireturn, 1)) : W p l e room_1 s m #[Value.ref b] below meth c H [] 600000 7302250 (lw_Z below #[Value.ref b] s) (F0 m pc ls [.int 1]) := by
  intro T hT X
  obtain ⟨fs, hret, hrun, hended, hW, hframe⟩ := X.leave (v := some (.int 1)) (hlocks := hlocks) (fun h => by rw [hr] at h; cases h)
  have hmeth' : T.vm.method? m = some meth := X.method'
  refine ⟨T.setFrames fs, ?_, .returned (some (.int 1)), hrun, hended, rfl, ⟨_, rfl⟩, hW, hframe⟩
  jvm_step X.here [X.here.top, hx, hb, hdg, hmeth', hr, ret, narrow_b1]
  (try refine ⟨rfl, ?_⟩); (try refine ⟨rfl, ?_⟩)
  first | (intro acts; rw [hret _ acts rfl rfl rfl]) | rw [hret _ _ rfl rfl rfl]
  exact Steps.refl _
/-- what holds at the law's entry: the machine, the code, the tables' words (any of lw_tbl by 'hts w (by decide +kernel)'), the script of L ints xs at the cell b, what the Statement gives of the start (any of its parts by flat_of_before) -/
def lw_At (p : Program) (s : State) (m : MethodId) (meth : Method) (c : Code) (b L : Nat) (xs : Nat → Int32) : Prop :=
  p.tables.exec = Jvm.exec ∧ c.code = code ∧ meth.sig.returnType = ret ∧ c.maxLocals = 4 ∧ s.vm.findClass R_law = some m.cls ∧ (∀ w ∈ lw_tbl, w.before #[Value.ref b] s = true) ∧ va_X b L xs s s.heap ∧ b < s.heap.size ∧ meth.locks = false ∧ (Jvm.Cond.and given_1 narrow_1).before #[Value.ref b] s = true
def qa_Ql (B : Nat) (zz : Nat × Nat × (Nat → Int32)) : qa_R := fun below args s t => (args = #[Value.ref zz.1] ∧ s.heap.size ≤ B) → lw_Z below args s t
def qi_ret1 : qa_K := fun u _ st _ => st = [.int 1] ∧ qa_le u (600000, 7302250)
theorem qs_ret1 {l : Launch} {D : va_G} {E : Nat → ClassId} {B : Nat} {zz : Nat × Nat × (Nat → Int32)} {pc : Nat} (hd : decode code pc = .ok (.ireturn, 1)) : qa_S l "SealedRecordsLaw" code 4 ret false D E B room_1 (some zz) (qa_Ql B zz) pc qi_ret1 := by
  intro p e s m args below meth c X u lv st M hk H locs ls hH hS hV
  obtain ⟨rfl, hle⟩ := hk
  by_cases hq : args = #[Value.ref zz.1] ∧ s.heap.size ≤ B
  · obtain ⟨rfl, hB⟩ := hq
    intro T hT S0
    obtain ⟨t, h1, h2⟩ := va_forget (fun q hq => Nat.le_trans hB (hS.2.2 q hq)) (W.widen hle.1 hle.2 (lw_ret (ls := ls) X.1 X.2.1 X.2.2.2.2.2.2.1 X.2.2.2.2.2.1 hd)) T hT S0
    exact ⟨t, h1, fun _ => h2⟩
  · intro T hT S0
    exact ⟨_, Steps.refl _, fun h => absurd h hq⟩
theorem kd_Lw_law_0 : decode code 0 = .ok (.new 7, 3) := by decide +kernel
theorem kd_Lw_law_3 : decode code 3 = .ok (.dup, 1) := by decide +kernel
theorem kd_Lw_law_4 : decode code 4 = .ok (.aload_n 0, 1) := by decide +kernel
theorem kd_Lw_law_5 : decode code 5 = .ok (.iconst 0, 1) := by decide +kernel
theorem kd_Lw_law_6 : decode code 6 = .ok (.invokestatic 9, 3) := by decide +kernel
theorem kd_Lw_law_9 : decode code 9 = .ok (.invokespecial 15, 3) := by decide +kernel
theorem kd_Lw_law_12 : decode code 12 = .ok (.astore_n 1, 1) := by decide +kernel
theorem kd_Lw_law_13 : decode code 13 = .ok (.new 18, 3) := by decide +kernel
theorem kd_Lw_law_16 : decode code 16 = .ok (.dup, 1) := by decide +kernel
theorem kd_Lw_law_17 : decode code 17 = .ok (.aload_n 0, 1) := by decide +kernel
theorem kd_Lw_law_18 : decode code 18 = .ok (.iconst 0, 1) := by decide +kernel
theorem kd_Lw_law_19 : decode code 19 = .ok (.invokestatic 9, 3) := by decide +kernel
theorem kd_Lw_law_22 : decode code 22 = .ok (.invokespecial 20, 3) := by decide +kernel
theorem kd_Lw_law_25 : decode code 25 = .ok (.astore_n 2, 1) := by decide +kernel
theorem kd_Lw_law_26 : decode code 26 = .ok (.iconst 1, 1) := by decide +kernel
theorem kd_Lw_law_27 : decode code 27 = .ok (.istore_n 3, 1) := by decide +kernel
theorem kd_Lw_law_28 : decode code 28 = .ok (.iload_n 3, 1) := by decide +kernel
theorem kd_Lw_law_29 : decode code 29 = .ok (.aload_n 0, 1) := by decide +kernel
theorem kd_Lw_law_30 : decode code 30 = .ok (.arraylength, 1) := by decide +kernel
theorem kd_Lw_law_31 : decode code 31 = .ok (.iconst 5, 1) := by decide +kernel
theorem kd_Lw_law_32 : decode code 32 = .ok (.isub, 1) := by decide +kernel
theorem kd_Lw_law_33 : decode code 33 = .ok (.if_icmp .gt 751, 3) := by decide +kernel
theorem kd_Lw_law_36 : decode code 36 = .ok (.aload_n 0, 1) := by decide +kernel
theorem kd_Lw_law_37 : decode code 37 = .ok (.iload_n 3, 1) := by decide +kernel
theorem kd_Lw_law_38 : decode code 38 = .ok (.iaload, 1) := by decide +kernel
theorem kd_Lw_law_39 : decode code 39 = .ok (.bipush 31, 2) := by decide +kernel
theorem kd_Lw_law_41 : decode code 41 = .ok (.iand, 1) := by decide +kernel
theorem kd_Lw_law_42 : decode code 42 = .ok (.tableswitch 736 0 17 #[86, 149, 198, 221, 254, 297, 320, 373, 406, 439, 472, 505, 558, 581, 624, 647, 680, 703], 86) := by decide +kernel
theorem kd_Lw_law_128 : decode code 128 = .ok (.aload_n 1, 1) := by decide +kernel
theorem kd_Lw_law_129 : decode code 129 = .ok (.aload_n 0, 1) := by decide +kernel
theorem kd_Lw_law_130 : decode code 130 = .ok (.iload_n 3, 1) := by decide +kernel
theorem kd_Lw_law_131 : decode code 131 = .ok (.iconst 1, 1) := by decide +kernel
theorem kd_Lw_law_132 : decode code 132 = .ok (.iadd, 1) := by decide +kernel
theorem kd_Lw_law_133 : decode code 133 = .ok (.iaload, 1) := by decide +kernel
theorem kd_Lw_law_134 : decode code 134 = .ok (.aload_n 0, 1) := by decide +kernel
theorem kd_Lw_law_135 : decode code 135 = .ok (.iload_n 3, 1) := by decide +kernel
theorem kd_Lw_law_136 : decode code 136 = .ok (.iconst 2, 1) := by decide +kernel
theorem kd_Lw_law_137 : decode code 137 = .ok (.iadd, 1) := by decide +kernel
theorem kd_Lw_law_138 : decode code 138 = .ok (.iaload, 1) := by decide +kernel
theorem kd_Lw_law_139 : decode code 139 = .ok (.i2l, 1) := by decide +kernel
theorem kd_Lw_law_140 : decode code 140 = .ok (.bipush 32, 2) := by decide +kernel
theorem kd_Lw_law_142 : decode code 142 = .ok (.lshl, 1) := by decide +kernel
theorem kd_Lw_law_143 : decode code 143 = .ok (.aload_n 0, 1) := by decide +kernel
theorem kd_Lw_law_144 : decode code 144 = .ok (.iload_n 3, 1) := by decide +kernel
theorem kd_Lw_law_145 : decode code 145 = .ok (.iconst 3, 1) := by decide +kernel
theorem kd_Lw_law_146 : decode code 146 = .ok (.iadd, 1) := by decide +kernel
theorem kd_Lw_law_147 : decode code 147 = .ok (.iaload, 1) := by decide +kernel
theorem kd_Lw_law_148 : decode code 148 = .ok (.i2l, 1) := by decide +kernel
theorem kd_Lw_law_149 : decode code 149 = .ok (.ldc2_w 21, 3) := by decide +kernel
theorem kd_Lw_law_152 : decode code 152 = .ok (.land, 1) := by decide +kernel
theorem kd_Lw_law_153 : decode code 153 = .ok (.lor, 1) := by decide +kernel
theorem kd_Lw_law_154 : decode code 154 = .ok (.invokevirtual 23, 3) := by decide +kernel
theorem kd_Lw_law_157 : decode code 157 = .ok (.aload_n 2, 1) := by decide +kernel
theorem kd_Lw_law_158 : decode code 158 = .ok (.aload_n 0, 1) := by decide +kernel
theorem kd_Lw_law_159 : decode code 159 = .ok (.iload_n 3, 1) := by decide +kernel
theorem kd_Lw_law_160 : decode code 160 = .ok (.iconst 1, 1) := by decide +kernel
theorem kd_Lw_law_161 : decode code 161 = .ok (.iadd, 1) := by decide +kernel
theorem kd_Lw_law_162 : decode code 162 = .ok (.iaload, 1) := by decide +kernel
theorem kd_Lw_law_163 : decode code 163 = .ok (.aload_n 0, 1) := by decide +kernel
theorem kd_Lw_law_164 : decode code 164 = .ok (.iload_n 3, 1) := by decide +kernel
theorem kd_Lw_law_165 : decode code 165 = .ok (.iconst 2, 1) := by decide +kernel
theorem kd_Lw_law_166 : decode code 166 = .ok (.iadd, 1) := by decide +kernel
theorem kd_Lw_law_167 : decode code 167 = .ok (.iaload, 1) := by decide +kernel
theorem kd_Lw_law_168 : decode code 168 = .ok (.i2l, 1) := by decide +kernel
theorem kd_Lw_law_169 : decode code 169 = .ok (.bipush 32, 2) := by decide +kernel
theorem kd_Lw_law_171 : decode code 171 = .ok (.lshl, 1) := by decide +kernel
theorem kd_Lw_law_172 : decode code 172 = .ok (.aload_n 0, 1) := by decide +kernel
theorem kd_Lw_law_173 : decode code 173 = .ok (.iload_n 3, 1) := by decide +kernel
theorem kd_Lw_law_174 : decode code 174 = .ok (.iconst 3, 1) := by decide +kernel
theorem kd_Lw_law_175 : decode code 175 = .ok (.iadd, 1) := by decide +kernel
theorem kd_Lw_law_176 : decode code 176 = .ok (.iaload, 1) := by decide +kernel
theorem kd_Lw_law_177 : decode code 177 = .ok (.i2l, 1) := by decide +kernel
theorem kd_Lw_law_178 : decode code 178 = .ok (.ldc2_w 21, 3) := by decide +kernel
theorem kd_Lw_law_181 : decode code 181 = .ok (.land, 1) := by decide +kernel
theorem kd_Lw_law_182 : decode code 182 = .ok (.lor, 1) := by decide +kernel
theorem kd_Lw_law_183 : decode code 183 = .ok (.invokevirtual 27, 3) := by decide +kernel
theorem kd_Lw_law_186 : decode code 186 = .ok (.if_icmp .eq 592, 3) := by decide +kernel
theorem kd_Lw_law_189 : decode code 189 = .ok (.iconst 0, 1) := by decide +kernel
theorem kd_Lw_law_190 : decode code 190 = .ok (.ireturn, 1) := by decide +kernel
theorem kd_Lw_law_191 : decode code 191 = .ok (.aload_n 1, 1) := by decide +kernel
theorem kd_Lw_law_192 : decode code 192 = .ok (.aload_n 0, 1) := by decide +kernel
theorem kd_Lw_law_193 : decode code 193 = .ok (.iload_n 3, 1) := by decide +kernel
theorem kd_Lw_law_194 : decode code 194 = .ok (.iconst 1, 1) := by decide +kernel
theorem kd_Lw_law_195 : decode code 195 = .ok (.iadd, 1) := by decide +kernel
theorem kd_Lw_law_196 : decode code 196 = .ok (.iaload, 1) := by decide +kernel
theorem kd_Lw_law_197 : decode code 197 = .ok (.aload_n 0, 1) := by decide +kernel
theorem kd_Lw_law_198 : decode code 198 = .ok (.iload_n 3, 1) := by decide +kernel
theorem kd_Lw_law_199 : decode code 199 = .ok (.iconst 2, 1) := by decide +kernel
theorem kd_Lw_law_200 : decode code 200 = .ok (.iadd, 1) := by decide +kernel
theorem kd_Lw_law_201 : decode code 201 = .ok (.iaload, 1) := by decide +kernel
theorem kd_Lw_law_202 : decode code 202 = .ok (.ifCond .eq 7, 3) := by decide +kernel
theorem kd_Lw_law_205 : decode code 205 = .ok (.iconst 1, 1) := by decide +kernel
theorem kd_Lw_law_206 : decode code 206 = .ok (.goto 4, 3) := by decide +kernel
theorem kd_Lw_law_209 : decode code 209 = .ok (.iconst 0, 1) := by decide +kernel
theorem kd_Lw_law_210 : decode code 210 = .ok (.invokevirtual 28, 3) := by decide +kernel
theorem kd_Lw_law_213 : decode code 213 = .ok (.aload_n 2, 1) := by decide +kernel
theorem kd_Lw_law_214 : decode code 214 = .ok (.aload_n 0, 1) := by decide +kernel
theorem kd_Lw_law_215 : decode code 215 = .ok (.iload_n 3, 1) := by decide +kernel
theorem kd_Lw_law_216 : decode code 216 = .ok (.iconst 1, 1) := by decide +kernel
theorem kd_Lw_law_217 : decode code 217 = .ok (.iadd, 1) := by decide +kernel
theorem kd_Lw_law_218 : decode code 218 = .ok (.iaload, 1) := by decide +kernel
theorem kd_Lw_law_219 : decode code 219 = .ok (.aload_n 0, 1) := by decide +kernel
theorem kd_Lw_law_220 : decode code 220 = .ok (.iload_n 3, 1) := by decide +kernel
theorem kd_Lw_law_221 : decode code 221 = .ok (.iconst 2, 1) := by decide +kernel
theorem kd_Lw_law_222 : decode code 222 = .ok (.iadd, 1) := by decide +kernel
theorem kd_Lw_law_223 : decode code 223 = .ok (.iaload, 1) := by decide +kernel
theorem kd_Lw_law_224 : decode code 224 = .ok (.ifCond .eq 7, 3) := by decide +kernel
theorem kd_Lw_law_227 : decode code 227 = .ok (.iconst 1, 1) := by decide +kernel
theorem kd_Lw_law_228 : decode code 228 = .ok (.goto 4, 3) := by decide +kernel
theorem kd_Lw_law_231 : decode code 231 = .ok (.iconst 0, 1) := by decide +kernel
theorem kd_Lw_law_232 : decode code 232 = .ok (.invokevirtual 32, 3) := by decide +kernel
theorem kd_Lw_law_235 : decode code 235 = .ok (.if_icmp .eq 543, 3) := by decide +kernel
theorem kd_Lw_law_238 : decode code 238 = .ok (.iconst 0, 1) := by decide +kernel
theorem kd_Lw_law_239 : decode code 239 = .ok (.ireturn, 1) := by decide +kernel
theorem kd_Lw_law_240 : decode code 240 = .ok (.aload_n 1, 1) := by decide +kernel
theorem kd_Lw_law_241 : decode code 241 = .ok (.aload_n 0, 1) := by decide +kernel
theorem kd_Lw_law_242 : decode code 242 = .ok (.iload_n 3, 1) := by decide +kernel
theorem kd_Lw_law_243 : decode code 243 = .ok (.iconst 1, 1) := by decide +kernel
theorem kd_Lw_law_244 : decode code 244 = .ok (.iadd, 1) := by decide +kernel
theorem kd_Lw_law_245 : decode code 245 = .ok (.iaload, 1) := by decide +kernel
theorem kd_Lw_law_246 : decode code 246 = .ok (.invokevirtual 33, 3) := by decide +kernel
theorem kd_Lw_law_249 : decode code 249 = .ok (.aload_n 2, 1) := by decide +kernel
theorem kd_Lw_law_250 : decode code 250 = .ok (.aload_n 0, 1) := by decide +kernel
theorem kd_Lw_law_251 : decode code 251 = .ok (.iload_n 3, 1) := by decide +kernel
theorem kd_Lw_law_252 : decode code 252 = .ok (.iconst 1, 1) := by decide +kernel
theorem kd_Lw_law_253 : decode code 253 = .ok (.iadd, 1) := by decide +kernel
theorem kd_Lw_law_254 : decode code 254 = .ok (.iaload, 1) := by decide +kernel
theorem kd_Lw_law_255 : decode code 255 = .ok (.invokevirtual 37, 3) := by decide +kernel
theorem kd_Lw_law_258 : decode code 258 = .ok (.if_icmp .eq 520, 3) := by decide +kernel
theorem kd_Lw_law_261 : decode code 261 = .ok (.iconst 0, 1) := by decide +kernel
theorem kd_Lw_law_262 : decode code 262 = .ok (.ireturn, 1) := by decide +kernel
theorem kd_Lw_law_263 : decode code 263 = .ok (.aload_n 1, 1) := by decide +kernel
theorem kd_Lw_law_264 : decode code 264 = .ok (.aload_n 0, 1) := by decide +kernel
theorem kd_Lw_law_265 : decode code 265 = .ok (.iload_n 3, 1) := by decide +kernel
theorem kd_Lw_law_266 : decode code 266 = .ok (.iconst 1, 1) := by decide +kernel
theorem kd_Lw_law_267 : decode code 267 = .ok (.iadd, 1) := by decide +kernel
theorem kd_Lw_law_268 : decode code 268 = .ok (.iaload, 1) := by decide +kernel
theorem kd_Lw_law_269 : decode code 269 = .ok (.aload_n 0, 1) := by decide +kernel
theorem kd_Lw_law_270 : decode code 270 = .ok (.iload_n 3, 1) := by decide +kernel
theorem kd_Lw_law_271 : decode code 271 = .ok (.iconst 2, 1) := by decide +kernel
theorem kd_Lw_law_272 : decode code 272 = .ok (.iadd, 1) := by decide +kernel
theorem kd_Lw_law_273 : decode code 273 = .ok (.iaload, 1) := by decide +kernel
theorem kd_Lw_law_274 : decode code 274 = .ok (.invokevirtual 38, 3) := by decide +kernel
theorem kd_Lw_law_277 : decode code 277 = .ok (.aload_n 2, 1) := by decide +kernel
theorem kd_Lw_law_278 : decode code 278 = .ok (.aload_n 0, 1) := by decide +kernel
theorem kd_Lw_law_279 : decode code 279 = .ok (.iload_n 3, 1) := by decide +kernel
theorem kd_Lw_law_280 : decode code 280 = .ok (.iconst 1, 1) := by decide +kernel
theorem kd_Lw_law_281 : decode code 281 = .ok (.iadd, 1) := by decide +kernel
theorem kd_Lw_law_282 : decode code 282 = .ok (.iaload, 1) := by decide +kernel
theorem kd_Lw_law_283 : decode code 283 = .ok (.aload_n 0, 1) := by decide +kernel
theorem kd_Lw_law_284 : decode code 284 = .ok (.iload_n 3, 1) := by decide +kernel
theorem kd_Lw_law_285 : decode code 285 = .ok (.iconst 2, 1) := by decide +kernel
theorem kd_Lw_law_286 : decode code 286 = .ok (.iadd, 1) := by decide +kernel
theorem kd_Lw_law_287 : decode code 287 = .ok (.iaload, 1) := by decide +kernel
theorem kd_Lw_law_288 : decode code 288 = .ok (.invokevirtual 42, 3) := by decide +kernel
theorem kd_Lw_law_291 : decode code 291 = .ok (.if_icmp .eq 487, 3) := by decide +kernel
theorem kd_Lw_law_294 : decode code 294 = .ok (.iconst 0, 1) := by decide +kernel
theorem kd_Lw_law_295 : decode code 295 = .ok (.ireturn, 1) := by decide +kernel
theorem kd_Lw_law_296 : decode code 296 = .ok (.aload_n 1, 1) := by decide +kernel
theorem kd_Lw_law_297 : decode code 297 = .ok (.aload_n 0, 1) := by decide +kernel
theorem kd_Lw_law_298 : decode code 298 = .ok (.iload_n 3, 1) := by decide +kernel
theorem kd_Lw_law_299 : decode code 299 = .ok (.iconst 1, 1) := by decide +kernel
theorem kd_Lw_law_300 : decode code 300 = .ok (.iadd, 1) := by decide +kernel
theorem kd_Lw_law_301 : decode code 301 = .ok (.iaload, 1) := by decide +kernel
theorem kd_Lw_law_302 : decode code 302 = .ok (.aload_n 0, 1) := by decide +kernel
theorem kd_Lw_law_303 : decode code 303 = .ok (.iload_n 3, 1) := by decide +kernel
theorem kd_Lw_law_304 : decode code 304 = .ok (.iconst 2, 1) := by decide +kernel
theorem kd_Lw_law_305 : decode code 305 = .ok (.iadd, 1) := by decide +kernel
theorem kd_Lw_law_306 : decode code 306 = .ok (.iaload, 1) := by decide +kernel
theorem kd_Lw_law_307 : decode code 307 = .ok (.aload_n 0, 1) := by decide +kernel
theorem kd_Lw_law_308 : decode code 308 = .ok (.iload_n 3, 1) := by decide +kernel
theorem kd_Lw_law_309 : decode code 309 = .ok (.iconst 3, 1) := by decide +kernel
theorem kd_Lw_law_310 : decode code 310 = .ok (.iadd, 1) := by decide +kernel
theorem kd_Lw_law_311 : decode code 311 = .ok (.iaload, 1) := by decide +kernel
theorem kd_Lw_law_312 : decode code 312 = .ok (.invokevirtual 43, 3) := by decide +kernel
theorem kd_Lw_law_315 : decode code 315 = .ok (.aload_n 2, 1) := by decide +kernel
theorem kd_Lw_law_316 : decode code 316 = .ok (.aload_n 0, 1) := by decide +kernel
theorem kd_Lw_law_317 : decode code 317 = .ok (.iload_n 3, 1) := by decide +kernel
theorem kd_Lw_law_318 : decode code 318 = .ok (.iconst 1, 1) := by decide +kernel
theorem kd_Lw_law_319 : decode code 319 = .ok (.iadd, 1) := by decide +kernel
theorem kd_Lw_law_320 : decode code 320 = .ok (.iaload, 1) := by decide +kernel
theorem kd_Lw_law_321 : decode code 321 = .ok (.aload_n 0, 1) := by decide +kernel
theorem kd_Lw_law_322 : decode code 322 = .ok (.iload_n 3, 1) := by decide +kernel
theorem kd_Lw_law_323 : decode code 323 = .ok (.iconst 2, 1) := by decide +kernel
theorem kd_Lw_law_324 : decode code 324 = .ok (.iadd, 1) := by decide +kernel
theorem kd_Lw_law_325 : decode code 325 = .ok (.iaload, 1) := by decide +kernel
theorem kd_Lw_law_326 : decode code 326 = .ok (.aload_n 0, 1) := by decide +kernel
theorem kd_Lw_law_327 : decode code 327 = .ok (.iload_n 3, 1) := by decide +kernel
theorem kd_Lw_law_328 : decode code 328 = .ok (.iconst 3, 1) := by decide +kernel
theorem kd_Lw_law_329 : decode code 329 = .ok (.iadd, 1) := by decide +kernel
theorem kd_Lw_law_330 : decode code 330 = .ok (.iaload, 1) := by decide +kernel
theorem kd_Lw_law_331 : decode code 331 = .ok (.invokevirtual 47, 3) := by decide +kernel
theorem kd_Lw_law_334 : decode code 334 = .ok (.if_icmp .eq 444, 3) := by decide +kernel
theorem kd_Lw_law_337 : decode code 337 = .ok (.iconst 0, 1) := by decide +kernel
theorem kd_Lw_law_338 : decode code 338 = .ok (.ireturn, 1) := by decide +kernel
theorem kd_Lw_law_339 : decode code 339 = .ok (.aload_n 1, 1) := by decide +kernel
theorem kd_Lw_law_340 : decode code 340 = .ok (.aload_n 0, 1) := by decide +kernel
theorem kd_Lw_law_341 : decode code 341 = .ok (.iload_n 3, 1) := by decide +kernel
theorem kd_Lw_law_342 : decode code 342 = .ok (.iconst 1, 1) := by decide +kernel
theorem kd_Lw_law_343 : decode code 343 = .ok (.iadd, 1) := by decide +kernel
theorem kd_Lw_law_344 : decode code 344 = .ok (.iaload, 1) := by decide +kernel
theorem kd_Lw_law_345 : decode code 345 = .ok (.invokevirtual 48, 3) := by decide +kernel
theorem kd_Lw_law_348 : decode code 348 = .ok (.aload_n 2, 1) := by decide +kernel
theorem kd_Lw_law_349 : decode code 349 = .ok (.aload_n 0, 1) := by decide +kernel
theorem kd_Lw_law_350 : decode code 350 = .ok (.iload_n 3, 1) := by decide +kernel
theorem kd_Lw_law_351 : decode code 351 = .ok (.iconst 1, 1) := by decide +kernel
theorem kd_Lw_law_352 : decode code 352 = .ok (.iadd, 1) := by decide +kernel
theorem kd_Lw_law_353 : decode code 353 = .ok (.iaload, 1) := by decide +kernel
theorem kd_Lw_law_354 : decode code 354 = .ok (.invokevirtual 52, 3) := by decide +kernel
theorem kd_Lw_law_357 : decode code 357 = .ok (.if_icmp .eq 421, 3) := by decide +kernel
theorem kd_Lw_law_360 : decode code 360 = .ok (.iconst 0, 1) := by decide +kernel
theorem kd_Lw_law_361 : decode code 361 = .ok (.ireturn, 1) := by decide +kernel
theorem kd_Lw_law_362 : decode code 362 = .ok (.aload_n 1, 1) := by decide +kernel
theorem kd_Lw_law_363 : decode code 363 = .ok (.aload_n 0, 1) := by decide +kernel
theorem kd_Lw_law_364 : decode code 364 = .ok (.iload_n 3, 1) := by decide +kernel
theorem kd_Lw_law_365 : decode code 365 = .ok (.iconst 1, 1) := by decide +kernel
theorem kd_Lw_law_366 : decode code 366 = .ok (.iadd, 1) := by decide +kernel
theorem kd_Lw_law_367 : decode code 367 = .ok (.iaload, 1) := by decide +kernel
theorem kd_Lw_law_368 : decode code 368 = .ok (.aload_n 0, 1) := by decide +kernel
theorem kd_Lw_law_369 : decode code 369 = .ok (.iload_n 3, 1) := by decide +kernel
theorem kd_Lw_law_370 : decode code 370 = .ok (.iconst 2, 1) := by decide +kernel
theorem kd_Lw_law_371 : decode code 371 = .ok (.iadd, 1) := by decide +kernel
theorem kd_Lw_law_372 : decode code 372 = .ok (.iaload, 1) := by decide +kernel
theorem kd_Lw_law_373 : decode code 373 = .ok (.aload_n 0, 1) := by decide +kernel
theorem kd_Lw_law_374 : decode code 374 = .ok (.iload_n 3, 1) := by decide +kernel
theorem kd_Lw_law_375 : decode code 375 = .ok (.iconst 3, 1) := by decide +kernel
theorem kd_Lw_law_376 : decode code 376 = .ok (.iadd, 1) := by decide +kernel
theorem kd_Lw_law_377 : decode code 377 = .ok (.iaload, 1) := by decide +kernel
theorem kd_Lw_law_378 : decode code 378 = .ok (.aload_n 0, 1) := by decide +kernel
theorem kd_Lw_law_379 : decode code 379 = .ok (.iload_n 3, 1) := by decide +kernel
theorem kd_Lw_law_380 : decode code 380 = .ok (.iconst 4, 1) := by decide +kernel
theorem kd_Lw_law_381 : decode code 381 = .ok (.iadd, 1) := by decide +kernel
theorem kd_Lw_law_382 : decode code 382 = .ok (.iaload, 1) := by decide +kernel
theorem kd_Lw_law_383 : decode code 383 = .ok (.invokevirtual 53, 3) := by decide +kernel
theorem kd_Lw_law_386 : decode code 386 = .ok (.aload_n 2, 1) := by decide +kernel
theorem kd_Lw_law_387 : decode code 387 = .ok (.aload_n 0, 1) := by decide +kernel
theorem kd_Lw_law_388 : decode code 388 = .ok (.iload_n 3, 1) := by decide +kernel
theorem kd_Lw_law_389 : decode code 389 = .ok (.iconst 1, 1) := by decide +kernel
theorem kd_Lw_law_390 : decode code 390 = .ok (.iadd, 1) := by decide +kernel
theorem kd_Lw_law_391 : decode code 391 = .ok (.iaload, 1) := by decide +kernel
theorem kd_Lw_law_392 : decode code 392 = .ok (.aload_n 0, 1) := by decide +kernel
theorem kd_Lw_law_393 : decode code 393 = .ok (.iload_n 3, 1) := by decide +kernel
theorem kd_Lw_law_394 : decode code 394 = .ok (.iconst 2, 1) := by decide +kernel
theorem kd_Lw_law_395 : decode code 395 = .ok (.iadd, 1) := by decide +kernel
theorem kd_Lw_law_396 : decode code 396 = .ok (.iaload, 1) := by decide +kernel
theorem kd_Lw_law_397 : decode code 397 = .ok (.aload_n 0, 1) := by decide +kernel
theorem kd_Lw_law_398 : decode code 398 = .ok (.iload_n 3, 1) := by decide +kernel
theorem kd_Lw_law_399 : decode code 399 = .ok (.iconst 3, 1) := by decide +kernel
theorem kd_Lw_law_400 : decode code 400 = .ok (.iadd, 1) := by decide +kernel
theorem kd_Lw_law_401 : decode code 401 = .ok (.iaload, 1) := by decide +kernel
theorem kd_Lw_law_402 : decode code 402 = .ok (.aload_n 0, 1) := by decide +kernel
theorem kd_Lw_law_403 : decode code 403 = .ok (.iload_n 3, 1) := by decide +kernel
theorem kd_Lw_law_404 : decode code 404 = .ok (.iconst 4, 1) := by decide +kernel
theorem kd_Lw_law_405 : decode code 405 = .ok (.iadd, 1) := by decide +kernel
theorem kd_Lw_law_406 : decode code 406 = .ok (.iaload, 1) := by decide +kernel
theorem kd_Lw_law_407 : decode code 407 = .ok (.invokevirtual 57, 3) := by decide +kernel
theorem kd_Lw_law_410 : decode code 410 = .ok (.if_icmp .eq 368, 3) := by decide +kernel
theorem kd_Lw_law_413 : decode code 413 = .ok (.iconst 0, 1) := by decide +kernel
theorem kd_Lw_law_414 : decode code 414 = .ok (.ireturn, 1) := by decide +kernel
theorem kd_Lw_law_415 : decode code 415 = .ok (.aload_n 1, 1) := by decide +kernel
theorem kd_Lw_law_416 : decode code 416 = .ok (.aload_n 0, 1) := by decide +kernel
theorem kd_Lw_law_417 : decode code 417 = .ok (.iload_n 3, 1) := by decide +kernel
theorem kd_Lw_law_418 : decode code 418 = .ok (.iconst 1, 1) := by decide +kernel
theorem kd_Lw_law_419 : decode code 419 = .ok (.iadd, 1) := by decide +kernel
theorem kd_Lw_law_420 : decode code 420 = .ok (.iaload, 1) := by decide +kernel
theorem kd_Lw_law_421 : decode code 421 = .ok (.aload_n 0, 1) := by decide +kernel
theorem kd_Lw_law_422 : decode code 422 = .ok (.iload_n 3, 1) := by decide +kernel
theorem kd_Lw_law_423 : decode code 423 = .ok (.iconst 2, 1) := by decide +kernel
theorem kd_Lw_law_424 : decode code 424 = .ok (.iadd, 1) := by decide +kernel
theorem kd_Lw_law_425 : decode code 425 = .ok (.iaload, 1) := by decide +kernel
theorem kd_Lw_law_426 : decode code 426 = .ok (.invokevirtual 58, 3) := by decide +kernel
theorem kd_Lw_law_429 : decode code 429 = .ok (.aload_n 2, 1) := by decide +kernel
theorem kd_Lw_law_430 : decode code 430 = .ok (.aload_n 0, 1) := by decide +kernel
theorem kd_Lw_law_431 : decode code 431 = .ok (.iload_n 3, 1) := by decide +kernel
theorem kd_Lw_law_432 : decode code 432 = .ok (.iconst 1, 1) := by decide +kernel
theorem kd_Lw_law_433 : decode code 433 = .ok (.iadd, 1) := by decide +kernel
theorem kd_Lw_law_434 : decode code 434 = .ok (.iaload, 1) := by decide +kernel
theorem kd_Lw_law_435 : decode code 435 = .ok (.aload_n 0, 1) := by decide +kernel
theorem kd_Lw_law_436 : decode code 436 = .ok (.iload_n 3, 1) := by decide +kernel
theorem kd_Lw_law_437 : decode code 437 = .ok (.iconst 2, 1) := by decide +kernel
theorem kd_Lw_law_438 : decode code 438 = .ok (.iadd, 1) := by decide +kernel
theorem kd_Lw_law_439 : decode code 439 = .ok (.iaload, 1) := by decide +kernel
theorem kd_Lw_law_440 : decode code 440 = .ok (.invokevirtual 61, 3) := by decide +kernel
theorem kd_Lw_law_443 : decode code 443 = .ok (.if_icmp .eq 335, 3) := by decide +kernel
theorem kd_Lw_law_446 : decode code 446 = .ok (.iconst 0, 1) := by decide +kernel
theorem kd_Lw_law_447 : decode code 447 = .ok (.ireturn, 1) := by decide +kernel
theorem kd_Lw_law_448 : decode code 448 = .ok (.aload_n 1, 1) := by decide +kernel
theorem kd_Lw_law_449 : decode code 449 = .ok (.aload_n 0, 1) := by decide +kernel
theorem kd_Lw_law_450 : decode code 450 = .ok (.iload_n 3, 1) := by decide +kernel
theorem kd_Lw_law_451 : decode code 451 = .ok (.iconst 1, 1) := by decide +kernel
theorem kd_Lw_law_452 : decode code 452 = .ok (.iadd, 1) := by decide +kernel
theorem kd_Lw_law_453 : decode code 453 = .ok (.iaload, 1) := by decide +kernel
theorem kd_Lw_law_454 : decode code 454 = .ok (.aload_n 0, 1) := by decide +kernel
theorem kd_Lw_law_455 : decode code 455 = .ok (.iload_n 3, 1) := by decide +kernel
theorem kd_Lw_law_456 : decode code 456 = .ok (.iconst 2, 1) := by decide +kernel
theorem kd_Lw_law_457 : decode code 457 = .ok (.iadd, 1) := by decide +kernel
theorem kd_Lw_law_458 : decode code 458 = .ok (.iaload, 1) := by decide +kernel
theorem kd_Lw_law_459 : decode code 459 = .ok (.invokevirtual 62, 3) := by decide +kernel
theorem kd_Lw_law_462 : decode code 462 = .ok (.aload_n 2, 1) := by decide +kernel
theorem kd_Lw_law_463 : decode code 463 = .ok (.aload_n 0, 1) := by decide +kernel
theorem kd_Lw_law_464 : decode code 464 = .ok (.iload_n 3, 1) := by decide +kernel
theorem kd_Lw_law_465 : decode code 465 = .ok (.iconst 1, 1) := by decide +kernel
theorem kd_Lw_law_466 : decode code 466 = .ok (.iadd, 1) := by decide +kernel
theorem kd_Lw_law_467 : decode code 467 = .ok (.iaload, 1) := by decide +kernel
theorem kd_Lw_law_468 : decode code 468 = .ok (.aload_n 0, 1) := by decide +kernel
theorem kd_Lw_law_469 : decode code 469 = .ok (.iload_n 3, 1) := by decide +kernel
theorem kd_Lw_law_470 : decode code 470 = .ok (.iconst 2, 1) := by decide +kernel
theorem kd_Lw_law_471 : decode code 471 = .ok (.iadd, 1) := by decide +kernel
theorem kd_Lw_law_472 : decode code 472 = .ok (.iaload, 1) := by decide +kernel
theorem kd_Lw_law_473 : decode code 473 = .ok (.invokevirtual 65, 3) := by decide +kernel
theorem kd_Lw_law_476 : decode code 476 = .ok (.if_icmp .eq 302, 3) := by decide +kernel
theorem kd_Lw_law_479 : decode code 479 = .ok (.iconst 0, 1) := by decide +kernel
theorem kd_Lw_law_480 : decode code 480 = .ok (.ireturn, 1) := by decide +kernel
theorem kd_Lw_law_481 : decode code 481 = .ok (.aload_n 1, 1) := by decide +kernel
theorem kd_Lw_law_482 : decode code 482 = .ok (.aload_n 0, 1) := by decide +kernel
theorem kd_Lw_law_483 : decode code 483 = .ok (.iload_n 3, 1) := by decide +kernel
theorem kd_Lw_law_484 : decode code 484 = .ok (.iconst 1, 1) := by decide +kernel
theorem kd_Lw_law_485 : decode code 485 = .ok (.iadd, 1) := by decide +kernel
theorem kd_Lw_law_486 : decode code 486 = .ok (.iaload, 1) := by decide +kernel
theorem kd_Lw_law_487 : decode code 487 = .ok (.aload_n 0, 1) := by decide +kernel
theorem kd_Lw_law_488 : decode code 488 = .ok (.iload_n 3, 1) := by decide +kernel
theorem kd_Lw_law_489 : decode code 489 = .ok (.iconst 2, 1) := by decide +kernel
theorem kd_Lw_law_490 : decode code 490 = .ok (.iadd, 1) := by decide +kernel
theorem kd_Lw_law_491 : decode code 491 = .ok (.iaload, 1) := by decide +kernel
theorem kd_Lw_law_492 : decode code 492 = .ok (.invokevirtual 66, 3) := by decide +kernel
theorem kd_Lw_law_495 : decode code 495 = .ok (.aload_n 2, 1) := by decide +kernel
theorem kd_Lw_law_496 : decode code 496 = .ok (.aload_n 0, 1) := by decide +kernel
theorem kd_Lw_law_497 : decode code 497 = .ok (.iload_n 3, 1) := by decide +kernel
theorem kd_Lw_law_498 : decode code 498 = .ok (.iconst 1, 1) := by decide +kernel
theorem kd_Lw_law_499 : decode code 499 = .ok (.iadd, 1) := by decide +kernel
theorem kd_Lw_law_500 : decode code 500 = .ok (.iaload, 1) := by decide +kernel
theorem kd_Lw_law_501 : decode code 501 = .ok (.aload_n 0, 1) := by decide +kernel
theorem kd_Lw_law_502 : decode code 502 = .ok (.iload_n 3, 1) := by decide +kernel
theorem kd_Lw_law_503 : decode code 503 = .ok (.iconst 2, 1) := by decide +kernel
theorem kd_Lw_law_504 : decode code 504 = .ok (.iadd, 1) := by decide +kernel
theorem kd_Lw_law_505 : decode code 505 = .ok (.iaload, 1) := by decide +kernel
theorem kd_Lw_law_506 : decode code 506 = .ok (.invokevirtual 69, 3) := by decide +kernel
theorem kd_Lw_law_509 : decode code 509 = .ok (.if_icmp .eq 269, 3) := by decide +kernel
theorem kd_Lw_law_512 : decode code 512 = .ok (.iconst 0, 1) := by decide +kernel
theorem kd_Lw_law_513 : decode code 513 = .ok (.ireturn, 1) := by decide +kernel
theorem kd_Lw_law_514 : decode code 514 = .ok (.aload_n 1, 1) := by decide +kernel
theorem kd_Lw_law_515 : decode code 515 = .ok (.aload_n 0, 1) := by decide +kernel
theorem kd_Lw_law_516 : decode code 516 = .ok (.iload_n 3, 1) := by decide +kernel
theorem kd_Lw_law_517 : decode code 517 = .ok (.iconst 1, 1) := by decide +kernel
theorem kd_Lw_law_518 : decode code 518 = .ok (.iadd, 1) := by decide +kernel
theorem kd_Lw_law_519 : decode code 519 = .ok (.iaload, 1) := by decide +kernel
theorem kd_Lw_law_520 : decode code 520 = .ok (.aload_n 0, 1) := by decide +kernel
theorem kd_Lw_law_521 : decode code 521 = .ok (.iload_n 3, 1) := by decide +kernel
theorem kd_Lw_law_522 : decode code 522 = .ok (.iconst 2, 1) := by decide +kernel
theorem kd_Lw_law_523 : decode code 523 = .ok (.iadd, 1) := by decide +kernel
theorem kd_Lw_law_524 : decode code 524 = .ok (.iaload, 1) := by decide +kernel
theorem kd_Lw_law_525 : decode code 525 = .ok (.invokevirtual 70, 3) := by decide +kernel
theorem kd_Lw_law_528 : decode code 528 = .ok (.aload_n 2, 1) := by decide +kernel
theorem kd_Lw_law_529 : decode code 529 = .ok (.aload_n 0, 1) := by decide +kernel
theorem kd_Lw_law_530 : decode code 530 = .ok (.iload_n 3, 1) := by decide +kernel
theorem kd_Lw_law_531 : decode code 531 = .ok (.iconst 1, 1) := by decide +kernel
theorem kd_Lw_law_532 : decode code 532 = .ok (.iadd, 1) := by decide +kernel
theorem kd_Lw_law_533 : decode code 533 = .ok (.iaload, 1) := by decide +kernel
theorem kd_Lw_law_534 : decode code 534 = .ok (.aload_n 0, 1) := by decide +kernel
theorem kd_Lw_law_535 : decode code 535 = .ok (.iload_n 3, 1) := by decide +kernel
theorem kd_Lw_law_536 : decode code 536 = .ok (.iconst 2, 1) := by decide +kernel
theorem kd_Lw_law_537 : decode code 537 = .ok (.iadd, 1) := by decide +kernel
theorem kd_Lw_law_538 : decode code 538 = .ok (.iaload, 1) := by decide +kernel
theorem kd_Lw_law_539 : decode code 539 = .ok (.invokevirtual 73, 3) := by decide +kernel
theorem kd_Lw_law_542 : decode code 542 = .ok (.if_icmp .eq 236, 3) := by decide +kernel
theorem kd_Lw_law_545 : decode code 545 = .ok (.iconst 0, 1) := by decide +kernel
theorem kd_Lw_law_546 : decode code 546 = .ok (.ireturn, 1) := by decide +kernel
theorem kd_Lw_law_547 : decode code 547 = .ok (.aload_n 1, 1) := by decide +kernel
theorem kd_Lw_law_548 : decode code 548 = .ok (.aload_n 0, 1) := by decide +kernel
theorem kd_Lw_law_549 : decode code 549 = .ok (.iload_n 3, 1) := by decide +kernel
theorem kd_Lw_law_550 : decode code 550 = .ok (.iconst 1, 1) := by decide +kernel
theorem kd_Lw_law_551 : decode code 551 = .ok (.iadd, 1) := by decide +kernel
theorem kd_Lw_law_552 : decode code 552 = .ok (.iaload, 1) := by decide +kernel
theorem kd_Lw_law_553 : decode code 553 = .ok (.aload_n 0, 1) := by decide +kernel
theorem kd_Lw_law_554 : decode code 554 = .ok (.iload_n 3, 1) := by decide +kernel
theorem kd_Lw_law_555 : decode code 555 = .ok (.iconst 2, 1) := by decide +kernel
theorem kd_Lw_law_556 : decode code 556 = .ok (.iadd, 1) := by decide +kernel
theorem kd_Lw_law_557 : decode code 557 = .ok (.iaload, 1) := by decide +kernel
theorem kd_Lw_law_558 : decode code 558 = .ok (.aload_n 0, 1) := by decide +kernel
theorem kd_Lw_law_559 : decode code 559 = .ok (.iload_n 3, 1) := by decide +kernel
theorem kd_Lw_law_560 : decode code 560 = .ok (.iconst 3, 1) := by decide +kernel
theorem kd_Lw_law_561 : decode code 561 = .ok (.iadd, 1) := by decide +kernel
theorem kd_Lw_law_562 : decode code 562 = .ok (.iaload, 1) := by decide +kernel
theorem kd_Lw_law_563 : decode code 563 = .ok (.aload_n 0, 1) := by decide +kernel
theorem kd_Lw_law_564 : decode code 564 = .ok (.iload_n 3, 1) := by decide +kernel
theorem kd_Lw_law_565 : decode code 565 = .ok (.iconst 4, 1) := by decide +kernel
theorem kd_Lw_law_566 : decode code 566 = .ok (.iadd, 1) := by decide +kernel
theorem kd_Lw_law_567 : decode code 567 = .ok (.iaload, 1) := by decide +kernel
theorem kd_Lw_law_568 : decode code 568 = .ok (.invokevirtual 74, 3) := by decide +kernel
theorem kd_Lw_law_571 : decode code 571 = .ok (.aload_n 2, 1) := by decide +kernel
theorem kd_Lw_law_572 : decode code 572 = .ok (.aload_n 0, 1) := by decide +kernel
theorem kd_Lw_law_573 : decode code 573 = .ok (.iload_n 3, 1) := by decide +kernel
theorem kd_Lw_law_574 : decode code 574 = .ok (.iconst 1, 1) := by decide +kernel
theorem kd_Lw_law_575 : decode code 575 = .ok (.iadd, 1) := by decide +kernel
theorem kd_Lw_law_576 : decode code 576 = .ok (.iaload, 1) := by decide +kernel
theorem kd_Lw_law_577 : decode code 577 = .ok (.aload_n 0, 1) := by decide +kernel
theorem kd_Lw_law_578 : decode code 578 = .ok (.iload_n 3, 1) := by decide +kernel
theorem kd_Lw_law_579 : decode code 579 = .ok (.iconst 2, 1) := by decide +kernel
theorem kd_Lw_law_580 : decode code 580 = .ok (.iadd, 1) := by decide +kernel
theorem kd_Lw_law_581 : decode code 581 = .ok (.iaload, 1) := by decide +kernel
theorem kd_Lw_law_582 : decode code 582 = .ok (.aload_n 0, 1) := by decide +kernel
theorem kd_Lw_law_583 : decode code 583 = .ok (.iload_n 3, 1) := by decide +kernel
theorem kd_Lw_law_584 : decode code 584 = .ok (.iconst 3, 1) := by decide +kernel
theorem kd_Lw_law_585 : decode code 585 = .ok (.iadd, 1) := by decide +kernel
theorem kd_Lw_law_586 : decode code 586 = .ok (.iaload, 1) := by decide +kernel
theorem kd_Lw_law_587 : decode code 587 = .ok (.aload_n 0, 1) := by decide +kernel
theorem kd_Lw_law_588 : decode code 588 = .ok (.iload_n 3, 1) := by decide +kernel
theorem kd_Lw_law_589 : decode code 589 = .ok (.iconst 4, 1) := by decide +kernel
theorem kd_Lw_law_590 : decode code 590 = .ok (.iadd, 1) := by decide +kernel
theorem kd_Lw_law_591 : decode code 591 = .ok (.iaload, 1) := by decide +kernel
theorem kd_Lw_law_592 : decode code 592 = .ok (.invokevirtual 77, 3) := by decide +kernel
theorem kd_Lw_law_595 : decode code 595 = .ok (.if_icmp .eq 183, 3) := by decide +kernel
theorem kd_Lw_law_598 : decode code 598 = .ok (.iconst 0, 1) := by decide +kernel
theorem kd_Lw_law_599 : decode code 599 = .ok (.ireturn, 1) := by decide +kernel
theorem kd_Lw_law_600 : decode code 600 = .ok (.aload_n 1, 1) := by decide +kernel
theorem kd_Lw_law_601 : decode code 601 = .ok (.aload_n 0, 1) := by decide +kernel
theorem kd_Lw_law_602 : decode code 602 = .ok (.iload_n 3, 1) := by decide +kernel
theorem kd_Lw_law_603 : decode code 603 = .ok (.iconst 1, 1) := by decide +kernel
theorem kd_Lw_law_604 : decode code 604 = .ok (.iadd, 1) := by decide +kernel
theorem kd_Lw_law_605 : decode code 605 = .ok (.iaload, 1) := by decide +kernel
theorem kd_Lw_law_606 : decode code 606 = .ok (.invokevirtual 78, 3) := by decide +kernel
theorem kd_Lw_law_609 : decode code 609 = .ok (.aload_n 2, 1) := by decide +kernel
theorem kd_Lw_law_610 : decode code 610 = .ok (.aload_n 0, 1) := by decide +kernel
theorem kd_Lw_law_611 : decode code 611 = .ok (.iload_n 3, 1) := by decide +kernel
theorem kd_Lw_law_612 : decode code 612 = .ok (.iconst 1, 1) := by decide +kernel
theorem kd_Lw_law_613 : decode code 613 = .ok (.iadd, 1) := by decide +kernel
theorem kd_Lw_law_614 : decode code 614 = .ok (.iaload, 1) := by decide +kernel
theorem kd_Lw_law_615 : decode code 615 = .ok (.invokevirtual 81, 3) := by decide +kernel
theorem kd_Lw_law_618 : decode code 618 = .ok (.if_icmp .eq 160, 3) := by decide +kernel
theorem kd_Lw_law_621 : decode code 621 = .ok (.iconst 0, 1) := by decide +kernel
theorem kd_Lw_law_622 : decode code 622 = .ok (.ireturn, 1) := by decide +kernel
theorem kd_Lw_law_623 : decode code 623 = .ok (.aload_n 1, 1) := by decide +kernel
theorem kd_Lw_law_624 : decode code 624 = .ok (.aload_n 0, 1) := by decide +kernel
theorem kd_Lw_law_625 : decode code 625 = .ok (.iload_n 3, 1) := by decide +kernel
theorem kd_Lw_law_626 : decode code 626 = .ok (.iconst 1, 1) := by decide +kernel
theorem kd_Lw_law_627 : decode code 627 = .ok (.iadd, 1) := by decide +kernel
theorem kd_Lw_law_628 : decode code 628 = .ok (.iaload, 1) := by decide +kernel
theorem kd_Lw_law_629 : decode code 629 = .ok (.aload_n 0, 1) := by decide +kernel
theorem kd_Lw_law_630 : decode code 630 = .ok (.iload_n 3, 1) := by decide +kernel
theorem kd_Lw_law_631 : decode code 631 = .ok (.iconst 2, 1) := by decide +kernel
theorem kd_Lw_law_632 : decode code 632 = .ok (.iadd, 1) := by decide +kernel
theorem kd_Lw_law_633 : decode code 633 = .ok (.iaload, 1) := by decide +kernel
theorem kd_Lw_law_634 : decode code 634 = .ok (.aload_n 0, 1) := by decide +kernel
theorem kd_Lw_law_635 : decode code 635 = .ok (.iload_n 3, 1) := by decide +kernel
theorem kd_Lw_law_636 : decode code 636 = .ok (.iconst 3, 1) := by decide +kernel
theorem kd_Lw_law_637 : decode code 637 = .ok (.iadd, 1) := by decide +kernel
theorem kd_Lw_law_638 : decode code 638 = .ok (.iaload, 1) := by decide +kernel
theorem kd_Lw_law_639 : decode code 639 = .ok (.invokevirtual 82, 3) := by decide +kernel
theorem kd_Lw_law_642 : decode code 642 = .ok (.aload_n 2, 1) := by decide +kernel
theorem kd_Lw_law_643 : decode code 643 = .ok (.aload_n 0, 1) := by decide +kernel
theorem kd_Lw_law_644 : decode code 644 = .ok (.iload_n 3, 1) := by decide +kernel
theorem kd_Lw_law_645 : decode code 645 = .ok (.iconst 1, 1) := by decide +kernel
theorem kd_Lw_law_646 : decode code 646 = .ok (.iadd, 1) := by decide +kernel
theorem kd_Lw_law_647 : decode code 647 = .ok (.iaload, 1) := by decide +kernel
theorem kd_Lw_law_648 : decode code 648 = .ok (.aload_n 0, 1) := by decide +kernel
theorem kd_Lw_law_649 : decode code 649 = .ok (.iload_n 3, 1) := by decide +kernel
theorem kd_Lw_law_650 : decode code 650 = .ok (.iconst 2, 1) := by decide +kernel
theorem kd_Lw_law_651 : decode code 651 = .ok (.iadd, 1) := by decide +kernel
theorem kd_Lw_law_652 : decode code 652 = .ok (.iaload, 1) := by decide +kernel
theorem kd_Lw_law_653 : decode code 653 = .ok (.aload_n 0, 1) := by decide +kernel
theorem kd_Lw_law_654 : decode code 654 = .ok (.iload_n 3, 1) := by decide +kernel
theorem kd_Lw_law_655 : decode code 655 = .ok (.iconst 3, 1) := by decide +kernel
theorem kd_Lw_law_656 : decode code 656 = .ok (.iadd, 1) := by decide +kernel
theorem kd_Lw_law_657 : decode code 657 = .ok (.iaload, 1) := by decide +kernel
theorem kd_Lw_law_658 : decode code 658 = .ok (.invokevirtual 85, 3) := by decide +kernel
theorem kd_Lw_law_661 : decode code 661 = .ok (.if_icmp .eq 117, 3) := by decide +kernel
theorem kd_Lw_law_664 : decode code 664 = .ok (.iconst 0, 1) := by decide +kernel
theorem kd_Lw_law_665 : decode code 665 = .ok (.ireturn, 1) := by decide +kernel
theorem kd_Lw_law_666 : decode code 666 = .ok (.aload_n 1, 1) := by decide +kernel
theorem kd_Lw_law_667 : decode code 667 = .ok (.aload_n 0, 1) := by decide +kernel
theorem kd_Lw_law_668 : decode code 668 = .ok (.iload_n 3, 1) := by decide +kernel
theorem kd_Lw_law_669 : decode code 669 = .ok (.iconst 1, 1) := by decide +kernel
theorem kd_Lw_law_670 : decode code 670 = .ok (.iadd, 1) := by decide +kernel
theorem kd_Lw_law_671 : decode code 671 = .ok (.iaload, 1) := by decide +kernel
theorem kd_Lw_law_672 : decode code 672 = .ok (.invokevirtual 86, 3) := by decide +kernel
theorem kd_Lw_law_675 : decode code 675 = .ok (.aload_n 2, 1) := by decide +kernel
theorem kd_Lw_law_676 : decode code 676 = .ok (.aload_n 0, 1) := by decide +kernel
theorem kd_Lw_law_677 : decode code 677 = .ok (.iload_n 3, 1) := by decide +kernel
theorem kd_Lw_law_678 : decode code 678 = .ok (.iconst 1, 1) := by decide +kernel
theorem kd_Lw_law_679 : decode code 679 = .ok (.iadd, 1) := by decide +kernel
theorem kd_Lw_law_680 : decode code 680 = .ok (.iaload, 1) := by decide +kernel
theorem kd_Lw_law_681 : decode code 681 = .ok (.invokevirtual 89, 3) := by decide +kernel
theorem kd_Lw_law_684 : decode code 684 = .ok (.if_icmp .eq 94, 3) := by decide +kernel
theorem kd_Lw_law_687 : decode code 687 = .ok (.iconst 0, 1) := by decide +kernel
theorem kd_Lw_law_688 : decode code 688 = .ok (.ireturn, 1) := by decide +kernel
theorem kd_Lw_law_689 : decode code 689 = .ok (.aload_n 1, 1) := by decide +kernel
theorem kd_Lw_law_690 : decode code 690 = .ok (.aload_n 0, 1) := by decide +kernel
theorem kd_Lw_law_691 : decode code 691 = .ok (.iload_n 3, 1) := by decide +kernel
theorem kd_Lw_law_692 : decode code 692 = .ok (.iconst 1, 1) := by decide +kernel
theorem kd_Lw_law_693 : decode code 693 = .ok (.iadd, 1) := by decide +kernel
theorem kd_Lw_law_694 : decode code 694 = .ok (.iaload, 1) := by decide +kernel
theorem kd_Lw_law_695 : decode code 695 = .ok (.aload_n 0, 1) := by decide +kernel
theorem kd_Lw_law_696 : decode code 696 = .ok (.iload_n 3, 1) := by decide +kernel
theorem kd_Lw_law_697 : decode code 697 = .ok (.iconst 2, 1) := by decide +kernel
theorem kd_Lw_law_698 : decode code 698 = .ok (.iadd, 1) := by decide +kernel
theorem kd_Lw_law_699 : decode code 699 = .ok (.iaload, 1) := by decide +kernel
theorem kd_Lw_law_700 : decode code 700 = .ok (.invokevirtual 90, 3) := by decide +kernel
theorem kd_Lw_law_703 : decode code 703 = .ok (.aload_n 2, 1) := by decide +kernel
theorem kd_Lw_law_704 : decode code 704 = .ok (.aload_n 0, 1) := by decide +kernel
theorem kd_Lw_law_705 : decode code 705 = .ok (.iload_n 3, 1) := by decide +kernel
theorem kd_Lw_law_706 : decode code 706 = .ok (.iconst 1, 1) := by decide +kernel
theorem kd_Lw_law_707 : decode code 707 = .ok (.iadd, 1) := by decide +kernel
theorem kd_Lw_law_708 : decode code 708 = .ok (.iaload, 1) := by decide +kernel
theorem kd_Lw_law_709 : decode code 709 = .ok (.aload_n 0, 1) := by decide +kernel
theorem kd_Lw_law_710 : decode code 710 = .ok (.iload_n 3, 1) := by decide +kernel
theorem kd_Lw_law_711 : decode code 711 = .ok (.iconst 2, 1) := by decide +kernel
theorem kd_Lw_law_712 : decode code 712 = .ok (.iadd, 1) := by decide +kernel
theorem kd_Lw_law_713 : decode code 713 = .ok (.iaload, 1) := by decide +kernel
theorem kd_Lw_law_714 : decode code 714 = .ok (.invokevirtual 94, 3) := by decide +kernel
theorem kd_Lw_law_717 : decode code 717 = .ok (.if_icmp .eq 61, 3) := by decide +kernel
theorem kd_Lw_law_720 : decode code 720 = .ok (.iconst 0, 1) := by decide +kernel
theorem kd_Lw_law_721 : decode code 721 = .ok (.ireturn, 1) := by decide +kernel
theorem kd_Lw_law_722 : decode code 722 = .ok (.aload_n 1, 1) := by decide +kernel
theorem kd_Lw_law_723 : decode code 723 = .ok (.aload_n 0, 1) := by decide +kernel
theorem kd_Lw_law_724 : decode code 724 = .ok (.iload_n 3, 1) := by decide +kernel
theorem kd_Lw_law_725 : decode code 725 = .ok (.iconst 1, 1) := by decide +kernel
theorem kd_Lw_law_726 : decode code 726 = .ok (.iadd, 1) := by decide +kernel
theorem kd_Lw_law_727 : decode code 727 = .ok (.iaload, 1) := by decide +kernel
theorem kd_Lw_law_728 : decode code 728 = .ok (.invokevirtual 95, 3) := by decide +kernel
theorem kd_Lw_law_731 : decode code 731 = .ok (.aload_n 2, 1) := by decide +kernel
theorem kd_Lw_law_732 : decode code 732 = .ok (.aload_n 0, 1) := by decide +kernel
theorem kd_Lw_law_733 : decode code 733 = .ok (.iload_n 3, 1) := by decide +kernel
theorem kd_Lw_law_734 : decode code 734 = .ok (.iconst 1, 1) := by decide +kernel
theorem kd_Lw_law_735 : decode code 735 = .ok (.iadd, 1) := by decide +kernel
theorem kd_Lw_law_736 : decode code 736 = .ok (.iaload, 1) := by decide +kernel
theorem kd_Lw_law_737 : decode code 737 = .ok (.invokevirtual 98, 3) := by decide +kernel
theorem kd_Lw_law_740 : decode code 740 = .ok (.if_icmp .eq 38, 3) := by decide +kernel
theorem kd_Lw_law_743 : decode code 743 = .ok (.iconst 0, 1) := by decide +kernel
theorem kd_Lw_law_744 : decode code 744 = .ok (.ireturn, 1) := by decide +kernel
theorem kd_Lw_law_745 : decode code 745 = .ok (.aload_n 1, 1) := by decide +kernel
theorem kd_Lw_law_746 : decode code 746 = .ok (.aload_n 0, 1) := by decide +kernel
theorem kd_Lw_law_747 : decode code 747 = .ok (.iload_n 3, 1) := by decide +kernel
theorem kd_Lw_law_748 : decode code 748 = .ok (.iconst 1, 1) := by decide +kernel
theorem kd_Lw_law_749 : decode code 749 = .ok (.iadd, 1) := by decide +kernel
theorem kd_Lw_law_750 : decode code 750 = .ok (.iaload, 1) := by decide +kernel
theorem kd_Lw_law_751 : decode code 751 = .ok (.aload_n 0, 1) := by decide +kernel
theorem kd_Lw_law_752 : decode code 752 = .ok (.iload_n 3, 1) := by decide +kernel
theorem kd_Lw_law_753 : decode code 753 = .ok (.iconst 2, 1) := by decide +kernel
theorem kd_Lw_law_754 : decode code 754 = .ok (.iadd, 1) := by decide +kernel
theorem kd_Lw_law_755 : decode code 755 = .ok (.iaload, 1) := by decide +kernel
theorem kd_Lw_law_756 : decode code 756 = .ok (.invokevirtual 99, 3) := by decide +kernel
theorem kd_Lw_law_759 : decode code 759 = .ok (.aload_n 2, 1) := by decide +kernel
theorem kd_Lw_law_760 : decode code 760 = .ok (.aload_n 0, 1) := by decide +kernel
theorem kd_Lw_law_761 : decode code 761 = .ok (.iload_n 3, 1) := by decide +kernel
theorem kd_Lw_law_762 : decode code 762 = .ok (.iconst 1, 1) := by decide +kernel
theorem kd_Lw_law_763 : decode code 763 = .ok (.iadd, 1) := by decide +kernel
theorem kd_Lw_law_764 : decode code 764 = .ok (.iaload, 1) := by decide +kernel
theorem kd_Lw_law_765 : decode code 765 = .ok (.aload_n 0, 1) := by decide +kernel
theorem kd_Lw_law_766 : decode code 766 = .ok (.iload_n 3, 1) := by decide +kernel
theorem kd_Lw_law_767 : decode code 767 = .ok (.iconst 2, 1) := by decide +kernel
theorem kd_Lw_law_768 : decode code 768 = .ok (.iadd, 1) := by decide +kernel
theorem kd_Lw_law_769 : decode code 769 = .ok (.iaload, 1) := by decide +kernel
theorem kd_Lw_law_770 : decode code 770 = .ok (.invokevirtual 102, 3) := by decide +kernel
theorem kd_Lw_law_773 : decode code 773 = .ok (.if_icmp .eq 5, 3) := by decide +kernel
theorem kd_Lw_law_776 : decode code 776 = .ok (.iconst 0, 1) := by decide +kernel
theorem kd_Lw_law_777 : decode code 777 = .ok (.ireturn, 1) := by decide +kernel
theorem kd_Lw_law_778 : decode code 778 = .ok (.iinc 3 5, 3) := by decide +kernel
theorem kd_Lw_law_781 : decode code 781 = .ok (.goto (-753), 3) := by decide +kernel
theorem kd_Lw_law_784 : decode code 784 = .ok (.iconst 1, 1) := by decide +kernel
theorem kd_Lw_law_785 : decode code 785 = .ok (.ireturn, 1) := by decide +kernel
