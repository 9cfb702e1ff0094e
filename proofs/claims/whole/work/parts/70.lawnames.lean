/-! THE CLAIM OUT OF ONE WALK OF THE LAW'S BODY. Your part is whole_start (and what it stands on); all else here is the same for every law, but numbers. -/
def R_law : String := "LeapBoardLaw"
def lw_P (b : Addr) (xs : List Int32) (args : Array Value) (s : State) : Prop := args = #[.ref b] ∧ s.IntsAt b xs ∧ xs.length ≤ 2560 ∧ (Jvm.Cond.and given_1 narrow_1).before args s = true
def lw_Q (_ : Array Value) (s : State) (o : Outcome) (t : State) : Prop := o = .returned (some (.int 1)) ∧ Framed s o t [] 600000 7302250
def lw_Z (below : List Frame) (a : Array Value) (s : State) : State → Prop := fun t => ∃ o, t.status = .running ∧ Ended t below o ∧ lw_Q a s o t
/-- the law's own end, with 1 on the stack, nothing written that was there before, its room as the claim has it -/
theorem lw_ret {p : Program} {l : Launch} {e : Env} {s : State} {m : MethodId} {below : List Frame} {meth : Method} {c : Code} {b : Nat} (hx : p.tables.exec = Jvm.exec) (hb : c.code = code) (hr : meth.sig.returnType = ret) (hlocks : meth.locks = false) {pc : Nat} {H : Heap} {ls : Array Slot} (hdg : decode code pc = .ok (.ireturn, 1)) : W p l e room_1 s m #[Value.ref b] below meth c H [] 600000 7302250 (lw_Z below #[Value.ref b] s) (F0 m pc ls [.int 1]) := by
  intro T hT X
  obtain ⟨fs, hret, hrun, hended, hW, hframe⟩ := X.leave (v := some (.int 1)) (hlocks := hlocks) (fun h => by rw [hr] at h; cases h)
  have hmeth' : T.vm.method? m = some meth := X.method'
  refine ⟨T.setFrames fs, ?_, .returned (some (.int 1)), hrun, hended, rfl, ⟨_, rfl⟩, hW, hframe⟩
  jvm_step X.here [X.here.top, hx, hb, hdg, hmeth', hr, ret, narrow_b1]
  (try refine ⟨rfl, ?_⟩); (try refine ⟨rfl, ?_⟩)
  first | (intro acts; rw [hret _ acts rfl rfl rfl]) | rw [hret _ _ rfl rfl rfl]
  exact Steps.refl _
/-- what holds at the law's entry: the machine, the code, the tables' words (any of lw_tbl by 'hts w (by decide +kernel)'), the script of L ints xs at the cell b, what the Statement gives of the start (any of its parts by flat_of_before) -/
def lw_At (p : Program) (s : State) (m : MethodId) (meth : Method) (c : Code) (b L : Nat) (xs : Nat → Int32) : Prop :=
  p.tables.exec = Jvm.exec ∧ c.code = code ∧ meth.sig.returnType = ret ∧ c.maxLocals = 4 ∧ s.vm.findClass R_law = some m.cls ∧ (∀ w ∈ lw_tbl, w.before #[Value.ref b] s = true) ∧ va_X b L xs s s.heap ∧ b < s.heap.size ∧ meth.locks = false ∧ (Jvm.Cond.and given_1 narrow_1).before #[Value.ref b] s = true
theorem iL_law_0 : decode cL_law 0 = .ok (.new 7, 3) ∧ 0 + 3 = 3 := ⟨by decide +kernel, rfl⟩
theorem iL_law_3 : decode cL_law 3 = .ok (.dup, 1) ∧ 3 + 1 = 4 := ⟨by decide +kernel, rfl⟩
theorem iL_law_4 : decode cL_law 4 = .ok (.invokespecial 9, 3) ∧ 4 + 3 = 7 := ⟨by decide +kernel, rfl⟩
theorem iL_law_7 : decode cL_law 7 = .ok (.astore_n 1, 1) ∧ 7 + 1 = 8 := ⟨by decide +kernel, rfl⟩
theorem iL_law_8 : decode cL_law 8 = .ok (.new 10, 3) ∧ 8 + 3 = 11 := ⟨by decide +kernel, rfl⟩
theorem iL_law_11 : decode cL_law 11 = .ok (.dup, 1) ∧ 11 + 1 = 12 := ⟨by decide +kernel, rfl⟩
theorem iL_law_12 : decode cL_law 12 = .ok (.invokespecial 12, 3) ∧ 12 + 3 = 15 := ⟨by decide +kernel, rfl⟩
theorem iL_law_15 : decode cL_law 15 = .ok (.astore_n 2, 1) ∧ 15 + 1 = 16 := ⟨by decide +kernel, rfl⟩
theorem iL_law_16 : decode cL_law 16 = .ok (.iconst 0, 1) ∧ 16 + 1 = 17 := ⟨by decide +kernel, rfl⟩
theorem iL_law_17 : decode cL_law 17 = .ok (.istore_n 3, 1) ∧ 17 + 1 = 18 := ⟨by decide +kernel, rfl⟩
theorem iL_law_18 : decode cL_law 18 = .ok (.iload_n 3, 1) ∧ 18 + 1 = 19 := ⟨by decide +kernel, rfl⟩
theorem iL_law_19 : decode cL_law 19 = .ok (.aload_n 0, 1) ∧ 19 + 1 = 20 := ⟨by decide +kernel, rfl⟩
theorem iL_law_20 : decode cL_law 20 = .ok (.arraylength, 1) ∧ 20 + 1 = 21 := ⟨by decide +kernel, rfl⟩
theorem iL_law_21 : decode cL_law 21 = .ok (.iconst 5, 1) ∧ 21 + 1 = 22 := ⟨by decide +kernel, rfl⟩
theorem iL_law_22 : decode cL_law 22 = .ok (.isub, 1) ∧ 22 + 1 = 23 := ⟨by decide +kernel, rfl⟩
theorem iL_law_23 : decode cL_law 23 = .ok (.if_icmp .gt 796, 3) ∧ 23 + 3 = 26 := ⟨by decide +kernel, rfl⟩
theorem iL_law_26 : decode cL_law 26 = .ok (.aload_n 0, 1) ∧ 26 + 1 = 27 := ⟨by decide +kernel, rfl⟩
theorem iL_law_27 : decode cL_law 27 = .ok (.iload_n 3, 1) ∧ 27 + 1 = 28 := ⟨by decide +kernel, rfl⟩
theorem iL_law_28 : decode cL_law 28 = .ok (.iaload, 1) ∧ 28 + 1 = 29 := ⟨by decide +kernel, rfl⟩
theorem iL_law_29 : decode cL_law 29 = .ok (.bipush 31, 2) ∧ 29 + 2 = 31 := ⟨by decide +kernel, rfl⟩
theorem iL_law_31 : decode cL_law 31 = .ok (.iand, 1) ∧ 31 + 1 = 32 := ⟨by decide +kernel, rfl⟩
theorem iL_law_32 : decode cL_law 32 = .ok (.tableswitch 781 0 23 #[112, 135, 148, 161, 174, 207, 240, 273, 306, 329, 352, 385, 418, 451, 484, 517, 550, 593, 662, 675, 718, 731, 744, 767], 112) ∧ 32 + 112 = 144 := ⟨by decide +kernel, rfl⟩
theorem iL_law_144 : decode cL_law 144 = .ok (.aload_n 1, 1) ∧ 144 + 1 = 145 := ⟨by decide +kernel, rfl⟩
theorem iL_law_145 : decode cL_law 145 = .ok (.aload_n 0, 1) ∧ 145 + 1 = 146 := ⟨by decide +kernel, rfl⟩
theorem iL_law_146 : decode cL_law 146 = .ok (.iload_n 3, 1) ∧ 146 + 1 = 147 := ⟨by decide +kernel, rfl⟩
theorem iL_law_147 : decode cL_law 147 = .ok (.iconst 1, 1) ∧ 147 + 1 = 148 := ⟨by decide +kernel, rfl⟩
theorem iL_law_148 : decode cL_law 148 = .ok (.iadd, 1) ∧ 148 + 1 = 149 := ⟨by decide +kernel, rfl⟩
theorem iL_law_149 : decode cL_law 149 = .ok (.iaload, 1) ∧ 149 + 1 = 150 := ⟨by decide +kernel, rfl⟩
theorem iL_law_150 : decode cL_law 150 = .ok (.invokevirtual 13, 3) ∧ 150 + 3 = 153 := ⟨by decide +kernel, rfl⟩
theorem iL_law_153 : decode cL_law 153 = .ok (.aload_n 2, 1) ∧ 153 + 1 = 154 := ⟨by decide +kernel, rfl⟩
theorem iL_law_154 : decode cL_law 154 = .ok (.aload_n 0, 1) ∧ 154 + 1 = 155 := ⟨by decide +kernel, rfl⟩
theorem iL_law_155 : decode cL_law 155 = .ok (.iload_n 3, 1) ∧ 155 + 1 = 156 := ⟨by decide +kernel, rfl⟩
theorem iL_law_156 : decode cL_law 156 = .ok (.iconst 1, 1) ∧ 156 + 1 = 157 := ⟨by decide +kernel, rfl⟩
theorem iL_law_157 : decode cL_law 157 = .ok (.iadd, 1) ∧ 157 + 1 = 158 := ⟨by decide +kernel, rfl⟩
theorem iL_law_158 : decode cL_law 158 = .ok (.iaload, 1) ∧ 158 + 1 = 159 := ⟨by decide +kernel, rfl⟩
theorem iL_law_159 : decode cL_law 159 = .ok (.invokevirtual 17, 3) ∧ 159 + 3 = 162 := ⟨by decide +kernel, rfl⟩
theorem iL_law_162 : decode cL_law 162 = .ok (.if_icmp .eq 651, 3) ∧ 162 + 3 = 165 := ⟨by decide +kernel, rfl⟩
theorem iL_law_165 : decode cL_law 165 = .ok (.iconst 0, 1) ∧ 165 + 1 = 166 := ⟨by decide +kernel, rfl⟩
theorem iL_law_166 : decode cL_law 166 = .ok (.ireturn, 1) ∧ 166 + 1 = 167 := ⟨by decide +kernel, rfl⟩
theorem iL_law_167 : decode cL_law 167 = .ok (.aload_n 1, 1) ∧ 167 + 1 = 168 := ⟨by decide +kernel, rfl⟩
theorem iL_law_168 : decode cL_law 168 = .ok (.invokevirtual 18, 3) ∧ 168 + 3 = 171 := ⟨by decide +kernel, rfl⟩
theorem iL_law_171 : decode cL_law 171 = .ok (.aload_n 2, 1) ∧ 171 + 1 = 172 := ⟨by decide +kernel, rfl⟩
theorem iL_law_172 : decode cL_law 172 = .ok (.invokevirtual 22, 3) ∧ 172 + 3 = 175 := ⟨by decide +kernel, rfl⟩
theorem iL_law_175 : decode cL_law 175 = .ok (.if_icmp .eq 638, 3) ∧ 175 + 3 = 178 := ⟨by decide +kernel, rfl⟩
theorem iL_law_178 : decode cL_law 178 = .ok (.iconst 0, 1) ∧ 178 + 1 = 179 := ⟨by decide +kernel, rfl⟩
theorem iL_law_179 : decode cL_law 179 = .ok (.ireturn, 1) ∧ 179 + 1 = 180 := ⟨by decide +kernel, rfl⟩
theorem iL_law_180 : decode cL_law 180 = .ok (.aload_n 1, 1) ∧ 180 + 1 = 181 := ⟨by decide +kernel, rfl⟩
theorem iL_law_181 : decode cL_law 181 = .ok (.invokevirtual 23, 3) ∧ 181 + 3 = 184 := ⟨by decide +kernel, rfl⟩
theorem iL_law_184 : decode cL_law 184 = .ok (.aload_n 2, 1) ∧ 184 + 1 = 185 := ⟨by decide +kernel, rfl⟩
theorem iL_law_185 : decode cL_law 185 = .ok (.invokevirtual 26, 3) ∧ 185 + 3 = 188 := ⟨by decide +kernel, rfl⟩
theorem iL_law_188 : decode cL_law 188 = .ok (.if_icmp .eq 625, 3) ∧ 188 + 3 = 191 := ⟨by decide +kernel, rfl⟩
theorem iL_law_191 : decode cL_law 191 = .ok (.iconst 0, 1) ∧ 191 + 1 = 192 := ⟨by decide +kernel, rfl⟩
theorem iL_law_192 : decode cL_law 192 = .ok (.ireturn, 1) ∧ 192 + 1 = 193 := ⟨by decide +kernel, rfl⟩
theorem iL_law_193 : decode cL_law 193 = .ok (.aload_n 1, 1) ∧ 193 + 1 = 194 := ⟨by decide +kernel, rfl⟩
theorem iL_law_194 : decode cL_law 194 = .ok (.invokevirtual 27, 3) ∧ 194 + 3 = 197 := ⟨by decide +kernel, rfl⟩
theorem iL_law_197 : decode cL_law 197 = .ok (.aload_n 2, 1) ∧ 197 + 1 = 198 := ⟨by decide +kernel, rfl⟩
theorem iL_law_198 : decode cL_law 198 = .ok (.invokevirtual 30, 3) ∧ 198 + 3 = 201 := ⟨by decide +kernel, rfl⟩
theorem iL_law_201 : decode cL_law 201 = .ok (.if_icmp .eq 612, 3) ∧ 201 + 3 = 204 := ⟨by decide +kernel, rfl⟩
theorem iL_law_204 : decode cL_law 204 = .ok (.iconst 0, 1) ∧ 204 + 1 = 205 := ⟨by decide +kernel, rfl⟩
theorem iL_law_205 : decode cL_law 205 = .ok (.ireturn, 1) ∧ 205 + 1 = 206 := ⟨by decide +kernel, rfl⟩
theorem iL_law_206 : decode cL_law 206 = .ok (.aload_n 1, 1) ∧ 206 + 1 = 207 := ⟨by decide +kernel, rfl⟩
theorem iL_law_207 : decode cL_law 207 = .ok (.aload_n 0, 1) ∧ 207 + 1 = 208 := ⟨by decide +kernel, rfl⟩
theorem iL_law_208 : decode cL_law 208 = .ok (.iload_n 3, 1) ∧ 208 + 1 = 209 := ⟨by decide +kernel, rfl⟩
theorem iL_law_209 : decode cL_law 209 = .ok (.iconst 1, 1) ∧ 209 + 1 = 210 := ⟨by decide +kernel, rfl⟩
theorem iL_law_210 : decode cL_law 210 = .ok (.iadd, 1) ∧ 210 + 1 = 211 := ⟨by decide +kernel, rfl⟩
theorem iL_law_211 : decode cL_law 211 = .ok (.iaload, 1) ∧ 211 + 1 = 212 := ⟨by decide +kernel, rfl⟩
theorem iL_law_212 : decode cL_law 212 = .ok (.aload_n 0, 1) ∧ 212 + 1 = 213 := ⟨by decide +kernel, rfl⟩
theorem iL_law_213 : decode cL_law 213 = .ok (.iload_n 3, 1) ∧ 213 + 1 = 214 := ⟨by decide +kernel, rfl⟩
theorem iL_law_214 : decode cL_law 214 = .ok (.iconst 2, 1) ∧ 214 + 1 = 215 := ⟨by decide +kernel, rfl⟩
theorem iL_law_215 : decode cL_law 215 = .ok (.iadd, 1) ∧ 215 + 1 = 216 := ⟨by decide +kernel, rfl⟩
theorem iL_law_216 : decode cL_law 216 = .ok (.iaload, 1) ∧ 216 + 1 = 217 := ⟨by decide +kernel, rfl⟩
theorem iL_law_217 : decode cL_law 217 = .ok (.invokevirtual 31, 3) ∧ 217 + 3 = 220 := ⟨by decide +kernel, rfl⟩
theorem iL_law_220 : decode cL_law 220 = .ok (.aload_n 2, 1) ∧ 220 + 1 = 221 := ⟨by decide +kernel, rfl⟩
theorem iL_law_221 : decode cL_law 221 = .ok (.aload_n 0, 1) ∧ 221 + 1 = 222 := ⟨by decide +kernel, rfl⟩
theorem iL_law_222 : decode cL_law 222 = .ok (.iload_n 3, 1) ∧ 222 + 1 = 223 := ⟨by decide +kernel, rfl⟩
theorem iL_law_223 : decode cL_law 223 = .ok (.iconst 1, 1) ∧ 223 + 1 = 224 := ⟨by decide +kernel, rfl⟩
theorem iL_law_224 : decode cL_law 224 = .ok (.iadd, 1) ∧ 224 + 1 = 225 := ⟨by decide +kernel, rfl⟩
theorem iL_law_225 : decode cL_law 225 = .ok (.iaload, 1) ∧ 225 + 1 = 226 := ⟨by decide +kernel, rfl⟩
theorem iL_law_226 : decode cL_law 226 = .ok (.aload_n 0, 1) ∧ 226 + 1 = 227 := ⟨by decide +kernel, rfl⟩
theorem iL_law_227 : decode cL_law 227 = .ok (.iload_n 3, 1) ∧ 227 + 1 = 228 := ⟨by decide +kernel, rfl⟩
theorem iL_law_228 : decode cL_law 228 = .ok (.iconst 2, 1) ∧ 228 + 1 = 229 := ⟨by decide +kernel, rfl⟩
theorem iL_law_229 : decode cL_law 229 = .ok (.iadd, 1) ∧ 229 + 1 = 230 := ⟨by decide +kernel, rfl⟩
theorem iL_law_230 : decode cL_law 230 = .ok (.iaload, 1) ∧ 230 + 1 = 231 := ⟨by decide +kernel, rfl⟩
theorem iL_law_231 : decode cL_law 231 = .ok (.invokevirtual 35, 3) ∧ 231 + 3 = 234 := ⟨by decide +kernel, rfl⟩
theorem iL_law_234 : decode cL_law 234 = .ok (.if_icmp .eq 579, 3) ∧ 234 + 3 = 237 := ⟨by decide +kernel, rfl⟩
theorem iL_law_237 : decode cL_law 237 = .ok (.iconst 0, 1) ∧ 237 + 1 = 238 := ⟨by decide +kernel, rfl⟩
theorem iL_law_238 : decode cL_law 238 = .ok (.ireturn, 1) ∧ 238 + 1 = 239 := ⟨by decide +kernel, rfl⟩
theorem iL_law_239 : decode cL_law 239 = .ok (.aload_n 1, 1) ∧ 239 + 1 = 240 := ⟨by decide +kernel, rfl⟩
theorem iL_law_240 : decode cL_law 240 = .ok (.aload_n 0, 1) ∧ 240 + 1 = 241 := ⟨by decide +kernel, rfl⟩
theorem iL_law_241 : decode cL_law 241 = .ok (.iload_n 3, 1) ∧ 241 + 1 = 242 := ⟨by decide +kernel, rfl⟩
theorem iL_law_242 : decode cL_law 242 = .ok (.iconst 1, 1) ∧ 242 + 1 = 243 := ⟨by decide +kernel, rfl⟩
theorem iL_law_243 : decode cL_law 243 = .ok (.iadd, 1) ∧ 243 + 1 = 244 := ⟨by decide +kernel, rfl⟩
theorem iL_law_244 : decode cL_law 244 = .ok (.iaload, 1) ∧ 244 + 1 = 245 := ⟨by decide +kernel, rfl⟩
theorem iL_law_245 : decode cL_law 245 = .ok (.aload_n 0, 1) ∧ 245 + 1 = 246 := ⟨by decide +kernel, rfl⟩
theorem iL_law_246 : decode cL_law 246 = .ok (.iload_n 3, 1) ∧ 246 + 1 = 247 := ⟨by decide +kernel, rfl⟩
theorem iL_law_247 : decode cL_law 247 = .ok (.iconst 2, 1) ∧ 247 + 1 = 248 := ⟨by decide +kernel, rfl⟩
theorem iL_law_248 : decode cL_law 248 = .ok (.iadd, 1) ∧ 248 + 1 = 249 := ⟨by decide +kernel, rfl⟩
theorem iL_law_249 : decode cL_law 249 = .ok (.iaload, 1) ∧ 249 + 1 = 250 := ⟨by decide +kernel, rfl⟩
theorem iL_law_250 : decode cL_law 250 = .ok (.invokevirtual 36, 3) ∧ 250 + 3 = 253 := ⟨by decide +kernel, rfl⟩
theorem iL_law_253 : decode cL_law 253 = .ok (.aload_n 2, 1) ∧ 253 + 1 = 254 := ⟨by decide +kernel, rfl⟩
theorem iL_law_254 : decode cL_law 254 = .ok (.aload_n 0, 1) ∧ 254 + 1 = 255 := ⟨by decide +kernel, rfl⟩
theorem iL_law_255 : decode cL_law 255 = .ok (.iload_n 3, 1) ∧ 255 + 1 = 256 := ⟨by decide +kernel, rfl⟩
theorem iL_law_256 : decode cL_law 256 = .ok (.iconst 1, 1) ∧ 256 + 1 = 257 := ⟨by decide +kernel, rfl⟩
theorem iL_law_257 : decode cL_law 257 = .ok (.iadd, 1) ∧ 257 + 1 = 258 := ⟨by decide +kernel, rfl⟩
theorem iL_law_258 : decode cL_law 258 = .ok (.iaload, 1) ∧ 258 + 1 = 259 := ⟨by decide +kernel, rfl⟩
theorem iL_law_259 : decode cL_law 259 = .ok (.aload_n 0, 1) ∧ 259 + 1 = 260 := ⟨by decide +kernel, rfl⟩
theorem iL_law_260 : decode cL_law 260 = .ok (.iload_n 3, 1) ∧ 260 + 1 = 261 := ⟨by decide +kernel, rfl⟩
theorem iL_law_261 : decode cL_law 261 = .ok (.iconst 2, 1) ∧ 261 + 1 = 262 := ⟨by decide +kernel, rfl⟩
theorem iL_law_262 : decode cL_law 262 = .ok (.iadd, 1) ∧ 262 + 1 = 263 := ⟨by decide +kernel, rfl⟩
theorem iL_law_263 : decode cL_law 263 = .ok (.iaload, 1) ∧ 263 + 1 = 264 := ⟨by decide +kernel, rfl⟩
theorem iL_law_264 : decode cL_law 264 = .ok (.invokevirtual 39, 3) ∧ 264 + 3 = 267 := ⟨by decide +kernel, rfl⟩
theorem iL_law_267 : decode cL_law 267 = .ok (.if_icmp .eq 546, 3) ∧ 267 + 3 = 270 := ⟨by decide +kernel, rfl⟩
theorem iL_law_270 : decode cL_law 270 = .ok (.iconst 0, 1) ∧ 270 + 1 = 271 := ⟨by decide +kernel, rfl⟩
theorem iL_law_271 : decode cL_law 271 = .ok (.ireturn, 1) ∧ 271 + 1 = 272 := ⟨by decide +kernel, rfl⟩
theorem iL_law_272 : decode cL_law 272 = .ok (.aload_n 1, 1) ∧ 272 + 1 = 273 := ⟨by decide +kernel, rfl⟩
theorem iL_law_273 : decode cL_law 273 = .ok (.aload_n 0, 1) ∧ 273 + 1 = 274 := ⟨by decide +kernel, rfl⟩
theorem iL_law_274 : decode cL_law 274 = .ok (.iload_n 3, 1) ∧ 274 + 1 = 275 := ⟨by decide +kernel, rfl⟩
theorem iL_law_275 : decode cL_law 275 = .ok (.iconst 1, 1) ∧ 275 + 1 = 276 := ⟨by decide +kernel, rfl⟩
theorem iL_law_276 : decode cL_law 276 = .ok (.iadd, 1) ∧ 276 + 1 = 277 := ⟨by decide +kernel, rfl⟩
theorem iL_law_277 : decode cL_law 277 = .ok (.iaload, 1) ∧ 277 + 1 = 278 := ⟨by decide +kernel, rfl⟩
theorem iL_law_278 : decode cL_law 278 = .ok (.aload_n 0, 1) ∧ 278 + 1 = 279 := ⟨by decide +kernel, rfl⟩
theorem iL_law_279 : decode cL_law 279 = .ok (.iload_n 3, 1) ∧ 279 + 1 = 280 := ⟨by decide +kernel, rfl⟩
theorem iL_law_280 : decode cL_law 280 = .ok (.iconst 2, 1) ∧ 280 + 1 = 281 := ⟨by decide +kernel, rfl⟩
theorem iL_law_281 : decode cL_law 281 = .ok (.iadd, 1) ∧ 281 + 1 = 282 := ⟨by decide +kernel, rfl⟩
theorem iL_law_282 : decode cL_law 282 = .ok (.iaload, 1) ∧ 282 + 1 = 283 := ⟨by decide +kernel, rfl⟩
theorem iL_law_283 : decode cL_law 283 = .ok (.invokevirtual 40, 3) ∧ 283 + 3 = 286 := ⟨by decide +kernel, rfl⟩
theorem iL_law_286 : decode cL_law 286 = .ok (.aload_n 2, 1) ∧ 286 + 1 = 287 := ⟨by decide +kernel, rfl⟩
theorem iL_law_287 : decode cL_law 287 = .ok (.aload_n 0, 1) ∧ 287 + 1 = 288 := ⟨by decide +kernel, rfl⟩
theorem iL_law_288 : decode cL_law 288 = .ok (.iload_n 3, 1) ∧ 288 + 1 = 289 := ⟨by decide +kernel, rfl⟩
theorem iL_law_289 : decode cL_law 289 = .ok (.iconst 1, 1) ∧ 289 + 1 = 290 := ⟨by decide +kernel, rfl⟩
theorem iL_law_290 : decode cL_law 290 = .ok (.iadd, 1) ∧ 290 + 1 = 291 := ⟨by decide +kernel, rfl⟩
theorem iL_law_291 : decode cL_law 291 = .ok (.iaload, 1) ∧ 291 + 1 = 292 := ⟨by decide +kernel, rfl⟩
theorem iL_law_292 : decode cL_law 292 = .ok (.aload_n 0, 1) ∧ 292 + 1 = 293 := ⟨by decide +kernel, rfl⟩
theorem iL_law_293 : decode cL_law 293 = .ok (.iload_n 3, 1) ∧ 293 + 1 = 294 := ⟨by decide +kernel, rfl⟩
theorem iL_law_294 : decode cL_law 294 = .ok (.iconst 2, 1) ∧ 294 + 1 = 295 := ⟨by decide +kernel, rfl⟩
theorem iL_law_295 : decode cL_law 295 = .ok (.iadd, 1) ∧ 295 + 1 = 296 := ⟨by decide +kernel, rfl⟩
theorem iL_law_296 : decode cL_law 296 = .ok (.iaload, 1) ∧ 296 + 1 = 297 := ⟨by decide +kernel, rfl⟩
theorem iL_law_297 : decode cL_law 297 = .ok (.invokevirtual 43, 3) ∧ 297 + 3 = 300 := ⟨by decide +kernel, rfl⟩
theorem iL_law_300 : decode cL_law 300 = .ok (.if_icmp .eq 513, 3) ∧ 300 + 3 = 303 := ⟨by decide +kernel, rfl⟩
theorem iL_law_303 : decode cL_law 303 = .ok (.iconst 0, 1) ∧ 303 + 1 = 304 := ⟨by decide +kernel, rfl⟩
theorem iL_law_304 : decode cL_law 304 = .ok (.ireturn, 1) ∧ 304 + 1 = 305 := ⟨by decide +kernel, rfl⟩
theorem iL_law_305 : decode cL_law 305 = .ok (.aload_n 1, 1) ∧ 305 + 1 = 306 := ⟨by decide +kernel, rfl⟩
theorem iL_law_306 : decode cL_law 306 = .ok (.aload_n 0, 1) ∧ 306 + 1 = 307 := ⟨by decide +kernel, rfl⟩
theorem iL_law_307 : decode cL_law 307 = .ok (.iload_n 3, 1) ∧ 307 + 1 = 308 := ⟨by decide +kernel, rfl⟩
theorem iL_law_308 : decode cL_law 308 = .ok (.iconst 1, 1) ∧ 308 + 1 = 309 := ⟨by decide +kernel, rfl⟩
theorem iL_law_309 : decode cL_law 309 = .ok (.iadd, 1) ∧ 309 + 1 = 310 := ⟨by decide +kernel, rfl⟩
theorem iL_law_310 : decode cL_law 310 = .ok (.iaload, 1) ∧ 310 + 1 = 311 := ⟨by decide +kernel, rfl⟩
theorem iL_law_311 : decode cL_law 311 = .ok (.aload_n 0, 1) ∧ 311 + 1 = 312 := ⟨by decide +kernel, rfl⟩
theorem iL_law_312 : decode cL_law 312 = .ok (.iload_n 3, 1) ∧ 312 + 1 = 313 := ⟨by decide +kernel, rfl⟩
theorem iL_law_313 : decode cL_law 313 = .ok (.iconst 2, 1) ∧ 313 + 1 = 314 := ⟨by decide +kernel, rfl⟩
theorem iL_law_314 : decode cL_law 314 = .ok (.iadd, 1) ∧ 314 + 1 = 315 := ⟨by decide +kernel, rfl⟩
theorem iL_law_315 : decode cL_law 315 = .ok (.iaload, 1) ∧ 315 + 1 = 316 := ⟨by decide +kernel, rfl⟩
theorem iL_law_316 : decode cL_law 316 = .ok (.invokevirtual 44, 3) ∧ 316 + 3 = 319 := ⟨by decide +kernel, rfl⟩
theorem iL_law_319 : decode cL_law 319 = .ok (.aload_n 2, 1) ∧ 319 + 1 = 320 := ⟨by decide +kernel, rfl⟩
theorem iL_law_320 : decode cL_law 320 = .ok (.aload_n 0, 1) ∧ 320 + 1 = 321 := ⟨by decide +kernel, rfl⟩
theorem iL_law_321 : decode cL_law 321 = .ok (.iload_n 3, 1) ∧ 321 + 1 = 322 := ⟨by decide +kernel, rfl⟩
theorem iL_law_322 : decode cL_law 322 = .ok (.iconst 1, 1) ∧ 322 + 1 = 323 := ⟨by decide +kernel, rfl⟩
theorem iL_law_323 : decode cL_law 323 = .ok (.iadd, 1) ∧ 323 + 1 = 324 := ⟨by decide +kernel, rfl⟩
theorem iL_law_324 : decode cL_law 324 = .ok (.iaload, 1) ∧ 324 + 1 = 325 := ⟨by decide +kernel, rfl⟩
theorem iL_law_325 : decode cL_law 325 = .ok (.aload_n 0, 1) ∧ 325 + 1 = 326 := ⟨by decide +kernel, rfl⟩
theorem iL_law_326 : decode cL_law 326 = .ok (.iload_n 3, 1) ∧ 326 + 1 = 327 := ⟨by decide +kernel, rfl⟩
theorem iL_law_327 : decode cL_law 327 = .ok (.iconst 2, 1) ∧ 327 + 1 = 328 := ⟨by decide +kernel, rfl⟩
theorem iL_law_328 : decode cL_law 328 = .ok (.iadd, 1) ∧ 328 + 1 = 329 := ⟨by decide +kernel, rfl⟩
theorem iL_law_329 : decode cL_law 329 = .ok (.iaload, 1) ∧ 329 + 1 = 330 := ⟨by decide +kernel, rfl⟩
theorem iL_law_330 : decode cL_law 330 = .ok (.invokevirtual 47, 3) ∧ 330 + 3 = 333 := ⟨by decide +kernel, rfl⟩
theorem iL_law_333 : decode cL_law 333 = .ok (.if_icmp .eq 480, 3) ∧ 333 + 3 = 336 := ⟨by decide +kernel, rfl⟩
theorem iL_law_336 : decode cL_law 336 = .ok (.iconst 0, 1) ∧ 336 + 1 = 337 := ⟨by decide +kernel, rfl⟩
theorem iL_law_337 : decode cL_law 337 = .ok (.ireturn, 1) ∧ 337 + 1 = 338 := ⟨by decide +kernel, rfl⟩
theorem iL_law_338 : decode cL_law 338 = .ok (.aload_n 1, 1) ∧ 338 + 1 = 339 := ⟨by decide +kernel, rfl⟩
theorem iL_law_339 : decode cL_law 339 = .ok (.aload_n 0, 1) ∧ 339 + 1 = 340 := ⟨by decide +kernel, rfl⟩
theorem iL_law_340 : decode cL_law 340 = .ok (.iload_n 3, 1) ∧ 340 + 1 = 341 := ⟨by decide +kernel, rfl⟩
theorem iL_law_341 : decode cL_law 341 = .ok (.iconst 1, 1) ∧ 341 + 1 = 342 := ⟨by decide +kernel, rfl⟩
theorem iL_law_342 : decode cL_law 342 = .ok (.iadd, 1) ∧ 342 + 1 = 343 := ⟨by decide +kernel, rfl⟩
theorem iL_law_343 : decode cL_law 343 = .ok (.iaload, 1) ∧ 343 + 1 = 344 := ⟨by decide +kernel, rfl⟩
theorem iL_law_344 : decode cL_law 344 = .ok (.invokevirtual 48, 3) ∧ 344 + 3 = 347 := ⟨by decide +kernel, rfl⟩
theorem iL_law_347 : decode cL_law 347 = .ok (.aload_n 2, 1) ∧ 347 + 1 = 348 := ⟨by decide +kernel, rfl⟩
theorem iL_law_348 : decode cL_law 348 = .ok (.aload_n 0, 1) ∧ 348 + 1 = 349 := ⟨by decide +kernel, rfl⟩
theorem iL_law_349 : decode cL_law 349 = .ok (.iload_n 3, 1) ∧ 349 + 1 = 350 := ⟨by decide +kernel, rfl⟩
theorem iL_law_350 : decode cL_law 350 = .ok (.iconst 1, 1) ∧ 350 + 1 = 351 := ⟨by decide +kernel, rfl⟩
theorem iL_law_351 : decode cL_law 351 = .ok (.iadd, 1) ∧ 351 + 1 = 352 := ⟨by decide +kernel, rfl⟩
theorem iL_law_352 : decode cL_law 352 = .ok (.iaload, 1) ∧ 352 + 1 = 353 := ⟨by decide +kernel, rfl⟩
theorem iL_law_353 : decode cL_law 353 = .ok (.invokevirtual 51, 3) ∧ 353 + 3 = 356 := ⟨by decide +kernel, rfl⟩
theorem iL_law_356 : decode cL_law 356 = .ok (.if_icmp .eq 457, 3) ∧ 356 + 3 = 359 := ⟨by decide +kernel, rfl⟩
theorem iL_law_359 : decode cL_law 359 = .ok (.iconst 0, 1) ∧ 359 + 1 = 360 := ⟨by decide +kernel, rfl⟩
theorem iL_law_360 : decode cL_law 360 = .ok (.ireturn, 1) ∧ 360 + 1 = 361 := ⟨by decide +kernel, rfl⟩
theorem iL_law_361 : decode cL_law 361 = .ok (.aload_n 1, 1) ∧ 361 + 1 = 362 := ⟨by decide +kernel, rfl⟩
theorem iL_law_362 : decode cL_law 362 = .ok (.aload_n 0, 1) ∧ 362 + 1 = 363 := ⟨by decide +kernel, rfl⟩
theorem iL_law_363 : decode cL_law 363 = .ok (.iload_n 3, 1) ∧ 363 + 1 = 364 := ⟨by decide +kernel, rfl⟩
theorem iL_law_364 : decode cL_law 364 = .ok (.iconst 1, 1) ∧ 364 + 1 = 365 := ⟨by decide +kernel, rfl⟩
theorem iL_law_365 : decode cL_law 365 = .ok (.iadd, 1) ∧ 365 + 1 = 366 := ⟨by decide +kernel, rfl⟩
theorem iL_law_366 : decode cL_law 366 = .ok (.iaload, 1) ∧ 366 + 1 = 367 := ⟨by decide +kernel, rfl⟩
theorem iL_law_367 : decode cL_law 367 = .ok (.invokevirtual 52, 3) ∧ 367 + 3 = 370 := ⟨by decide +kernel, rfl⟩
theorem iL_law_370 : decode cL_law 370 = .ok (.aload_n 2, 1) ∧ 370 + 1 = 371 := ⟨by decide +kernel, rfl⟩
theorem iL_law_371 : decode cL_law 371 = .ok (.aload_n 0, 1) ∧ 371 + 1 = 372 := ⟨by decide +kernel, rfl⟩
theorem iL_law_372 : decode cL_law 372 = .ok (.iload_n 3, 1) ∧ 372 + 1 = 373 := ⟨by decide +kernel, rfl⟩
theorem iL_law_373 : decode cL_law 373 = .ok (.iconst 1, 1) ∧ 373 + 1 = 374 := ⟨by decide +kernel, rfl⟩
theorem iL_law_374 : decode cL_law 374 = .ok (.iadd, 1) ∧ 374 + 1 = 375 := ⟨by decide +kernel, rfl⟩
theorem iL_law_375 : decode cL_law 375 = .ok (.iaload, 1) ∧ 375 + 1 = 376 := ⟨by decide +kernel, rfl⟩
theorem iL_law_376 : decode cL_law 376 = .ok (.invokevirtual 55, 3) ∧ 376 + 3 = 379 := ⟨by decide +kernel, rfl⟩
theorem iL_law_379 : decode cL_law 379 = .ok (.if_icmp .eq 434, 3) ∧ 379 + 3 = 382 := ⟨by decide +kernel, rfl⟩
theorem iL_law_382 : decode cL_law 382 = .ok (.iconst 0, 1) ∧ 382 + 1 = 383 := ⟨by decide +kernel, rfl⟩
theorem iL_law_383 : decode cL_law 383 = .ok (.ireturn, 1) ∧ 383 + 1 = 384 := ⟨by decide +kernel, rfl⟩
theorem iL_law_384 : decode cL_law 384 = .ok (.aload_n 1, 1) ∧ 384 + 1 = 385 := ⟨by decide +kernel, rfl⟩
theorem iL_law_385 : decode cL_law 385 = .ok (.aload_n 0, 1) ∧ 385 + 1 = 386 := ⟨by decide +kernel, rfl⟩
theorem iL_law_386 : decode cL_law 386 = .ok (.iload_n 3, 1) ∧ 386 + 1 = 387 := ⟨by decide +kernel, rfl⟩
theorem iL_law_387 : decode cL_law 387 = .ok (.iconst 1, 1) ∧ 387 + 1 = 388 := ⟨by decide +kernel, rfl⟩
theorem iL_law_388 : decode cL_law 388 = .ok (.iadd, 1) ∧ 388 + 1 = 389 := ⟨by decide +kernel, rfl⟩
theorem iL_law_389 : decode cL_law 389 = .ok (.iaload, 1) ∧ 389 + 1 = 390 := ⟨by decide +kernel, rfl⟩
theorem iL_law_390 : decode cL_law 390 = .ok (.aload_n 0, 1) ∧ 390 + 1 = 391 := ⟨by decide +kernel, rfl⟩
theorem iL_law_391 : decode cL_law 391 = .ok (.iload_n 3, 1) ∧ 391 + 1 = 392 := ⟨by decide +kernel, rfl⟩
theorem iL_law_392 : decode cL_law 392 = .ok (.iconst 2, 1) ∧ 392 + 1 = 393 := ⟨by decide +kernel, rfl⟩
theorem iL_law_393 : decode cL_law 393 = .ok (.iadd, 1) ∧ 393 + 1 = 394 := ⟨by decide +kernel, rfl⟩
theorem iL_law_394 : decode cL_law 394 = .ok (.iaload, 1) ∧ 394 + 1 = 395 := ⟨by decide +kernel, rfl⟩
theorem iL_law_395 : decode cL_law 395 = .ok (.invokevirtual 56, 3) ∧ 395 + 3 = 398 := ⟨by decide +kernel, rfl⟩
theorem iL_law_398 : decode cL_law 398 = .ok (.aload_n 2, 1) ∧ 398 + 1 = 399 := ⟨by decide +kernel, rfl⟩
theorem iL_law_399 : decode cL_law 399 = .ok (.aload_n 0, 1) ∧ 399 + 1 = 400 := ⟨by decide +kernel, rfl⟩
theorem iL_law_400 : decode cL_law 400 = .ok (.iload_n 3, 1) ∧ 400 + 1 = 401 := ⟨by decide +kernel, rfl⟩
theorem iL_law_401 : decode cL_law 401 = .ok (.iconst 1, 1) ∧ 401 + 1 = 402 := ⟨by decide +kernel, rfl⟩
theorem iL_law_402 : decode cL_law 402 = .ok (.iadd, 1) ∧ 402 + 1 = 403 := ⟨by decide +kernel, rfl⟩
theorem iL_law_403 : decode cL_law 403 = .ok (.iaload, 1) ∧ 403 + 1 = 404 := ⟨by decide +kernel, rfl⟩
theorem iL_law_404 : decode cL_law 404 = .ok (.aload_n 0, 1) ∧ 404 + 1 = 405 := ⟨by decide +kernel, rfl⟩
theorem iL_law_405 : decode cL_law 405 = .ok (.iload_n 3, 1) ∧ 405 + 1 = 406 := ⟨by decide +kernel, rfl⟩
theorem iL_law_406 : decode cL_law 406 = .ok (.iconst 2, 1) ∧ 406 + 1 = 407 := ⟨by decide +kernel, rfl⟩
theorem iL_law_407 : decode cL_law 407 = .ok (.iadd, 1) ∧ 407 + 1 = 408 := ⟨by decide +kernel, rfl⟩
theorem iL_law_408 : decode cL_law 408 = .ok (.iaload, 1) ∧ 408 + 1 = 409 := ⟨by decide +kernel, rfl⟩
theorem iL_law_409 : decode cL_law 409 = .ok (.invokevirtual 59, 3) ∧ 409 + 3 = 412 := ⟨by decide +kernel, rfl⟩
theorem iL_law_412 : decode cL_law 412 = .ok (.if_icmp .eq 401, 3) ∧ 412 + 3 = 415 := ⟨by decide +kernel, rfl⟩
theorem iL_law_415 : decode cL_law 415 = .ok (.iconst 0, 1) ∧ 415 + 1 = 416 := ⟨by decide +kernel, rfl⟩
theorem iL_law_416 : decode cL_law 416 = .ok (.ireturn, 1) ∧ 416 + 1 = 417 := ⟨by decide +kernel, rfl⟩
theorem iL_law_417 : decode cL_law 417 = .ok (.aload_n 1, 1) ∧ 417 + 1 = 418 := ⟨by decide +kernel, rfl⟩
theorem iL_law_418 : decode cL_law 418 = .ok (.aload_n 0, 1) ∧ 418 + 1 = 419 := ⟨by decide +kernel, rfl⟩
theorem iL_law_419 : decode cL_law 419 = .ok (.iload_n 3, 1) ∧ 419 + 1 = 420 := ⟨by decide +kernel, rfl⟩
theorem iL_law_420 : decode cL_law 420 = .ok (.iconst 1, 1) ∧ 420 + 1 = 421 := ⟨by decide +kernel, rfl⟩
theorem iL_law_421 : decode cL_law 421 = .ok (.iadd, 1) ∧ 421 + 1 = 422 := ⟨by decide +kernel, rfl⟩
theorem iL_law_422 : decode cL_law 422 = .ok (.iaload, 1) ∧ 422 + 1 = 423 := ⟨by decide +kernel, rfl⟩
theorem iL_law_423 : decode cL_law 423 = .ok (.aload_n 0, 1) ∧ 423 + 1 = 424 := ⟨by decide +kernel, rfl⟩
theorem iL_law_424 : decode cL_law 424 = .ok (.iload_n 3, 1) ∧ 424 + 1 = 425 := ⟨by decide +kernel, rfl⟩
theorem iL_law_425 : decode cL_law 425 = .ok (.iconst 2, 1) ∧ 425 + 1 = 426 := ⟨by decide +kernel, rfl⟩
theorem iL_law_426 : decode cL_law 426 = .ok (.iadd, 1) ∧ 426 + 1 = 427 := ⟨by decide +kernel, rfl⟩
theorem iL_law_427 : decode cL_law 427 = .ok (.iaload, 1) ∧ 427 + 1 = 428 := ⟨by decide +kernel, rfl⟩
theorem iL_law_428 : decode cL_law 428 = .ok (.invokevirtual 60, 3) ∧ 428 + 3 = 431 := ⟨by decide +kernel, rfl⟩
theorem iL_law_431 : decode cL_law 431 = .ok (.aload_n 2, 1) ∧ 431 + 1 = 432 := ⟨by decide +kernel, rfl⟩
theorem iL_law_432 : decode cL_law 432 = .ok (.aload_n 0, 1) ∧ 432 + 1 = 433 := ⟨by decide +kernel, rfl⟩
theorem iL_law_433 : decode cL_law 433 = .ok (.iload_n 3, 1) ∧ 433 + 1 = 434 := ⟨by decide +kernel, rfl⟩
theorem iL_law_434 : decode cL_law 434 = .ok (.iconst 1, 1) ∧ 434 + 1 = 435 := ⟨by decide +kernel, rfl⟩
theorem iL_law_435 : decode cL_law 435 = .ok (.iadd, 1) ∧ 435 + 1 = 436 := ⟨by decide +kernel, rfl⟩
theorem iL_law_436 : decode cL_law 436 = .ok (.iaload, 1) ∧ 436 + 1 = 437 := ⟨by decide +kernel, rfl⟩
theorem iL_law_437 : decode cL_law 437 = .ok (.aload_n 0, 1) ∧ 437 + 1 = 438 := ⟨by decide +kernel, rfl⟩
theorem iL_law_438 : decode cL_law 438 = .ok (.iload_n 3, 1) ∧ 438 + 1 = 439 := ⟨by decide +kernel, rfl⟩
theorem iL_law_439 : decode cL_law 439 = .ok (.iconst 2, 1) ∧ 439 + 1 = 440 := ⟨by decide +kernel, rfl⟩
theorem iL_law_440 : decode cL_law 440 = .ok (.iadd, 1) ∧ 440 + 1 = 441 := ⟨by decide +kernel, rfl⟩
theorem iL_law_441 : decode cL_law 441 = .ok (.iaload, 1) ∧ 441 + 1 = 442 := ⟨by decide +kernel, rfl⟩
theorem iL_law_442 : decode cL_law 442 = .ok (.invokevirtual 63, 3) ∧ 442 + 3 = 445 := ⟨by decide +kernel, rfl⟩
theorem iL_law_445 : decode cL_law 445 = .ok (.if_icmp .eq 368, 3) ∧ 445 + 3 = 448 := ⟨by decide +kernel, rfl⟩
theorem iL_law_448 : decode cL_law 448 = .ok (.iconst 0, 1) ∧ 448 + 1 = 449 := ⟨by decide +kernel, rfl⟩
theorem iL_law_449 : decode cL_law 449 = .ok (.ireturn, 1) ∧ 449 + 1 = 450 := ⟨by decide +kernel, rfl⟩
theorem iL_law_450 : decode cL_law 450 = .ok (.aload_n 1, 1) ∧ 450 + 1 = 451 := ⟨by decide +kernel, rfl⟩
theorem iL_law_451 : decode cL_law 451 = .ok (.aload_n 0, 1) ∧ 451 + 1 = 452 := ⟨by decide +kernel, rfl⟩
theorem iL_law_452 : decode cL_law 452 = .ok (.iload_n 3, 1) ∧ 452 + 1 = 453 := ⟨by decide +kernel, rfl⟩
theorem iL_law_453 : decode cL_law 453 = .ok (.iconst 1, 1) ∧ 453 + 1 = 454 := ⟨by decide +kernel, rfl⟩
theorem iL_law_454 : decode cL_law 454 = .ok (.iadd, 1) ∧ 454 + 1 = 455 := ⟨by decide +kernel, rfl⟩
theorem iL_law_455 : decode cL_law 455 = .ok (.iaload, 1) ∧ 455 + 1 = 456 := ⟨by decide +kernel, rfl⟩
theorem iL_law_456 : decode cL_law 456 = .ok (.aload_n 0, 1) ∧ 456 + 1 = 457 := ⟨by decide +kernel, rfl⟩
theorem iL_law_457 : decode cL_law 457 = .ok (.iload_n 3, 1) ∧ 457 + 1 = 458 := ⟨by decide +kernel, rfl⟩
theorem iL_law_458 : decode cL_law 458 = .ok (.iconst 2, 1) ∧ 458 + 1 = 459 := ⟨by decide +kernel, rfl⟩
theorem iL_law_459 : decode cL_law 459 = .ok (.iadd, 1) ∧ 459 + 1 = 460 := ⟨by decide +kernel, rfl⟩
theorem iL_law_460 : decode cL_law 460 = .ok (.iaload, 1) ∧ 460 + 1 = 461 := ⟨by decide +kernel, rfl⟩
theorem iL_law_461 : decode cL_law 461 = .ok (.invokevirtual 64, 3) ∧ 461 + 3 = 464 := ⟨by decide +kernel, rfl⟩
theorem iL_law_464 : decode cL_law 464 = .ok (.aload_n 2, 1) ∧ 464 + 1 = 465 := ⟨by decide +kernel, rfl⟩
theorem iL_law_465 : decode cL_law 465 = .ok (.aload_n 0, 1) ∧ 465 + 1 = 466 := ⟨by decide +kernel, rfl⟩
theorem iL_law_466 : decode cL_law 466 = .ok (.iload_n 3, 1) ∧ 466 + 1 = 467 := ⟨by decide +kernel, rfl⟩
theorem iL_law_467 : decode cL_law 467 = .ok (.iconst 1, 1) ∧ 467 + 1 = 468 := ⟨by decide +kernel, rfl⟩
theorem iL_law_468 : decode cL_law 468 = .ok (.iadd, 1) ∧ 468 + 1 = 469 := ⟨by decide +kernel, rfl⟩
theorem iL_law_469 : decode cL_law 469 = .ok (.iaload, 1) ∧ 469 + 1 = 470 := ⟨by decide +kernel, rfl⟩
theorem iL_law_470 : decode cL_law 470 = .ok (.aload_n 0, 1) ∧ 470 + 1 = 471 := ⟨by decide +kernel, rfl⟩
theorem iL_law_471 : decode cL_law 471 = .ok (.iload_n 3, 1) ∧ 471 + 1 = 472 := ⟨by decide +kernel, rfl⟩
theorem iL_law_472 : decode cL_law 472 = .ok (.iconst 2, 1) ∧ 472 + 1 = 473 := ⟨by decide +kernel, rfl⟩
theorem iL_law_473 : decode cL_law 473 = .ok (.iadd, 1) ∧ 473 + 1 = 474 := ⟨by decide +kernel, rfl⟩
theorem iL_law_474 : decode cL_law 474 = .ok (.iaload, 1) ∧ 474 + 1 = 475 := ⟨by decide +kernel, rfl⟩
theorem iL_law_475 : decode cL_law 475 = .ok (.invokevirtual 67, 3) ∧ 475 + 3 = 478 := ⟨by decide +kernel, rfl⟩
theorem iL_law_478 : decode cL_law 478 = .ok (.if_icmp .eq 335, 3) ∧ 478 + 3 = 481 := ⟨by decide +kernel, rfl⟩
theorem iL_law_481 : decode cL_law 481 = .ok (.iconst 0, 1) ∧ 481 + 1 = 482 := ⟨by decide +kernel, rfl⟩
theorem iL_law_482 : decode cL_law 482 = .ok (.ireturn, 1) ∧ 482 + 1 = 483 := ⟨by decide +kernel, rfl⟩
theorem iL_law_483 : decode cL_law 483 = .ok (.aload_n 1, 1) ∧ 483 + 1 = 484 := ⟨by decide +kernel, rfl⟩
theorem iL_law_484 : decode cL_law 484 = .ok (.aload_n 0, 1) ∧ 484 + 1 = 485 := ⟨by decide +kernel, rfl⟩
theorem iL_law_485 : decode cL_law 485 = .ok (.iload_n 3, 1) ∧ 485 + 1 = 486 := ⟨by decide +kernel, rfl⟩
theorem iL_law_486 : decode cL_law 486 = .ok (.iconst 1, 1) ∧ 486 + 1 = 487 := ⟨by decide +kernel, rfl⟩
theorem iL_law_487 : decode cL_law 487 = .ok (.iadd, 1) ∧ 487 + 1 = 488 := ⟨by decide +kernel, rfl⟩
theorem iL_law_488 : decode cL_law 488 = .ok (.iaload, 1) ∧ 488 + 1 = 489 := ⟨by decide +kernel, rfl⟩
theorem iL_law_489 : decode cL_law 489 = .ok (.aload_n 0, 1) ∧ 489 + 1 = 490 := ⟨by decide +kernel, rfl⟩
theorem iL_law_490 : decode cL_law 490 = .ok (.iload_n 3, 1) ∧ 490 + 1 = 491 := ⟨by decide +kernel, rfl⟩
theorem iL_law_491 : decode cL_law 491 = .ok (.iconst 2, 1) ∧ 491 + 1 = 492 := ⟨by decide +kernel, rfl⟩
theorem iL_law_492 : decode cL_law 492 = .ok (.iadd, 1) ∧ 492 + 1 = 493 := ⟨by decide +kernel, rfl⟩
theorem iL_law_493 : decode cL_law 493 = .ok (.iaload, 1) ∧ 493 + 1 = 494 := ⟨by decide +kernel, rfl⟩
theorem iL_law_494 : decode cL_law 494 = .ok (.invokevirtual 68, 3) ∧ 494 + 3 = 497 := ⟨by decide +kernel, rfl⟩
theorem iL_law_497 : decode cL_law 497 = .ok (.aload_n 2, 1) ∧ 497 + 1 = 498 := ⟨by decide +kernel, rfl⟩
theorem iL_law_498 : decode cL_law 498 = .ok (.aload_n 0, 1) ∧ 498 + 1 = 499 := ⟨by decide +kernel, rfl⟩
theorem iL_law_499 : decode cL_law 499 = .ok (.iload_n 3, 1) ∧ 499 + 1 = 500 := ⟨by decide +kernel, rfl⟩
theorem iL_law_500 : decode cL_law 500 = .ok (.iconst 1, 1) ∧ 500 + 1 = 501 := ⟨by decide +kernel, rfl⟩
theorem iL_law_501 : decode cL_law 501 = .ok (.iadd, 1) ∧ 501 + 1 = 502 := ⟨by decide +kernel, rfl⟩
theorem iL_law_502 : decode cL_law 502 = .ok (.iaload, 1) ∧ 502 + 1 = 503 := ⟨by decide +kernel, rfl⟩
theorem iL_law_503 : decode cL_law 503 = .ok (.aload_n 0, 1) ∧ 503 + 1 = 504 := ⟨by decide +kernel, rfl⟩
theorem iL_law_504 : decode cL_law 504 = .ok (.iload_n 3, 1) ∧ 504 + 1 = 505 := ⟨by decide +kernel, rfl⟩
theorem iL_law_505 : decode cL_law 505 = .ok (.iconst 2, 1) ∧ 505 + 1 = 506 := ⟨by decide +kernel, rfl⟩
theorem iL_law_506 : decode cL_law 506 = .ok (.iadd, 1) ∧ 506 + 1 = 507 := ⟨by decide +kernel, rfl⟩
theorem iL_law_507 : decode cL_law 507 = .ok (.iaload, 1) ∧ 507 + 1 = 508 := ⟨by decide +kernel, rfl⟩
theorem iL_law_508 : decode cL_law 508 = .ok (.invokevirtual 71, 3) ∧ 508 + 3 = 511 := ⟨by decide +kernel, rfl⟩
theorem iL_law_511 : decode cL_law 511 = .ok (.if_icmp .eq 302, 3) ∧ 511 + 3 = 514 := ⟨by decide +kernel, rfl⟩
theorem iL_law_514 : decode cL_law 514 = .ok (.iconst 0, 1) ∧ 514 + 1 = 515 := ⟨by decide +kernel, rfl⟩
theorem iL_law_515 : decode cL_law 515 = .ok (.ireturn, 1) ∧ 515 + 1 = 516 := ⟨by decide +kernel, rfl⟩
theorem iL_law_516 : decode cL_law 516 = .ok (.aload_n 1, 1) ∧ 516 + 1 = 517 := ⟨by decide +kernel, rfl⟩
theorem iL_law_517 : decode cL_law 517 = .ok (.aload_n 0, 1) ∧ 517 + 1 = 518 := ⟨by decide +kernel, rfl⟩
theorem iL_law_518 : decode cL_law 518 = .ok (.iload_n 3, 1) ∧ 518 + 1 = 519 := ⟨by decide +kernel, rfl⟩
theorem iL_law_519 : decode cL_law 519 = .ok (.iconst 1, 1) ∧ 519 + 1 = 520 := ⟨by decide +kernel, rfl⟩
theorem iL_law_520 : decode cL_law 520 = .ok (.iadd, 1) ∧ 520 + 1 = 521 := ⟨by decide +kernel, rfl⟩
theorem iL_law_521 : decode cL_law 521 = .ok (.iaload, 1) ∧ 521 + 1 = 522 := ⟨by decide +kernel, rfl⟩
theorem iL_law_522 : decode cL_law 522 = .ok (.aload_n 0, 1) ∧ 522 + 1 = 523 := ⟨by decide +kernel, rfl⟩
theorem iL_law_523 : decode cL_law 523 = .ok (.iload_n 3, 1) ∧ 523 + 1 = 524 := ⟨by decide +kernel, rfl⟩
theorem iL_law_524 : decode cL_law 524 = .ok (.iconst 2, 1) ∧ 524 + 1 = 525 := ⟨by decide +kernel, rfl⟩
theorem iL_law_525 : decode cL_law 525 = .ok (.iadd, 1) ∧ 525 + 1 = 526 := ⟨by decide +kernel, rfl⟩
theorem iL_law_526 : decode cL_law 526 = .ok (.iaload, 1) ∧ 526 + 1 = 527 := ⟨by decide +kernel, rfl⟩
theorem iL_law_527 : decode cL_law 527 = .ok (.invokevirtual 72, 3) ∧ 527 + 3 = 530 := ⟨by decide +kernel, rfl⟩
theorem iL_law_530 : decode cL_law 530 = .ok (.aload_n 2, 1) ∧ 530 + 1 = 531 := ⟨by decide +kernel, rfl⟩
theorem iL_law_531 : decode cL_law 531 = .ok (.aload_n 0, 1) ∧ 531 + 1 = 532 := ⟨by decide +kernel, rfl⟩
theorem iL_law_532 : decode cL_law 532 = .ok (.iload_n 3, 1) ∧ 532 + 1 = 533 := ⟨by decide +kernel, rfl⟩
theorem iL_law_533 : decode cL_law 533 = .ok (.iconst 1, 1) ∧ 533 + 1 = 534 := ⟨by decide +kernel, rfl⟩
theorem iL_law_534 : decode cL_law 534 = .ok (.iadd, 1) ∧ 534 + 1 = 535 := ⟨by decide +kernel, rfl⟩
theorem iL_law_535 : decode cL_law 535 = .ok (.iaload, 1) ∧ 535 + 1 = 536 := ⟨by decide +kernel, rfl⟩
theorem iL_law_536 : decode cL_law 536 = .ok (.aload_n 0, 1) ∧ 536 + 1 = 537 := ⟨by decide +kernel, rfl⟩
theorem iL_law_537 : decode cL_law 537 = .ok (.iload_n 3, 1) ∧ 537 + 1 = 538 := ⟨by decide +kernel, rfl⟩
theorem iL_law_538 : decode cL_law 538 = .ok (.iconst 2, 1) ∧ 538 + 1 = 539 := ⟨by decide +kernel, rfl⟩
theorem iL_law_539 : decode cL_law 539 = .ok (.iadd, 1) ∧ 539 + 1 = 540 := ⟨by decide +kernel, rfl⟩
theorem iL_law_540 : decode cL_law 540 = .ok (.iaload, 1) ∧ 540 + 1 = 541 := ⟨by decide +kernel, rfl⟩
theorem iL_law_541 : decode cL_law 541 = .ok (.invokevirtual 75, 3) ∧ 541 + 3 = 544 := ⟨by decide +kernel, rfl⟩
theorem iL_law_544 : decode cL_law 544 = .ok (.if_icmp .eq 269, 3) ∧ 544 + 3 = 547 := ⟨by decide +kernel, rfl⟩
theorem iL_law_547 : decode cL_law 547 = .ok (.iconst 0, 1) ∧ 547 + 1 = 548 := ⟨by decide +kernel, rfl⟩
theorem iL_law_548 : decode cL_law 548 = .ok (.ireturn, 1) ∧ 548 + 1 = 549 := ⟨by decide +kernel, rfl⟩
theorem iL_law_549 : decode cL_law 549 = .ok (.aload_n 1, 1) ∧ 549 + 1 = 550 := ⟨by decide +kernel, rfl⟩
theorem iL_law_550 : decode cL_law 550 = .ok (.aload_n 0, 1) ∧ 550 + 1 = 551 := ⟨by decide +kernel, rfl⟩
theorem iL_law_551 : decode cL_law 551 = .ok (.iload_n 3, 1) ∧ 551 + 1 = 552 := ⟨by decide +kernel, rfl⟩
theorem iL_law_552 : decode cL_law 552 = .ok (.iconst 1, 1) ∧ 552 + 1 = 553 := ⟨by decide +kernel, rfl⟩
theorem iL_law_553 : decode cL_law 553 = .ok (.iadd, 1) ∧ 553 + 1 = 554 := ⟨by decide +kernel, rfl⟩
theorem iL_law_554 : decode cL_law 554 = .ok (.iaload, 1) ∧ 554 + 1 = 555 := ⟨by decide +kernel, rfl⟩
theorem iL_law_555 : decode cL_law 555 = .ok (.aload_n 0, 1) ∧ 555 + 1 = 556 := ⟨by decide +kernel, rfl⟩
theorem iL_law_556 : decode cL_law 556 = .ok (.iload_n 3, 1) ∧ 556 + 1 = 557 := ⟨by decide +kernel, rfl⟩
theorem iL_law_557 : decode cL_law 557 = .ok (.iconst 2, 1) ∧ 557 + 1 = 558 := ⟨by decide +kernel, rfl⟩
theorem iL_law_558 : decode cL_law 558 = .ok (.iadd, 1) ∧ 558 + 1 = 559 := ⟨by decide +kernel, rfl⟩
theorem iL_law_559 : decode cL_law 559 = .ok (.iaload, 1) ∧ 559 + 1 = 560 := ⟨by decide +kernel, rfl⟩
theorem iL_law_560 : decode cL_law 560 = .ok (.invokevirtual 76, 3) ∧ 560 + 3 = 563 := ⟨by decide +kernel, rfl⟩
theorem iL_law_563 : decode cL_law 563 = .ok (.aload_n 2, 1) ∧ 563 + 1 = 564 := ⟨by decide +kernel, rfl⟩
theorem iL_law_564 : decode cL_law 564 = .ok (.aload_n 0, 1) ∧ 564 + 1 = 565 := ⟨by decide +kernel, rfl⟩
theorem iL_law_565 : decode cL_law 565 = .ok (.iload_n 3, 1) ∧ 565 + 1 = 566 := ⟨by decide +kernel, rfl⟩
theorem iL_law_566 : decode cL_law 566 = .ok (.iconst 1, 1) ∧ 566 + 1 = 567 := ⟨by decide +kernel, rfl⟩
theorem iL_law_567 : decode cL_law 567 = .ok (.iadd, 1) ∧ 567 + 1 = 568 := ⟨by decide +kernel, rfl⟩
theorem iL_law_568 : decode cL_law 568 = .ok (.iaload, 1) ∧ 568 + 1 = 569 := ⟨by decide +kernel, rfl⟩
theorem iL_law_569 : decode cL_law 569 = .ok (.aload_n 0, 1) ∧ 569 + 1 = 570 := ⟨by decide +kernel, rfl⟩
theorem iL_law_570 : decode cL_law 570 = .ok (.iload_n 3, 1) ∧ 570 + 1 = 571 := ⟨by decide +kernel, rfl⟩
theorem iL_law_571 : decode cL_law 571 = .ok (.iconst 2, 1) ∧ 571 + 1 = 572 := ⟨by decide +kernel, rfl⟩
theorem iL_law_572 : decode cL_law 572 = .ok (.iadd, 1) ∧ 572 + 1 = 573 := ⟨by decide +kernel, rfl⟩
theorem iL_law_573 : decode cL_law 573 = .ok (.iaload, 1) ∧ 573 + 1 = 574 := ⟨by decide +kernel, rfl⟩
theorem iL_law_574 : decode cL_law 574 = .ok (.invokevirtual 79, 3) ∧ 574 + 3 = 577 := ⟨by decide +kernel, rfl⟩
theorem iL_law_577 : decode cL_law 577 = .ok (.if_icmp .eq 236, 3) ∧ 577 + 3 = 580 := ⟨by decide +kernel, rfl⟩
theorem iL_law_580 : decode cL_law 580 = .ok (.iconst 0, 1) ∧ 580 + 1 = 581 := ⟨by decide +kernel, rfl⟩
theorem iL_law_581 : decode cL_law 581 = .ok (.ireturn, 1) ∧ 581 + 1 = 582 := ⟨by decide +kernel, rfl⟩
theorem iL_law_582 : decode cL_law 582 = .ok (.aload_n 1, 1) ∧ 582 + 1 = 583 := ⟨by decide +kernel, rfl⟩
theorem iL_law_583 : decode cL_law 583 = .ok (.aload_n 0, 1) ∧ 583 + 1 = 584 := ⟨by decide +kernel, rfl⟩
theorem iL_law_584 : decode cL_law 584 = .ok (.iload_n 3, 1) ∧ 584 + 1 = 585 := ⟨by decide +kernel, rfl⟩
theorem iL_law_585 : decode cL_law 585 = .ok (.iconst 1, 1) ∧ 585 + 1 = 586 := ⟨by decide +kernel, rfl⟩
theorem iL_law_586 : decode cL_law 586 = .ok (.iadd, 1) ∧ 586 + 1 = 587 := ⟨by decide +kernel, rfl⟩
theorem iL_law_587 : decode cL_law 587 = .ok (.iaload, 1) ∧ 587 + 1 = 588 := ⟨by decide +kernel, rfl⟩
theorem iL_law_588 : decode cL_law 588 = .ok (.aload_n 0, 1) ∧ 588 + 1 = 589 := ⟨by decide +kernel, rfl⟩
theorem iL_law_589 : decode cL_law 589 = .ok (.iload_n 3, 1) ∧ 589 + 1 = 590 := ⟨by decide +kernel, rfl⟩
theorem iL_law_590 : decode cL_law 590 = .ok (.iconst 2, 1) ∧ 590 + 1 = 591 := ⟨by decide +kernel, rfl⟩
theorem iL_law_591 : decode cL_law 591 = .ok (.iadd, 1) ∧ 591 + 1 = 592 := ⟨by decide +kernel, rfl⟩
theorem iL_law_592 : decode cL_law 592 = .ok (.iaload, 1) ∧ 592 + 1 = 593 := ⟨by decide +kernel, rfl⟩
theorem iL_law_593 : decode cL_law 593 = .ok (.aload_n 0, 1) ∧ 593 + 1 = 594 := ⟨by decide +kernel, rfl⟩
theorem iL_law_594 : decode cL_law 594 = .ok (.iload_n 3, 1) ∧ 594 + 1 = 595 := ⟨by decide +kernel, rfl⟩
theorem iL_law_595 : decode cL_law 595 = .ok (.iconst 3, 1) ∧ 595 + 1 = 596 := ⟨by decide +kernel, rfl⟩
theorem iL_law_596 : decode cL_law 596 = .ok (.iadd, 1) ∧ 596 + 1 = 597 := ⟨by decide +kernel, rfl⟩
theorem iL_law_597 : decode cL_law 597 = .ok (.iaload, 1) ∧ 597 + 1 = 598 := ⟨by decide +kernel, rfl⟩
theorem iL_law_598 : decode cL_law 598 = .ok (.invokevirtual 80, 3) ∧ 598 + 3 = 601 := ⟨by decide +kernel, rfl⟩
theorem iL_law_601 : decode cL_law 601 = .ok (.aload_n 2, 1) ∧ 601 + 1 = 602 := ⟨by decide +kernel, rfl⟩
theorem iL_law_602 : decode cL_law 602 = .ok (.aload_n 0, 1) ∧ 602 + 1 = 603 := ⟨by decide +kernel, rfl⟩
theorem iL_law_603 : decode cL_law 603 = .ok (.iload_n 3, 1) ∧ 603 + 1 = 604 := ⟨by decide +kernel, rfl⟩
theorem iL_law_604 : decode cL_law 604 = .ok (.iconst 1, 1) ∧ 604 + 1 = 605 := ⟨by decide +kernel, rfl⟩
theorem iL_law_605 : decode cL_law 605 = .ok (.iadd, 1) ∧ 605 + 1 = 606 := ⟨by decide +kernel, rfl⟩
theorem iL_law_606 : decode cL_law 606 = .ok (.iaload, 1) ∧ 606 + 1 = 607 := ⟨by decide +kernel, rfl⟩
theorem iL_law_607 : decode cL_law 607 = .ok (.aload_n 0, 1) ∧ 607 + 1 = 608 := ⟨by decide +kernel, rfl⟩
theorem iL_law_608 : decode cL_law 608 = .ok (.iload_n 3, 1) ∧ 608 + 1 = 609 := ⟨by decide +kernel, rfl⟩
theorem iL_law_609 : decode cL_law 609 = .ok (.iconst 2, 1) ∧ 609 + 1 = 610 := ⟨by decide +kernel, rfl⟩
theorem iL_law_610 : decode cL_law 610 = .ok (.iadd, 1) ∧ 610 + 1 = 611 := ⟨by decide +kernel, rfl⟩
theorem iL_law_611 : decode cL_law 611 = .ok (.iaload, 1) ∧ 611 + 1 = 612 := ⟨by decide +kernel, rfl⟩
theorem iL_law_612 : decode cL_law 612 = .ok (.aload_n 0, 1) ∧ 612 + 1 = 613 := ⟨by decide +kernel, rfl⟩
theorem iL_law_613 : decode cL_law 613 = .ok (.iload_n 3, 1) ∧ 613 + 1 = 614 := ⟨by decide +kernel, rfl⟩
theorem iL_law_614 : decode cL_law 614 = .ok (.iconst 3, 1) ∧ 614 + 1 = 615 := ⟨by decide +kernel, rfl⟩
theorem iL_law_615 : decode cL_law 615 = .ok (.iadd, 1) ∧ 615 + 1 = 616 := ⟨by decide +kernel, rfl⟩
theorem iL_law_616 : decode cL_law 616 = .ok (.iaload, 1) ∧ 616 + 1 = 617 := ⟨by decide +kernel, rfl⟩
theorem iL_law_617 : decode cL_law 617 = .ok (.invokevirtual 84, 3) ∧ 617 + 3 = 620 := ⟨by decide +kernel, rfl⟩
theorem iL_law_620 : decode cL_law 620 = .ok (.if_icmp .eq 193, 3) ∧ 620 + 3 = 623 := ⟨by decide +kernel, rfl⟩
theorem iL_law_623 : decode cL_law 623 = .ok (.iconst 0, 1) ∧ 623 + 1 = 624 := ⟨by decide +kernel, rfl⟩
theorem iL_law_624 : decode cL_law 624 = .ok (.ireturn, 1) ∧ 624 + 1 = 625 := ⟨by decide +kernel, rfl⟩
theorem iL_law_625 : decode cL_law 625 = .ok (.aload_n 1, 1) ∧ 625 + 1 = 626 := ⟨by decide +kernel, rfl⟩
theorem iL_law_626 : decode cL_law 626 = .ok (.aload_n 0, 1) ∧ 626 + 1 = 627 := ⟨by decide +kernel, rfl⟩
theorem iL_law_627 : decode cL_law 627 = .ok (.iload_n 3, 1) ∧ 627 + 1 = 628 := ⟨by decide +kernel, rfl⟩
theorem iL_law_628 : decode cL_law 628 = .ok (.iconst 1, 1) ∧ 628 + 1 = 629 := ⟨by decide +kernel, rfl⟩
theorem iL_law_629 : decode cL_law 629 = .ok (.iadd, 1) ∧ 629 + 1 = 630 := ⟨by decide +kernel, rfl⟩
theorem iL_law_630 : decode cL_law 630 = .ok (.iaload, 1) ∧ 630 + 1 = 631 := ⟨by decide +kernel, rfl⟩
theorem iL_law_631 : decode cL_law 631 = .ok (.aload_n 0, 1) ∧ 631 + 1 = 632 := ⟨by decide +kernel, rfl⟩
theorem iL_law_632 : decode cL_law 632 = .ok (.iload_n 3, 1) ∧ 632 + 1 = 633 := ⟨by decide +kernel, rfl⟩
theorem iL_law_633 : decode cL_law 633 = .ok (.iconst 2, 1) ∧ 633 + 1 = 634 := ⟨by decide +kernel, rfl⟩
theorem iL_law_634 : decode cL_law 634 = .ok (.iadd, 1) ∧ 634 + 1 = 635 := ⟨by decide +kernel, rfl⟩
theorem iL_law_635 : decode cL_law 635 = .ok (.iaload, 1) ∧ 635 + 1 = 636 := ⟨by decide +kernel, rfl⟩
theorem iL_law_636 : decode cL_law 636 = .ok (.aload_n 0, 1) ∧ 636 + 1 = 637 := ⟨by decide +kernel, rfl⟩
theorem iL_law_637 : decode cL_law 637 = .ok (.iload_n 3, 1) ∧ 637 + 1 = 638 := ⟨by decide +kernel, rfl⟩
theorem iL_law_638 : decode cL_law 638 = .ok (.iconst 3, 1) ∧ 638 + 1 = 639 := ⟨by decide +kernel, rfl⟩
theorem iL_law_639 : decode cL_law 639 = .ok (.iadd, 1) ∧ 639 + 1 = 640 := ⟨by decide +kernel, rfl⟩
theorem iL_law_640 : decode cL_law 640 = .ok (.iaload, 1) ∧ 640 + 1 = 641 := ⟨by decide +kernel, rfl⟩
theorem iL_law_641 : decode cL_law 641 = .ok (.aload_n 0, 1) ∧ 641 + 1 = 642 := ⟨by decide +kernel, rfl⟩
theorem iL_law_642 : decode cL_law 642 = .ok (.iload_n 3, 1) ∧ 642 + 1 = 643 := ⟨by decide +kernel, rfl⟩
theorem iL_law_643 : decode cL_law 643 = .ok (.iconst 4, 1) ∧ 643 + 1 = 644 := ⟨by decide +kernel, rfl⟩
theorem iL_law_644 : decode cL_law 644 = .ok (.iadd, 1) ∧ 644 + 1 = 645 := ⟨by decide +kernel, rfl⟩
theorem iL_law_645 : decode cL_law 645 = .ok (.iaload, 1) ∧ 645 + 1 = 646 := ⟨by decide +kernel, rfl⟩
theorem iL_law_646 : decode cL_law 646 = .ok (.ifCond .eq 7, 3) ∧ 646 + 3 = 649 := ⟨by decide +kernel, rfl⟩
theorem iL_law_649 : decode cL_law 649 = .ok (.iconst 1, 1) ∧ 649 + 1 = 650 := ⟨by decide +kernel, rfl⟩
theorem iL_law_650 : decode cL_law 650 = .ok (.goto 4, 3) ∧ 650 + 3 = 653 := ⟨by decide +kernel, rfl⟩
theorem iL_law_653 : decode cL_law 653 = .ok (.iconst 0, 1) ∧ 653 + 1 = 654 := ⟨by decide +kernel, rfl⟩
theorem iL_law_654 : decode cL_law 654 = .ok (.invokevirtual 85, 3) ∧ 654 + 3 = 657 := ⟨by decide +kernel, rfl⟩
theorem iL_law_657 : decode cL_law 657 = .ok (.aload_n 2, 1) ∧ 657 + 1 = 658 := ⟨by decide +kernel, rfl⟩
theorem iL_law_658 : decode cL_law 658 = .ok (.aload_n 0, 1) ∧ 658 + 1 = 659 := ⟨by decide +kernel, rfl⟩
theorem iL_law_659 : decode cL_law 659 = .ok (.iload_n 3, 1) ∧ 659 + 1 = 660 := ⟨by decide +kernel, rfl⟩
theorem iL_law_660 : decode cL_law 660 = .ok (.iconst 1, 1) ∧ 660 + 1 = 661 := ⟨by decide +kernel, rfl⟩
theorem iL_law_661 : decode cL_law 661 = .ok (.iadd, 1) ∧ 661 + 1 = 662 := ⟨by decide +kernel, rfl⟩
theorem iL_law_662 : decode cL_law 662 = .ok (.iaload, 1) ∧ 662 + 1 = 663 := ⟨by decide +kernel, rfl⟩
theorem iL_law_663 : decode cL_law 663 = .ok (.aload_n 0, 1) ∧ 663 + 1 = 664 := ⟨by decide +kernel, rfl⟩
theorem iL_law_664 : decode cL_law 664 = .ok (.iload_n 3, 1) ∧ 664 + 1 = 665 := ⟨by decide +kernel, rfl⟩
theorem iL_law_665 : decode cL_law 665 = .ok (.iconst 2, 1) ∧ 665 + 1 = 666 := ⟨by decide +kernel, rfl⟩
theorem iL_law_666 : decode cL_law 666 = .ok (.iadd, 1) ∧ 666 + 1 = 667 := ⟨by decide +kernel, rfl⟩
theorem iL_law_667 : decode cL_law 667 = .ok (.iaload, 1) ∧ 667 + 1 = 668 := ⟨by decide +kernel, rfl⟩
theorem iL_law_668 : decode cL_law 668 = .ok (.aload_n 0, 1) ∧ 668 + 1 = 669 := ⟨by decide +kernel, rfl⟩
theorem iL_law_669 : decode cL_law 669 = .ok (.iload_n 3, 1) ∧ 669 + 1 = 670 := ⟨by decide +kernel, rfl⟩
theorem iL_law_670 : decode cL_law 670 = .ok (.iconst 3, 1) ∧ 670 + 1 = 671 := ⟨by decide +kernel, rfl⟩
theorem iL_law_671 : decode cL_law 671 = .ok (.iadd, 1) ∧ 671 + 1 = 672 := ⟨by decide +kernel, rfl⟩
theorem iL_law_672 : decode cL_law 672 = .ok (.iaload, 1) ∧ 672 + 1 = 673 := ⟨by decide +kernel, rfl⟩
theorem iL_law_673 : decode cL_law 673 = .ok (.aload_n 0, 1) ∧ 673 + 1 = 674 := ⟨by decide +kernel, rfl⟩
theorem iL_law_674 : decode cL_law 674 = .ok (.iload_n 3, 1) ∧ 674 + 1 = 675 := ⟨by decide +kernel, rfl⟩
theorem iL_law_675 : decode cL_law 675 = .ok (.iconst 4, 1) ∧ 675 + 1 = 676 := ⟨by decide +kernel, rfl⟩
theorem iL_law_676 : decode cL_law 676 = .ok (.iadd, 1) ∧ 676 + 1 = 677 := ⟨by decide +kernel, rfl⟩
theorem iL_law_677 : decode cL_law 677 = .ok (.iaload, 1) ∧ 677 + 1 = 678 := ⟨by decide +kernel, rfl⟩
theorem iL_law_678 : decode cL_law 678 = .ok (.ifCond .eq 7, 3) ∧ 678 + 3 = 681 := ⟨by decide +kernel, rfl⟩
theorem iL_law_681 : decode cL_law 681 = .ok (.iconst 1, 1) ∧ 681 + 1 = 682 := ⟨by decide +kernel, rfl⟩
theorem iL_law_682 : decode cL_law 682 = .ok (.goto 4, 3) ∧ 682 + 3 = 685 := ⟨by decide +kernel, rfl⟩
theorem iL_law_685 : decode cL_law 685 = .ok (.iconst 0, 1) ∧ 685 + 1 = 686 := ⟨by decide +kernel, rfl⟩
theorem iL_law_686 : decode cL_law 686 = .ok (.invokevirtual 89, 3) ∧ 686 + 3 = 689 := ⟨by decide +kernel, rfl⟩
theorem iL_law_689 : decode cL_law 689 = .ok (.if_icmp .eq 124, 3) ∧ 689 + 3 = 692 := ⟨by decide +kernel, rfl⟩
theorem iL_law_692 : decode cL_law 692 = .ok (.iconst 0, 1) ∧ 692 + 1 = 693 := ⟨by decide +kernel, rfl⟩
theorem iL_law_693 : decode cL_law 693 = .ok (.ireturn, 1) ∧ 693 + 1 = 694 := ⟨by decide +kernel, rfl⟩
theorem iL_law_694 : decode cL_law 694 = .ok (.aload_n 1, 1) ∧ 694 + 1 = 695 := ⟨by decide +kernel, rfl⟩
theorem iL_law_695 : decode cL_law 695 = .ok (.invokevirtual 90, 3) ∧ 695 + 3 = 698 := ⟨by decide +kernel, rfl⟩
theorem iL_law_698 : decode cL_law 698 = .ok (.aload_n 2, 1) ∧ 698 + 1 = 699 := ⟨by decide +kernel, rfl⟩
theorem iL_law_699 : decode cL_law 699 = .ok (.invokevirtual 93, 3) ∧ 699 + 3 = 702 := ⟨by decide +kernel, rfl⟩
theorem iL_law_702 : decode cL_law 702 = .ok (.if_icmp .eq 111, 3) ∧ 702 + 3 = 705 := ⟨by decide +kernel, rfl⟩
theorem iL_law_705 : decode cL_law 705 = .ok (.iconst 0, 1) ∧ 705 + 1 = 706 := ⟨by decide +kernel, rfl⟩
theorem iL_law_706 : decode cL_law 706 = .ok (.ireturn, 1) ∧ 706 + 1 = 707 := ⟨by decide +kernel, rfl⟩
theorem iL_law_707 : decode cL_law 707 = .ok (.aload_n 1, 1) ∧ 707 + 1 = 708 := ⟨by decide +kernel, rfl⟩
theorem iL_law_708 : decode cL_law 708 = .ok (.aload_n 0, 1) ∧ 708 + 1 = 709 := ⟨by decide +kernel, rfl⟩
theorem iL_law_709 : decode cL_law 709 = .ok (.iload_n 3, 1) ∧ 709 + 1 = 710 := ⟨by decide +kernel, rfl⟩
theorem iL_law_710 : decode cL_law 710 = .ok (.iconst 1, 1) ∧ 710 + 1 = 711 := ⟨by decide +kernel, rfl⟩
theorem iL_law_711 : decode cL_law 711 = .ok (.iadd, 1) ∧ 711 + 1 = 712 := ⟨by decide +kernel, rfl⟩
theorem iL_law_712 : decode cL_law 712 = .ok (.iaload, 1) ∧ 712 + 1 = 713 := ⟨by decide +kernel, rfl⟩
theorem iL_law_713 : decode cL_law 713 = .ok (.aload_n 0, 1) ∧ 713 + 1 = 714 := ⟨by decide +kernel, rfl⟩
theorem iL_law_714 : decode cL_law 714 = .ok (.iload_n 3, 1) ∧ 714 + 1 = 715 := ⟨by decide +kernel, rfl⟩
theorem iL_law_715 : decode cL_law 715 = .ok (.iconst 2, 1) ∧ 715 + 1 = 716 := ⟨by decide +kernel, rfl⟩
theorem iL_law_716 : decode cL_law 716 = .ok (.iadd, 1) ∧ 716 + 1 = 717 := ⟨by decide +kernel, rfl⟩
theorem iL_law_717 : decode cL_law 717 = .ok (.iaload, 1) ∧ 717 + 1 = 718 := ⟨by decide +kernel, rfl⟩
theorem iL_law_718 : decode cL_law 718 = .ok (.aload_n 0, 1) ∧ 718 + 1 = 719 := ⟨by decide +kernel, rfl⟩
theorem iL_law_719 : decode cL_law 719 = .ok (.iload_n 3, 1) ∧ 719 + 1 = 720 := ⟨by decide +kernel, rfl⟩
theorem iL_law_720 : decode cL_law 720 = .ok (.iconst 3, 1) ∧ 720 + 1 = 721 := ⟨by decide +kernel, rfl⟩
theorem iL_law_721 : decode cL_law 721 = .ok (.iadd, 1) ∧ 721 + 1 = 722 := ⟨by decide +kernel, rfl⟩
theorem iL_law_722 : decode cL_law 722 = .ok (.iaload, 1) ∧ 722 + 1 = 723 := ⟨by decide +kernel, rfl⟩
theorem iL_law_723 : decode cL_law 723 = .ok (.invokevirtual 94, 3) ∧ 723 + 3 = 726 := ⟨by decide +kernel, rfl⟩
theorem iL_law_726 : decode cL_law 726 = .ok (.aload_n 2, 1) ∧ 726 + 1 = 727 := ⟨by decide +kernel, rfl⟩
theorem iL_law_727 : decode cL_law 727 = .ok (.aload_n 0, 1) ∧ 727 + 1 = 728 := ⟨by decide +kernel, rfl⟩
theorem iL_law_728 : decode cL_law 728 = .ok (.iload_n 3, 1) ∧ 728 + 1 = 729 := ⟨by decide +kernel, rfl⟩
theorem iL_law_729 : decode cL_law 729 = .ok (.iconst 1, 1) ∧ 729 + 1 = 730 := ⟨by decide +kernel, rfl⟩
theorem iL_law_730 : decode cL_law 730 = .ok (.iadd, 1) ∧ 730 + 1 = 731 := ⟨by decide +kernel, rfl⟩
theorem iL_law_731 : decode cL_law 731 = .ok (.iaload, 1) ∧ 731 + 1 = 732 := ⟨by decide +kernel, rfl⟩
theorem iL_law_732 : decode cL_law 732 = .ok (.aload_n 0, 1) ∧ 732 + 1 = 733 := ⟨by decide +kernel, rfl⟩
theorem iL_law_733 : decode cL_law 733 = .ok (.iload_n 3, 1) ∧ 733 + 1 = 734 := ⟨by decide +kernel, rfl⟩
theorem iL_law_734 : decode cL_law 734 = .ok (.iconst 2, 1) ∧ 734 + 1 = 735 := ⟨by decide +kernel, rfl⟩
theorem iL_law_735 : decode cL_law 735 = .ok (.iadd, 1) ∧ 735 + 1 = 736 := ⟨by decide +kernel, rfl⟩
theorem iL_law_736 : decode cL_law 736 = .ok (.iaload, 1) ∧ 736 + 1 = 737 := ⟨by decide +kernel, rfl⟩
theorem iL_law_737 : decode cL_law 737 = .ok (.aload_n 0, 1) ∧ 737 + 1 = 738 := ⟨by decide +kernel, rfl⟩
theorem iL_law_738 : decode cL_law 738 = .ok (.iload_n 3, 1) ∧ 738 + 1 = 739 := ⟨by decide +kernel, rfl⟩
theorem iL_law_739 : decode cL_law 739 = .ok (.iconst 3, 1) ∧ 739 + 1 = 740 := ⟨by decide +kernel, rfl⟩
theorem iL_law_740 : decode cL_law 740 = .ok (.iadd, 1) ∧ 740 + 1 = 741 := ⟨by decide +kernel, rfl⟩
theorem iL_law_741 : decode cL_law 741 = .ok (.iaload, 1) ∧ 741 + 1 = 742 := ⟨by decide +kernel, rfl⟩
theorem iL_law_742 : decode cL_law 742 = .ok (.invokevirtual 97, 3) ∧ 742 + 3 = 745 := ⟨by decide +kernel, rfl⟩
theorem iL_law_745 : decode cL_law 745 = .ok (.if_icmp .eq 68, 3) ∧ 745 + 3 = 748 := ⟨by decide +kernel, rfl⟩
theorem iL_law_748 : decode cL_law 748 = .ok (.iconst 0, 1) ∧ 748 + 1 = 749 := ⟨by decide +kernel, rfl⟩
theorem iL_law_749 : decode cL_law 749 = .ok (.ireturn, 1) ∧ 749 + 1 = 750 := ⟨by decide +kernel, rfl⟩
theorem iL_law_750 : decode cL_law 750 = .ok (.aload_n 1, 1) ∧ 750 + 1 = 751 := ⟨by decide +kernel, rfl⟩
theorem iL_law_751 : decode cL_law 751 = .ok (.invokevirtual 98, 3) ∧ 751 + 3 = 754 := ⟨by decide +kernel, rfl⟩
theorem iL_law_754 : decode cL_law 754 = .ok (.aload_n 2, 1) ∧ 754 + 1 = 755 := ⟨by decide +kernel, rfl⟩
theorem iL_law_755 : decode cL_law 755 = .ok (.invokevirtual 101, 3) ∧ 755 + 3 = 758 := ⟨by decide +kernel, rfl⟩
theorem iL_law_758 : decode cL_law 758 = .ok (.if_icmp .eq 55, 3) ∧ 758 + 3 = 761 := ⟨by decide +kernel, rfl⟩
theorem iL_law_761 : decode cL_law 761 = .ok (.iconst 0, 1) ∧ 761 + 1 = 762 := ⟨by decide +kernel, rfl⟩
theorem iL_law_762 : decode cL_law 762 = .ok (.ireturn, 1) ∧ 762 + 1 = 763 := ⟨by decide +kernel, rfl⟩
theorem iL_law_763 : decode cL_law 763 = .ok (.aload_n 1, 1) ∧ 763 + 1 = 764 := ⟨by decide +kernel, rfl⟩
theorem iL_law_764 : decode cL_law 764 = .ok (.invokevirtual 102, 3) ∧ 764 + 3 = 767 := ⟨by decide +kernel, rfl⟩
theorem iL_law_767 : decode cL_law 767 = .ok (.aload_n 2, 1) ∧ 767 + 1 = 768 := ⟨by decide +kernel, rfl⟩
theorem iL_law_768 : decode cL_law 768 = .ok (.invokevirtual 105, 3) ∧ 768 + 3 = 771 := ⟨by decide +kernel, rfl⟩
theorem iL_law_771 : decode cL_law 771 = .ok (.if_icmp .eq 42, 3) ∧ 771 + 3 = 774 := ⟨by decide +kernel, rfl⟩
theorem iL_law_774 : decode cL_law 774 = .ok (.iconst 0, 1) ∧ 774 + 1 = 775 := ⟨by decide +kernel, rfl⟩
theorem iL_law_775 : decode cL_law 775 = .ok (.ireturn, 1) ∧ 775 + 1 = 776 := ⟨by decide +kernel, rfl⟩
theorem iL_law_776 : decode cL_law 776 = .ok (.aload_n 1, 1) ∧ 776 + 1 = 777 := ⟨by decide +kernel, rfl⟩
theorem iL_law_777 : decode cL_law 777 = .ok (.aload_n 0, 1) ∧ 777 + 1 = 778 := ⟨by decide +kernel, rfl⟩
theorem iL_law_778 : decode cL_law 778 = .ok (.iload_n 3, 1) ∧ 778 + 1 = 779 := ⟨by decide +kernel, rfl⟩
theorem iL_law_779 : decode cL_law 779 = .ok (.iconst 1, 1) ∧ 779 + 1 = 780 := ⟨by decide +kernel, rfl⟩
theorem iL_law_780 : decode cL_law 780 = .ok (.iadd, 1) ∧ 780 + 1 = 781 := ⟨by decide +kernel, rfl⟩
theorem iL_law_781 : decode cL_law 781 = .ok (.iaload, 1) ∧ 781 + 1 = 782 := ⟨by decide +kernel, rfl⟩
theorem iL_law_782 : decode cL_law 782 = .ok (.invokevirtual 106, 3) ∧ 782 + 3 = 785 := ⟨by decide +kernel, rfl⟩
theorem iL_law_785 : decode cL_law 785 = .ok (.aload_n 2, 1) ∧ 785 + 1 = 786 := ⟨by decide +kernel, rfl⟩
theorem iL_law_786 : decode cL_law 786 = .ok (.aload_n 0, 1) ∧ 786 + 1 = 787 := ⟨by decide +kernel, rfl⟩
theorem iL_law_787 : decode cL_law 787 = .ok (.iload_n 3, 1) ∧ 787 + 1 = 788 := ⟨by decide +kernel, rfl⟩
theorem iL_law_788 : decode cL_law 788 = .ok (.iconst 1, 1) ∧ 788 + 1 = 789 := ⟨by decide +kernel, rfl⟩
theorem iL_law_789 : decode cL_law 789 = .ok (.iadd, 1) ∧ 789 + 1 = 790 := ⟨by decide +kernel, rfl⟩
theorem iL_law_790 : decode cL_law 790 = .ok (.iaload, 1) ∧ 790 + 1 = 791 := ⟨by decide +kernel, rfl⟩
theorem iL_law_791 : decode cL_law 791 = .ok (.invokevirtual 109, 3) ∧ 791 + 3 = 794 := ⟨by decide +kernel, rfl⟩
theorem iL_law_794 : decode cL_law 794 = .ok (.if_icmp .eq 19, 3) ∧ 794 + 3 = 797 := ⟨by decide +kernel, rfl⟩
theorem iL_law_797 : decode cL_law 797 = .ok (.iconst 0, 1) ∧ 797 + 1 = 798 := ⟨by decide +kernel, rfl⟩
theorem iL_law_798 : decode cL_law 798 = .ok (.ireturn, 1) ∧ 798 + 1 = 799 := ⟨by decide +kernel, rfl⟩
theorem iL_law_799 : decode cL_law 799 = .ok (.aload_n 1, 1) ∧ 799 + 1 = 800 := ⟨by decide +kernel, rfl⟩
theorem iL_law_800 : decode cL_law 800 = .ok (.invokevirtual 110, 3) ∧ 800 + 3 = 803 := ⟨by decide +kernel, rfl⟩
theorem iL_law_803 : decode cL_law 803 = .ok (.aload_n 2, 1) ∧ 803 + 1 = 804 := ⟨by decide +kernel, rfl⟩
theorem iL_law_804 : decode cL_law 804 = .ok (.invokevirtual 114, 3) ∧ 804 + 3 = 807 := ⟨by decide +kernel, rfl⟩
theorem iL_law_807 : decode cL_law 807 = .ok (.lcmp, 1) ∧ 807 + 1 = 808 := ⟨by decide +kernel, rfl⟩
theorem iL_law_808 : decode cL_law 808 = .ok (.ifCond .eq 5, 3) ∧ 808 + 3 = 811 := ⟨by decide +kernel, rfl⟩
theorem iL_law_811 : decode cL_law 811 = .ok (.iconst 0, 1) ∧ 811 + 1 = 812 := ⟨by decide +kernel, rfl⟩
theorem iL_law_812 : decode cL_law 812 = .ok (.ireturn, 1) ∧ 812 + 1 = 813 := ⟨by decide +kernel, rfl⟩
theorem iL_law_813 : decode cL_law 813 = .ok (.iinc 3 5, 3) ∧ 813 + 3 = 816 := ⟨by decide +kernel, rfl⟩
theorem iL_law_816 : decode cL_law 816 = .ok (.goto (-798), 3) ∧ 816 + 3 = 819 := ⟨by decide +kernel, rfl⟩
theorem iL_law_819 : decode cL_law 819 = .ok (.iconst 1, 1) ∧ 819 + 1 = 820 := ⟨by decide +kernel, rfl⟩
theorem iL_law_820 : decode cL_law 820 = .ok (.ireturn, 1) ∧ 820 + 1 = 821 := ⟨by decide +kernel, rfl⟩
abbrev mL_law : MI := (yL_law, cL_law, 4, ret, 1)
theorem lk_L_9 : Cond.methodLink RL 9 mX5_init.1 ∈ UW := uw 79 (by decide +kernel) (by decide +kernel)
theorem lk_L_13 : Cond.methodLink RL 13 mX5_letter.1 ∈ UW := uw 228 (by decide +kernel) (by decide +kernel)
theorem lk_L_18 : Cond.methodLink RL 18 mX5_blank.1 ∈ UW := uw 248 (by decide +kernel) (by decide +kernel)
theorem lk_L_23 : Cond.methodLink RL 23 mX5_fault.1 ∈ UW := uw 256 (by decide +kernel) (by decide +kernel)
theorem lk_L_27 : Cond.methodLink RL 27 mX5_board.1 ∈ UW := uw 371 (by decide +kernel) (by decide +kernel)
theorem lk_L_31 : Cond.methodLink RL 31 mX5_leaper.1 ∈ UW := uw 411 (by decide +kernel) (by decide +kernel)
theorem lk_L_36 : Cond.methodLink RL 36 mX5_as.1 ∈ UW := uw 505 (by decide +kernel) (by decide +kernel)
theorem lk_L_40 : Cond.methodLink RL 40 mX5_cell.1 ∈ UW := uw 510 (by decide +kernel) (by decide +kernel)
theorem lk_L_44 : Cond.methodLink RL 44 mX5_leap.1 ∈ UW := uw 526 (by decide +kernel) (by decide +kernel)
theorem lk_L_48 : Cond.methodLink RL 48 mX5_dig.1 ∈ UW := uw 530 (by decide +kernel) (by decide +kernel)
theorem lk_L_52 : Cond.methodLink RL 52 mX5_fill.1 ∈ UW := uw 534 (by decide +kernel) (by decide +kernel)
theorem lk_L_56 : Cond.methodLink RL 56 mX5_be.1 ∈ UW := uw 538 (by decide +kernel) (by decide +kernel)
theorem lk_L_60 : Cond.methodLink RL 60 mX5_hops.1 ∈ UW := uw 542 (by decide +kernel) (by decide +kernel)
theorem lk_L_64 : Cond.methodLink RL 64 mX5_trade.1 ∈ UW := uw 550 (by decide +kernel) (by decide +kernel)
theorem lk_L_68 : Cond.methodLink RL 68 mX5_peace.1 ∈ UW := uw 562 (by decide +kernel) (by decide +kernel)
theorem lk_L_72 : Cond.methodLink RL 72 mX5_guard.1 ∈ UW := uw 582 (by decide +kernel) (by decide +kernel)
theorem lk_L_76 : Cond.methodLink RL 76 mX5_parts.1 ∈ UW := uw 591 (by decide +kernel) (by decide +kernel)
theorem lk_L_80 : Cond.methodLink RL 80 mX5_chance.1 ∈ UW := uw 602 (by decide +kernel) (by decide +kernel)
theorem lk_L_85 : Cond.methodLink RL 85 mX5_see.1 ∈ UW := uw 619 (by decide +kernel) (by decide +kernel)
theorem lk_L_90 : Cond.methodLink RL 90 mX5_forget.1 ∈ UW := uw 627 (by decide +kernel) (by decide +kernel)
theorem lk_L_94 : Cond.methodLink RL 94 mX5_walks.1 ∈ UW := uw 631 (by decide +kernel) (by decide +kernel)
theorem lk_L_98 : Cond.methodLink RL 98 mX5_image.1 ∈ UW := uw 655 (by decide +kernel) (by decide +kernel)
theorem lk_L_102 : Cond.methodLink RL 102 mX5_restore.1 ∈ UW := uw 659 (by decide +kernel) (by decide +kernel)
theorem lk_L_106 : Cond.methodLink RL 106 mX5_count.1 ∈ UW := uw 663 (by decide +kernel) (by decide +kernel)
theorem lk_L_110 : Cond.methodLink RL 110 mX5_digest.1 ∈ UW := uw 667 (by decide +kernel) (by decide +kernel)
theorem lk_L_12 : Cond.methodLink RL 12 mX6_init.1 ∈ UW := uw 700 (by decide +kernel) (by decide +kernel)
theorem lk_L_17 : Cond.methodLink RL 17 mX6_letter.1 ∈ UW := uw 822 (by decide +kernel) (by decide +kernel)
theorem lk_L_22 : Cond.methodLink RL 22 mX6_blank.1 ∈ UW := uw 829 (by decide +kernel) (by decide +kernel)
theorem lk_L_26 : Cond.methodLink RL 26 mX6_fault.1 ∈ UW := uw 833 (by decide +kernel) (by decide +kernel)
theorem lk_L_30 : Cond.methodLink RL 30 mX6_board.1 ∈ UW := uw 859 (by decide +kernel) (by decide +kernel)
theorem lk_L_35 : Cond.methodLink RL 35 mX6_leaper.1 ∈ UW := uw 867 (by decide +kernel) (by decide +kernel)
theorem lk_L_39 : Cond.methodLink RL 39 mX6_as.1 ∈ UW := uw 932 (by decide +kernel) (by decide +kernel)
theorem lk_L_43 : Cond.methodLink RL 43 mX6_cell.1 ∈ UW := uw 936 (by decide +kernel) (by decide +kernel)
theorem lk_L_47 : Cond.methodLink RL 47 mX6_leap.1 ∈ UW := uw 956 (by decide +kernel) (by decide +kernel)
theorem lk_L_51 : Cond.methodLink RL 51 mX6_dig.1 ∈ UW := uw 960 (by decide +kernel) (by decide +kernel)
theorem lk_L_55 : Cond.methodLink RL 55 mX6_fill.1 ∈ UW := uw 964 (by decide +kernel) (by decide +kernel)
theorem lk_L_59 : Cond.methodLink RL 59 mX6_be.1 ∈ UW := uw 968 (by decide +kernel) (by decide +kernel)
theorem lk_L_63 : Cond.methodLink RL 63 mX6_hops.1 ∈ UW := uw 972 (by decide +kernel) (by decide +kernel)
theorem lk_L_67 : Cond.methodLink RL 67 mX6_trade.1 ∈ UW := uw 984 (by decide +kernel) (by decide +kernel)
theorem lk_L_71 : Cond.methodLink RL 71 mX6_peace.1 ∈ UW := uw 1000 (by decide +kernel) (by decide +kernel)
theorem lk_L_75 : Cond.methodLink RL 75 mX6_guard.1 ∈ UW := uw 1019 (by decide +kernel) (by decide +kernel)
theorem lk_L_79 : Cond.methodLink RL 79 mX6_parts.1 ∈ UW := uw 1031 (by decide +kernel) (by decide +kernel)
theorem lk_L_84 : Cond.methodLink RL 84 mX6_chance.1 ∈ UW := uw 1051 (by decide +kernel) (by decide +kernel)
theorem lk_L_89 : Cond.methodLink RL 89 mX6_see.1 ∈ UW := uw 1064 (by decide +kernel) (by decide +kernel)
theorem lk_L_93 : Cond.methodLink RL 93 mX6_forget.1 ∈ UW := uw 1068 (by decide +kernel) (by decide +kernel)
theorem lk_L_97 : Cond.methodLink RL 97 mX6_walks.1 ∈ UW := uw 1072 (by decide +kernel) (by decide +kernel)
theorem lk_L_101 : Cond.methodLink RL 101 mX6_image.1 ∈ UW := uw 1095 (by decide +kernel) (by decide +kernel)
theorem lk_L_105 : Cond.methodLink RL 105 mX6_restore.1 ∈ UW := uw 1099 (by decide +kernel) (by decide +kernel)
theorem lk_L_109 : Cond.methodLink RL 109 mX6_count.1 ∈ UW := uw 1103 (by decide +kernel) (by decide +kernel)
theorem lk_L_114 : Cond.methodLink RL 114 mX6_digest.1 ∈ UW := uw 1111 (by decide +kernel) (by decide +kernel)
