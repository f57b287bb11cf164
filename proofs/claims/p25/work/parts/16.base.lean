/-! THE CLAIM OUT OF ONE WALK OF THE LAW'S BODY. Your part is whole_start (and what it stands on); all else here is the same for every law, but numbers. -/
def R_law : String := "SpellTurnerLaw"
def lw_P (b : Addr) (xs : List Int32) (args : Array Value) (s : State) : Prop := args = #[.ref b] ∧ s.IntsAt b xs ∧ xs.length ≤ 3072 ∧ (Jvm.Cond.and given_1 narrow_1).before args s = true
def lw_Q (_ : Array Value) (s : State) (o : Outcome) (t : State) : Prop := o = .returned (some (.int 1)) ∧ Framed s o t [] 600000 7302250
def lw_Z (below : List Frame) (a : Array Value) (s : State) : State → Prop := fun t => ∃ o, t.status = .running ∧ Ended t below o ∧ lw_Q a s o t
/-- the law's own end, with 1 on the stack, nothing written that was there before, its room as the claim has it -/
theorem lw_ret {p : Program} {l : Launch} {e : Env} {s : State} {m : MethodId} {below : List Frame} {meth : Method} {c : Code} {b : Nat} (hx : p.tables.exec = Jvm.exec) (hb : c.code = code) (hr : meth.sig.returnType = ret) (hlocks : meth.locks = false) {pc : Nat} {H : Heap} {ls : Array Slot} (hdg : decode code pc = .ok (.ireturn, 1)) : W p l e room_1 s m #[Value.ref b] below meth c H [] 600000 7302250 (lw_Z below #[Value.ref b] s) (F0 m pc ls [.int 1]) := by
  intro T hT X
  obtain ⟨fs, hret, hrun, hended, hW, hframe⟩ := X.leave (v := some (.int 1)) (hlocks := hlocks) (fun h => by rw [hr] at h; cases h)
  have hmeth' : T.vm.method? m = some meth := X.method'
  refine ⟨T.setFrames fs, ?_, .returned (some (.int 1)), hrun, hended, rfl, ⟨_, rfl⟩, hW, hframe⟩
  jvm_step X.here [X.here.top, hx, hb, hdg, hmeth', hr, ret, narrow_b1]
  (try refine ⟨rfl, ?_⟩); (try refine ⟨rfl, ?_⟩)
  first | (intro acts; rw [hret _ acts rfl rfl rfl]) | rw [hret _ _ rfl rfl rfl]
  exact Steps.refl _
/-- what holds at the law's entry: the machine, the code, the tables' words (any of lw_tbl by 'hts w (by decide +kernel)'), the script of L ints xs at the cell b, what the Statement gives of the start (any of its parts by flat_of_before) -/
def lw_At (p : Program) (s : State) (m : MethodId) (meth : Method) (c : Code) (b L : Nat) (xs : Nat → Int32) : Prop :=
  p.tables.exec = Jvm.exec ∧ c.code = code ∧ meth.sig.returnType = ret ∧ c.maxLocals = 4 ∧ s.vm.findClass R_law = some m.cls ∧ (∀ w ∈ lw_tbl, w.before #[Value.ref b] s = true) ∧ va_X b L xs s s.heap ∧ b < s.heap.size ∧ meth.locks = false ∧ (Jvm.Cond.and given_1 narrow_1).before #[Value.ref b] s = true
theorem gd_L_law_0 : decode cL_law 0 = .ok (.new 7, 3) ∧ decode cL_law 3 = .ok (.dup, 1) ∧ decode cL_law 4 = .ok (.invokespecial 9, 3) ∧ decode cL_law 7 = .ok (.astore_n 1, 1) ∧ decode cL_law 8 = .ok (.new 10, 3) ∧ decode cL_law 11 = .ok (.dup, 1) ∧ decode cL_law 12 = .ok (.invokespecial 12, 3) ∧ decode cL_law 15 = .ok (.astore_n 2, 1) ∧ decode cL_law 16 = .ok (.iconst 0, 1) ∧ decode cL_law 17 = .ok (.istore_n 3, 1) := by decide +kernel
theorem dL_law_0 : decode cL_law 0 = .ok (.new 7, 3) := gd_L_law_0.1
theorem dL_law_3 : decode cL_law 3 = .ok (.dup, 1) := gd_L_law_0.2.1
theorem dL_law_4 : decode cL_law 4 = .ok (.invokespecial 9, 3) := gd_L_law_0.2.2.1
theorem dL_law_7 : decode cL_law 7 = .ok (.astore_n 1, 1) := gd_L_law_0.2.2.2.1
theorem dL_law_8 : decode cL_law 8 = .ok (.new 10, 3) := gd_L_law_0.2.2.2.2.1
theorem dL_law_11 : decode cL_law 11 = .ok (.dup, 1) := gd_L_law_0.2.2.2.2.2.1
theorem dL_law_12 : decode cL_law 12 = .ok (.invokespecial 12, 3) := gd_L_law_0.2.2.2.2.2.2.1
theorem dL_law_15 : decode cL_law 15 = .ok (.astore_n 2, 1) := gd_L_law_0.2.2.2.2.2.2.2.1
theorem dL_law_16 : decode cL_law 16 = .ok (.iconst 0, 1) := gd_L_law_0.2.2.2.2.2.2.2.2.1
theorem dL_law_17 : decode cL_law 17 = .ok (.istore_n 3, 1) := gd_L_law_0.2.2.2.2.2.2.2.2.2
theorem gd_L_law_18 : decode cL_law 18 = .ok (.iload_n 3, 1) ∧ decode cL_law 19 = .ok (.aload_n 0, 1) ∧ decode cL_law 20 = .ok (.arraylength, 1) ∧ decode cL_law 21 = .ok (.bipush 6, 2) ∧ decode cL_law 23 = .ok (.isub, 1) ∧ decode cL_law 24 = .ok (.if_icmp .gt 815, 3) ∧ decode cL_law 27 = .ok (.aload_n 0, 1) ∧ decode cL_law 28 = .ok (.iload_n 3, 1) ∧ decode cL_law 29 = .ok (.iaload, 1) ∧ decode cL_law 30 = .ok (.bipush 31, 2) := by decide +kernel
theorem dL_law_18 : decode cL_law 18 = .ok (.iload_n 3, 1) := gd_L_law_18.1
theorem dL_law_19 : decode cL_law 19 = .ok (.aload_n 0, 1) := gd_L_law_18.2.1
theorem dL_law_20 : decode cL_law 20 = .ok (.arraylength, 1) := gd_L_law_18.2.2.1
theorem dL_law_21 : decode cL_law 21 = .ok (.bipush 6, 2) := gd_L_law_18.2.2.2.1
theorem dL_law_23 : decode cL_law 23 = .ok (.isub, 1) := gd_L_law_18.2.2.2.2.1
theorem dL_law_24 : decode cL_law 24 = .ok (.if_icmp .gt 815, 3) := gd_L_law_18.2.2.2.2.2.1
theorem dL_law_27 : decode cL_law 27 = .ok (.aload_n 0, 1) := gd_L_law_18.2.2.2.2.2.2.1
theorem dL_law_28 : decode cL_law 28 = .ok (.iload_n 3, 1) := gd_L_law_18.2.2.2.2.2.2.2.1
theorem dL_law_29 : decode cL_law 29 = .ok (.iaload, 1) := gd_L_law_18.2.2.2.2.2.2.2.2.1
theorem dL_law_30 : decode cL_law 30 = .ok (.bipush 31, 2) := gd_L_law_18.2.2.2.2.2.2.2.2.2
theorem gd_L_law_32 : decode cL_law 32 = .ok (.iand, 1) ∧ decode cL_law 33 = .ok (.tableswitch 800 0 24 #[115, 178, 201, 224, 247, 280, 303, 336, 369, 392, 425, 438, 471, 494, 517, 540, 563, 586, 619, 652, 685, 708, 731, 754, 777], 115) ∧ decode cL_law 148 = .ok (.aload_n 1, 1) ∧ decode cL_law 149 = .ok (.aload_n 0, 1) ∧ decode cL_law 150 = .ok (.iload_n 3, 1) ∧ decode cL_law 151 = .ok (.iconst 1, 1) ∧ decode cL_law 152 = .ok (.iadd, 1) ∧ decode cL_law 153 = .ok (.iaload, 1) ∧ decode cL_law 154 = .ok (.aload_n 0, 1) ∧ decode cL_law 155 = .ok (.iload_n 3, 1) := by decide +kernel
theorem dL_law_32 : decode cL_law 32 = .ok (.iand, 1) := gd_L_law_32.1
theorem dL_law_33 : decode cL_law 33 = .ok (.tableswitch 800 0 24 #[115, 178, 201, 224, 247, 280, 303, 336, 369, 392, 425, 438, 471, 494, 517, 540, 563, 586, 619, 652, 685, 708, 731, 754, 777], 115) := gd_L_law_32.2.1
theorem dL_law_148 : decode cL_law 148 = .ok (.aload_n 1, 1) := gd_L_law_32.2.2.1
theorem dL_law_149 : decode cL_law 149 = .ok (.aload_n 0, 1) := gd_L_law_32.2.2.2.1
theorem dL_law_150 : decode cL_law 150 = .ok (.iload_n 3, 1) := gd_L_law_32.2.2.2.2.1
theorem dL_law_151 : decode cL_law 151 = .ok (.iconst 1, 1) := gd_L_law_32.2.2.2.2.2.1
theorem dL_law_152 : decode cL_law 152 = .ok (.iadd, 1) := gd_L_law_32.2.2.2.2.2.2.1
theorem dL_law_153 : decode cL_law 153 = .ok (.iaload, 1) := gd_L_law_32.2.2.2.2.2.2.2.1
theorem dL_law_154 : decode cL_law 154 = .ok (.aload_n 0, 1) := gd_L_law_32.2.2.2.2.2.2.2.2.1
theorem dL_law_155 : decode cL_law 155 = .ok (.iload_n 3, 1) := gd_L_law_32.2.2.2.2.2.2.2.2.2
theorem gd_L_law_156 : decode cL_law 156 = .ok (.iconst 2, 1) ∧ decode cL_law 157 = .ok (.iadd, 1) ∧ decode cL_law 158 = .ok (.iaload, 1) ∧ decode cL_law 159 = .ok (.aload_n 0, 1) ∧ decode cL_law 160 = .ok (.iload_n 3, 1) ∧ decode cL_law 161 = .ok (.iconst 3, 1) ∧ decode cL_law 162 = .ok (.iadd, 1) ∧ decode cL_law 163 = .ok (.iaload, 1) ∧ decode cL_law 164 = .ok (.aload_n 0, 1) ∧ decode cL_law 165 = .ok (.iload_n 3, 1) := by decide +kernel
theorem dL_law_156 : decode cL_law 156 = .ok (.iconst 2, 1) := gd_L_law_156.1
theorem dL_law_157 : decode cL_law 157 = .ok (.iadd, 1) := gd_L_law_156.2.1
theorem dL_law_158 : decode cL_law 158 = .ok (.iaload, 1) := gd_L_law_156.2.2.1
theorem dL_law_159 : decode cL_law 159 = .ok (.aload_n 0, 1) := gd_L_law_156.2.2.2.1
theorem dL_law_160 : decode cL_law 160 = .ok (.iload_n 3, 1) := gd_L_law_156.2.2.2.2.1
theorem dL_law_161 : decode cL_law 161 = .ok (.iconst 3, 1) := gd_L_law_156.2.2.2.2.2.1
theorem dL_law_162 : decode cL_law 162 = .ok (.iadd, 1) := gd_L_law_156.2.2.2.2.2.2.1
theorem dL_law_163 : decode cL_law 163 = .ok (.iaload, 1) := gd_L_law_156.2.2.2.2.2.2.2.1
theorem dL_law_164 : decode cL_law 164 = .ok (.aload_n 0, 1) := gd_L_law_156.2.2.2.2.2.2.2.2.1
theorem dL_law_165 : decode cL_law 165 = .ok (.iload_n 3, 1) := gd_L_law_156.2.2.2.2.2.2.2.2.2
theorem gd_L_law_166 : decode cL_law 166 = .ok (.iconst 4, 1) ∧ decode cL_law 167 = .ok (.iadd, 1) ∧ decode cL_law 168 = .ok (.iaload, 1) ∧ decode cL_law 169 = .ok (.aload_n 0, 1) ∧ decode cL_law 170 = .ok (.iload_n 3, 1) ∧ decode cL_law 171 = .ok (.iconst 5, 1) ∧ decode cL_law 172 = .ok (.iadd, 1) ∧ decode cL_law 173 = .ok (.iaload, 1) ∧ decode cL_law 174 = .ok (.invokevirtual 13, 3) ∧ decode cL_law 177 = .ok (.pop, 1) := by decide +kernel
theorem dL_law_166 : decode cL_law 166 = .ok (.iconst 4, 1) := gd_L_law_166.1
theorem dL_law_167 : decode cL_law 167 = .ok (.iadd, 1) := gd_L_law_166.2.1
theorem dL_law_168 : decode cL_law 168 = .ok (.iaload, 1) := gd_L_law_166.2.2.1
theorem dL_law_169 : decode cL_law 169 = .ok (.aload_n 0, 1) := gd_L_law_166.2.2.2.1
theorem dL_law_170 : decode cL_law 170 = .ok (.iload_n 3, 1) := gd_L_law_166.2.2.2.2.1
theorem dL_law_171 : decode cL_law 171 = .ok (.iconst 5, 1) := gd_L_law_166.2.2.2.2.2.1
theorem dL_law_172 : decode cL_law 172 = .ok (.iadd, 1) := gd_L_law_166.2.2.2.2.2.2.1
theorem dL_law_173 : decode cL_law 173 = .ok (.iaload, 1) := gd_L_law_166.2.2.2.2.2.2.2.1
theorem dL_law_174 : decode cL_law 174 = .ok (.invokevirtual 13, 3) := gd_L_law_166.2.2.2.2.2.2.2.2.1
theorem dL_law_177 : decode cL_law 177 = .ok (.pop, 1) := gd_L_law_166.2.2.2.2.2.2.2.2.2
theorem gd_L_law_178 : decode cL_law 178 = .ok (.aload_n 2, 1) ∧ decode cL_law 179 = .ok (.aload_n 0, 1) ∧ decode cL_law 180 = .ok (.iload_n 3, 1) ∧ decode cL_law 181 = .ok (.iconst 1, 1) ∧ decode cL_law 182 = .ok (.iadd, 1) ∧ decode cL_law 183 = .ok (.iaload, 1) ∧ decode cL_law 184 = .ok (.aload_n 0, 1) ∧ decode cL_law 185 = .ok (.iload_n 3, 1) ∧ decode cL_law 186 = .ok (.iconst 2, 1) ∧ decode cL_law 187 = .ok (.iadd, 1) := by decide +kernel
theorem dL_law_178 : decode cL_law 178 = .ok (.aload_n 2, 1) := gd_L_law_178.1
theorem dL_law_179 : decode cL_law 179 = .ok (.aload_n 0, 1) := gd_L_law_178.2.1
theorem dL_law_180 : decode cL_law 180 = .ok (.iload_n 3, 1) := gd_L_law_178.2.2.1
theorem dL_law_181 : decode cL_law 181 = .ok (.iconst 1, 1) := gd_L_law_178.2.2.2.1
theorem dL_law_182 : decode cL_law 182 = .ok (.iadd, 1) := gd_L_law_178.2.2.2.2.1
theorem dL_law_183 : decode cL_law 183 = .ok (.iaload, 1) := gd_L_law_178.2.2.2.2.2.1
theorem dL_law_184 : decode cL_law 184 = .ok (.aload_n 0, 1) := gd_L_law_178.2.2.2.2.2.2.1
theorem dL_law_185 : decode cL_law 185 = .ok (.iload_n 3, 1) := gd_L_law_178.2.2.2.2.2.2.2.1
theorem dL_law_186 : decode cL_law 186 = .ok (.iconst 2, 1) := gd_L_law_178.2.2.2.2.2.2.2.2.1
theorem dL_law_187 : decode cL_law 187 = .ok (.iadd, 1) := gd_L_law_178.2.2.2.2.2.2.2.2.2
theorem gd_L_law_188 : decode cL_law 188 = .ok (.iaload, 1) ∧ decode cL_law 189 = .ok (.aload_n 0, 1) ∧ decode cL_law 190 = .ok (.iload_n 3, 1) ∧ decode cL_law 191 = .ok (.iconst 3, 1) ∧ decode cL_law 192 = .ok (.iadd, 1) ∧ decode cL_law 193 = .ok (.iaload, 1) ∧ decode cL_law 194 = .ok (.aload_n 0, 1) ∧ decode cL_law 195 = .ok (.iload_n 3, 1) ∧ decode cL_law 196 = .ok (.iconst 4, 1) ∧ decode cL_law 197 = .ok (.iadd, 1) := by decide +kernel
theorem dL_law_188 : decode cL_law 188 = .ok (.iaload, 1) := gd_L_law_188.1
theorem dL_law_189 : decode cL_law 189 = .ok (.aload_n 0, 1) := gd_L_law_188.2.1
theorem dL_law_190 : decode cL_law 190 = .ok (.iload_n 3, 1) := gd_L_law_188.2.2.1
theorem dL_law_191 : decode cL_law 191 = .ok (.iconst 3, 1) := gd_L_law_188.2.2.2.1
theorem dL_law_192 : decode cL_law 192 = .ok (.iadd, 1) := gd_L_law_188.2.2.2.2.1
theorem dL_law_193 : decode cL_law 193 = .ok (.iaload, 1) := gd_L_law_188.2.2.2.2.2.1
theorem dL_law_194 : decode cL_law 194 = .ok (.aload_n 0, 1) := gd_L_law_188.2.2.2.2.2.2.1
theorem dL_law_195 : decode cL_law 195 = .ok (.iload_n 3, 1) := gd_L_law_188.2.2.2.2.2.2.2.1
theorem dL_law_196 : decode cL_law 196 = .ok (.iconst 4, 1) := gd_L_law_188.2.2.2.2.2.2.2.2.1
theorem dL_law_197 : decode cL_law 197 = .ok (.iadd, 1) := gd_L_law_188.2.2.2.2.2.2.2.2.2
theorem gd_L_law_198 : decode cL_law 198 = .ok (.iaload, 1) ∧ decode cL_law 199 = .ok (.aload_n 0, 1) ∧ decode cL_law 200 = .ok (.iload_n 3, 1) ∧ decode cL_law 201 = .ok (.iconst 5, 1) ∧ decode cL_law 202 = .ok (.iadd, 1) ∧ decode cL_law 203 = .ok (.iaload, 1) ∧ decode cL_law 204 = .ok (.invokevirtual 17, 3) ∧ decode cL_law 207 = .ok (.pop, 1) ∧ decode cL_law 208 = .ok (.goto 625, 3) ∧ decode cL_law 211 = .ok (.aload_n 1, 1) := by decide +kernel
theorem dL_law_198 : decode cL_law 198 = .ok (.iaload, 1) := gd_L_law_198.1
theorem dL_law_199 : decode cL_law 199 = .ok (.aload_n 0, 1) := gd_L_law_198.2.1
theorem dL_law_200 : decode cL_law 200 = .ok (.iload_n 3, 1) := gd_L_law_198.2.2.1
theorem dL_law_201 : decode cL_law 201 = .ok (.iconst 5, 1) := gd_L_law_198.2.2.2.1
theorem dL_law_202 : decode cL_law 202 = .ok (.iadd, 1) := gd_L_law_198.2.2.2.2.1
theorem dL_law_203 : decode cL_law 203 = .ok (.iaload, 1) := gd_L_law_198.2.2.2.2.2.1
theorem dL_law_204 : decode cL_law 204 = .ok (.invokevirtual 17, 3) := gd_L_law_198.2.2.2.2.2.2.1
theorem dL_law_207 : decode cL_law 207 = .ok (.pop, 1) := gd_L_law_198.2.2.2.2.2.2.2.1
theorem dL_law_208 : decode cL_law 208 = .ok (.goto 625, 3) := gd_L_law_198.2.2.2.2.2.2.2.2.1
theorem dL_law_211 : decode cL_law 211 = .ok (.aload_n 1, 1) := gd_L_law_198.2.2.2.2.2.2.2.2.2
theorem gd_L_law_212 : decode cL_law 212 = .ok (.aload_n 0, 1) ∧ decode cL_law 213 = .ok (.iload_n 3, 1) ∧ decode cL_law 214 = .ok (.iconst 1, 1) ∧ decode cL_law 215 = .ok (.iadd, 1) ∧ decode cL_law 216 = .ok (.iaload, 1) ∧ decode cL_law 217 = .ok (.invokevirtual 18, 3) ∧ decode cL_law 220 = .ok (.pop, 1) ∧ decode cL_law 221 = .ok (.aload_n 2, 1) ∧ decode cL_law 222 = .ok (.aload_n 0, 1) ∧ decode cL_law 223 = .ok (.iload_n 3, 1) := by decide +kernel
theorem dL_law_212 : decode cL_law 212 = .ok (.aload_n 0, 1) := gd_L_law_212.1
theorem dL_law_213 : decode cL_law 213 = .ok (.iload_n 3, 1) := gd_L_law_212.2.1
theorem dL_law_214 : decode cL_law 214 = .ok (.iconst 1, 1) := gd_L_law_212.2.2.1
theorem dL_law_215 : decode cL_law 215 = .ok (.iadd, 1) := gd_L_law_212.2.2.2.1
theorem dL_law_216 : decode cL_law 216 = .ok (.iaload, 1) := gd_L_law_212.2.2.2.2.1
theorem dL_law_217 : decode cL_law 217 = .ok (.invokevirtual 18, 3) := gd_L_law_212.2.2.2.2.2.1
theorem dL_law_220 : decode cL_law 220 = .ok (.pop, 1) := gd_L_law_212.2.2.2.2.2.2.1
theorem dL_law_221 : decode cL_law 221 = .ok (.aload_n 2, 1) := gd_L_law_212.2.2.2.2.2.2.2.1
theorem dL_law_222 : decode cL_law 222 = .ok (.aload_n 0, 1) := gd_L_law_212.2.2.2.2.2.2.2.2.1
theorem dL_law_223 : decode cL_law 223 = .ok (.iload_n 3, 1) := gd_L_law_212.2.2.2.2.2.2.2.2.2
theorem gd_L_law_224 : decode cL_law 224 = .ok (.iconst 1, 1) ∧ decode cL_law 225 = .ok (.iadd, 1) ∧ decode cL_law 226 = .ok (.iaload, 1) ∧ decode cL_law 227 = .ok (.invokevirtual 22, 3) ∧ decode cL_law 230 = .ok (.pop, 1) ∧ decode cL_law 231 = .ok (.goto 602, 3) ∧ decode cL_law 234 = .ok (.aload_n 1, 1) ∧ decode cL_law 235 = .ok (.aload_n 0, 1) ∧ decode cL_law 236 = .ok (.iload_n 3, 1) ∧ decode cL_law 237 = .ok (.iconst 1, 1) := by decide +kernel
theorem dL_law_224 : decode cL_law 224 = .ok (.iconst 1, 1) := gd_L_law_224.1
theorem dL_law_225 : decode cL_law 225 = .ok (.iadd, 1) := gd_L_law_224.2.1
theorem dL_law_226 : decode cL_law 226 = .ok (.iaload, 1) := gd_L_law_224.2.2.1
theorem dL_law_227 : decode cL_law 227 = .ok (.invokevirtual 22, 3) := gd_L_law_224.2.2.2.1
theorem dL_law_230 : decode cL_law 230 = .ok (.pop, 1) := gd_L_law_224.2.2.2.2.1
theorem dL_law_231 : decode cL_law 231 = .ok (.goto 602, 3) := gd_L_law_224.2.2.2.2.2.1
theorem dL_law_234 : decode cL_law 234 = .ok (.aload_n 1, 1) := gd_L_law_224.2.2.2.2.2.2.1
theorem dL_law_235 : decode cL_law 235 = .ok (.aload_n 0, 1) := gd_L_law_224.2.2.2.2.2.2.2.1
theorem dL_law_236 : decode cL_law 236 = .ok (.iload_n 3, 1) := gd_L_law_224.2.2.2.2.2.2.2.2.1
theorem dL_law_237 : decode cL_law 237 = .ok (.iconst 1, 1) := gd_L_law_224.2.2.2.2.2.2.2.2.2
theorem gd_L_law_238 : decode cL_law 238 = .ok (.iadd, 1) ∧ decode cL_law 239 = .ok (.iaload, 1) ∧ decode cL_law 240 = .ok (.invokevirtual 23, 3) ∧ decode cL_law 243 = .ok (.pop, 1) ∧ decode cL_law 244 = .ok (.aload_n 2, 1) ∧ decode cL_law 245 = .ok (.aload_n 0, 1) ∧ decode cL_law 246 = .ok (.iload_n 3, 1) ∧ decode cL_law 247 = .ok (.iconst 1, 1) ∧ decode cL_law 248 = .ok (.iadd, 1) ∧ decode cL_law 249 = .ok (.iaload, 1) := by decide +kernel
theorem dL_law_238 : decode cL_law 238 = .ok (.iadd, 1) := gd_L_law_238.1
theorem dL_law_239 : decode cL_law 239 = .ok (.iaload, 1) := gd_L_law_238.2.1
theorem dL_law_240 : decode cL_law 240 = .ok (.invokevirtual 23, 3) := gd_L_law_238.2.2.1
theorem dL_law_243 : decode cL_law 243 = .ok (.pop, 1) := gd_L_law_238.2.2.2.1
theorem dL_law_244 : decode cL_law 244 = .ok (.aload_n 2, 1) := gd_L_law_238.2.2.2.2.1
theorem dL_law_245 : decode cL_law 245 = .ok (.aload_n 0, 1) := gd_L_law_238.2.2.2.2.2.1
theorem dL_law_246 : decode cL_law 246 = .ok (.iload_n 3, 1) := gd_L_law_238.2.2.2.2.2.2.1
theorem dL_law_247 : decode cL_law 247 = .ok (.iconst 1, 1) := gd_L_law_238.2.2.2.2.2.2.2.1
theorem dL_law_248 : decode cL_law 248 = .ok (.iadd, 1) := gd_L_law_238.2.2.2.2.2.2.2.2.1
theorem dL_law_249 : decode cL_law 249 = .ok (.iaload, 1) := gd_L_law_238.2.2.2.2.2.2.2.2.2
theorem gd_L_law_250 : decode cL_law 250 = .ok (.invokevirtual 26, 3) ∧ decode cL_law 253 = .ok (.pop, 1) ∧ decode cL_law 254 = .ok (.goto 579, 3) ∧ decode cL_law 257 = .ok (.aload_n 1, 1) ∧ decode cL_law 258 = .ok (.aload_n 0, 1) ∧ decode cL_law 259 = .ok (.iload_n 3, 1) ∧ decode cL_law 260 = .ok (.iconst 1, 1) ∧ decode cL_law 261 = .ok (.iadd, 1) ∧ decode cL_law 262 = .ok (.iaload, 1) ∧ decode cL_law 263 = .ok (.invokevirtual 27, 3) := by decide +kernel
theorem dL_law_250 : decode cL_law 250 = .ok (.invokevirtual 26, 3) := gd_L_law_250.1
theorem dL_law_253 : decode cL_law 253 = .ok (.pop, 1) := gd_L_law_250.2.1
theorem dL_law_254 : decode cL_law 254 = .ok (.goto 579, 3) := gd_L_law_250.2.2.1
theorem dL_law_257 : decode cL_law 257 = .ok (.aload_n 1, 1) := gd_L_law_250.2.2.2.1
theorem dL_law_258 : decode cL_law 258 = .ok (.aload_n 0, 1) := gd_L_law_250.2.2.2.2.1
theorem dL_law_259 : decode cL_law 259 = .ok (.iload_n 3, 1) := gd_L_law_250.2.2.2.2.2.1
theorem dL_law_260 : decode cL_law 260 = .ok (.iconst 1, 1) := gd_L_law_250.2.2.2.2.2.2.1
theorem dL_law_261 : decode cL_law 261 = .ok (.iadd, 1) := gd_L_law_250.2.2.2.2.2.2.2.1
theorem dL_law_262 : decode cL_law 262 = .ok (.iaload, 1) := gd_L_law_250.2.2.2.2.2.2.2.2.1
theorem dL_law_263 : decode cL_law 263 = .ok (.invokevirtual 27, 3) := gd_L_law_250.2.2.2.2.2.2.2.2.2
theorem gd_L_law_266 : decode cL_law 266 = .ok (.pop, 1) ∧ decode cL_law 267 = .ok (.aload_n 2, 1) ∧ decode cL_law 268 = .ok (.aload_n 0, 1) ∧ decode cL_law 269 = .ok (.iload_n 3, 1) ∧ decode cL_law 270 = .ok (.iconst 1, 1) ∧ decode cL_law 271 = .ok (.iadd, 1) ∧ decode cL_law 272 = .ok (.iaload, 1) ∧ decode cL_law 273 = .ok (.invokevirtual 30, 3) ∧ decode cL_law 276 = .ok (.pop, 1) ∧ decode cL_law 277 = .ok (.goto 556, 3) := by decide +kernel
theorem dL_law_266 : decode cL_law 266 = .ok (.pop, 1) := gd_L_law_266.1
theorem dL_law_267 : decode cL_law 267 = .ok (.aload_n 2, 1) := gd_L_law_266.2.1
theorem dL_law_268 : decode cL_law 268 = .ok (.aload_n 0, 1) := gd_L_law_266.2.2.1
theorem dL_law_269 : decode cL_law 269 = .ok (.iload_n 3, 1) := gd_L_law_266.2.2.2.1
theorem dL_law_270 : decode cL_law 270 = .ok (.iconst 1, 1) := gd_L_law_266.2.2.2.2.1
theorem dL_law_271 : decode cL_law 271 = .ok (.iadd, 1) := gd_L_law_266.2.2.2.2.2.1
theorem dL_law_272 : decode cL_law 272 = .ok (.iaload, 1) := gd_L_law_266.2.2.2.2.2.2.1
theorem dL_law_273 : decode cL_law 273 = .ok (.invokevirtual 30, 3) := gd_L_law_266.2.2.2.2.2.2.2.1
theorem dL_law_276 : decode cL_law 276 = .ok (.pop, 1) := gd_L_law_266.2.2.2.2.2.2.2.2.1
theorem dL_law_277 : decode cL_law 277 = .ok (.goto 556, 3) := gd_L_law_266.2.2.2.2.2.2.2.2.2
theorem gd_L_law_280 : decode cL_law 280 = .ok (.aload_n 1, 1) ∧ decode cL_law 281 = .ok (.aload_n 0, 1) ∧ decode cL_law 282 = .ok (.iload_n 3, 1) ∧ decode cL_law 283 = .ok (.iconst 1, 1) ∧ decode cL_law 284 = .ok (.iadd, 1) ∧ decode cL_law 285 = .ok (.iaload, 1) ∧ decode cL_law 286 = .ok (.aload_n 0, 1) ∧ decode cL_law 287 = .ok (.iload_n 3, 1) ∧ decode cL_law 288 = .ok (.iconst 2, 1) ∧ decode cL_law 289 = .ok (.iadd, 1) := by decide +kernel
theorem dL_law_280 : decode cL_law 280 = .ok (.aload_n 1, 1) := gd_L_law_280.1
theorem dL_law_281 : decode cL_law 281 = .ok (.aload_n 0, 1) := gd_L_law_280.2.1
theorem dL_law_282 : decode cL_law 282 = .ok (.iload_n 3, 1) := gd_L_law_280.2.2.1
theorem dL_law_283 : decode cL_law 283 = .ok (.iconst 1, 1) := gd_L_law_280.2.2.2.1
theorem dL_law_284 : decode cL_law 284 = .ok (.iadd, 1) := gd_L_law_280.2.2.2.2.1
theorem dL_law_285 : decode cL_law 285 = .ok (.iaload, 1) := gd_L_law_280.2.2.2.2.2.1
theorem dL_law_286 : decode cL_law 286 = .ok (.aload_n 0, 1) := gd_L_law_280.2.2.2.2.2.2.1
theorem dL_law_287 : decode cL_law 287 = .ok (.iload_n 3, 1) := gd_L_law_280.2.2.2.2.2.2.2.1
theorem dL_law_288 : decode cL_law 288 = .ok (.iconst 2, 1) := gd_L_law_280.2.2.2.2.2.2.2.2.1
theorem dL_law_289 : decode cL_law 289 = .ok (.iadd, 1) := gd_L_law_280.2.2.2.2.2.2.2.2.2
theorem gd_L_law_290 : decode cL_law 290 = .ok (.iaload, 1) ∧ decode cL_law 291 = .ok (.invokevirtual 31, 3) ∧ decode cL_law 294 = .ok (.pop, 1) ∧ decode cL_law 295 = .ok (.aload_n 2, 1) ∧ decode cL_law 296 = .ok (.aload_n 0, 1) ∧ decode cL_law 297 = .ok (.iload_n 3, 1) ∧ decode cL_law 298 = .ok (.iconst 1, 1) ∧ decode cL_law 299 = .ok (.iadd, 1) ∧ decode cL_law 300 = .ok (.iaload, 1) ∧ decode cL_law 301 = .ok (.aload_n 0, 1) := by decide +kernel
theorem dL_law_290 : decode cL_law 290 = .ok (.iaload, 1) := gd_L_law_290.1
theorem dL_law_291 : decode cL_law 291 = .ok (.invokevirtual 31, 3) := gd_L_law_290.2.1
theorem dL_law_294 : decode cL_law 294 = .ok (.pop, 1) := gd_L_law_290.2.2.1
theorem dL_law_295 : decode cL_law 295 = .ok (.aload_n 2, 1) := gd_L_law_290.2.2.2.1
theorem dL_law_296 : decode cL_law 296 = .ok (.aload_n 0, 1) := gd_L_law_290.2.2.2.2.1
theorem dL_law_297 : decode cL_law 297 = .ok (.iload_n 3, 1) := gd_L_law_290.2.2.2.2.2.1
theorem dL_law_298 : decode cL_law 298 = .ok (.iconst 1, 1) := gd_L_law_290.2.2.2.2.2.2.1
theorem dL_law_299 : decode cL_law 299 = .ok (.iadd, 1) := gd_L_law_290.2.2.2.2.2.2.2.1
theorem dL_law_300 : decode cL_law 300 = .ok (.iaload, 1) := gd_L_law_290.2.2.2.2.2.2.2.2.1
theorem dL_law_301 : decode cL_law 301 = .ok (.aload_n 0, 1) := gd_L_law_290.2.2.2.2.2.2.2.2.2
theorem gd_L_law_302 : decode cL_law 302 = .ok (.iload_n 3, 1) ∧ decode cL_law 303 = .ok (.iconst 2, 1) ∧ decode cL_law 304 = .ok (.iadd, 1) ∧ decode cL_law 305 = .ok (.iaload, 1) ∧ decode cL_law 306 = .ok (.invokevirtual 35, 3) ∧ decode cL_law 309 = .ok (.pop, 1) ∧ decode cL_law 310 = .ok (.goto 523, 3) ∧ decode cL_law 313 = .ok (.aload_n 1, 1) ∧ decode cL_law 314 = .ok (.aload_n 0, 1) ∧ decode cL_law 315 = .ok (.iload_n 3, 1) := by decide +kernel
theorem dL_law_302 : decode cL_law 302 = .ok (.iload_n 3, 1) := gd_L_law_302.1
theorem dL_law_303 : decode cL_law 303 = .ok (.iconst 2, 1) := gd_L_law_302.2.1
theorem dL_law_304 : decode cL_law 304 = .ok (.iadd, 1) := gd_L_law_302.2.2.1
theorem dL_law_305 : decode cL_law 305 = .ok (.iaload, 1) := gd_L_law_302.2.2.2.1
theorem dL_law_306 : decode cL_law 306 = .ok (.invokevirtual 35, 3) := gd_L_law_302.2.2.2.2.1
theorem dL_law_309 : decode cL_law 309 = .ok (.pop, 1) := gd_L_law_302.2.2.2.2.2.1
theorem dL_law_310 : decode cL_law 310 = .ok (.goto 523, 3) := gd_L_law_302.2.2.2.2.2.2.1
theorem dL_law_313 : decode cL_law 313 = .ok (.aload_n 1, 1) := gd_L_law_302.2.2.2.2.2.2.2.1
theorem dL_law_314 : decode cL_law 314 = .ok (.aload_n 0, 1) := gd_L_law_302.2.2.2.2.2.2.2.2.1
theorem dL_law_315 : decode cL_law 315 = .ok (.iload_n 3, 1) := gd_L_law_302.2.2.2.2.2.2.2.2.2
theorem gd_L_law_316 : decode cL_law 316 = .ok (.iconst 1, 1) ∧ decode cL_law 317 = .ok (.iadd, 1) ∧ decode cL_law 318 = .ok (.iaload, 1) ∧ decode cL_law 319 = .ok (.invokevirtual 36, 3) ∧ decode cL_law 322 = .ok (.pop, 1) ∧ decode cL_law 323 = .ok (.aload_n 2, 1) ∧ decode cL_law 324 = .ok (.aload_n 0, 1) ∧ decode cL_law 325 = .ok (.iload_n 3, 1) ∧ decode cL_law 326 = .ok (.iconst 1, 1) ∧ decode cL_law 327 = .ok (.iadd, 1) := by decide +kernel
theorem dL_law_316 : decode cL_law 316 = .ok (.iconst 1, 1) := gd_L_law_316.1
theorem dL_law_317 : decode cL_law 317 = .ok (.iadd, 1) := gd_L_law_316.2.1
theorem dL_law_318 : decode cL_law 318 = .ok (.iaload, 1) := gd_L_law_316.2.2.1
theorem dL_law_319 : decode cL_law 319 = .ok (.invokevirtual 36, 3) := gd_L_law_316.2.2.2.1
theorem dL_law_322 : decode cL_law 322 = .ok (.pop, 1) := gd_L_law_316.2.2.2.2.1
theorem dL_law_323 : decode cL_law 323 = .ok (.aload_n 2, 1) := gd_L_law_316.2.2.2.2.2.1
theorem dL_law_324 : decode cL_law 324 = .ok (.aload_n 0, 1) := gd_L_law_316.2.2.2.2.2.2.1
theorem dL_law_325 : decode cL_law 325 = .ok (.iload_n 3, 1) := gd_L_law_316.2.2.2.2.2.2.2.1
theorem dL_law_326 : decode cL_law 326 = .ok (.iconst 1, 1) := gd_L_law_316.2.2.2.2.2.2.2.2.1
theorem dL_law_327 : decode cL_law 327 = .ok (.iadd, 1) := gd_L_law_316.2.2.2.2.2.2.2.2.2
theorem gd_L_law_328 : decode cL_law 328 = .ok (.iaload, 1) ∧ decode cL_law 329 = .ok (.invokevirtual 39, 3) ∧ decode cL_law 332 = .ok (.pop, 1) ∧ decode cL_law 333 = .ok (.goto 500, 3) ∧ decode cL_law 336 = .ok (.aload_n 1, 1) ∧ decode cL_law 337 = .ok (.aload_n 0, 1) ∧ decode cL_law 338 = .ok (.iload_n 3, 1) ∧ decode cL_law 339 = .ok (.iconst 1, 1) ∧ decode cL_law 340 = .ok (.iadd, 1) ∧ decode cL_law 341 = .ok (.iaload, 1) := by decide +kernel
theorem dL_law_328 : decode cL_law 328 = .ok (.iaload, 1) := gd_L_law_328.1
theorem dL_law_329 : decode cL_law 329 = .ok (.invokevirtual 39, 3) := gd_L_law_328.2.1
theorem dL_law_332 : decode cL_law 332 = .ok (.pop, 1) := gd_L_law_328.2.2.1
theorem dL_law_333 : decode cL_law 333 = .ok (.goto 500, 3) := gd_L_law_328.2.2.2.1
theorem dL_law_336 : decode cL_law 336 = .ok (.aload_n 1, 1) := gd_L_law_328.2.2.2.2.1
theorem dL_law_337 : decode cL_law 337 = .ok (.aload_n 0, 1) := gd_L_law_328.2.2.2.2.2.1
theorem dL_law_338 : decode cL_law 338 = .ok (.iload_n 3, 1) := gd_L_law_328.2.2.2.2.2.2.1
theorem dL_law_339 : decode cL_law 339 = .ok (.iconst 1, 1) := gd_L_law_328.2.2.2.2.2.2.2.1
theorem dL_law_340 : decode cL_law 340 = .ok (.iadd, 1) := gd_L_law_328.2.2.2.2.2.2.2.2.1
theorem dL_law_341 : decode cL_law 341 = .ok (.iaload, 1) := gd_L_law_328.2.2.2.2.2.2.2.2.2
theorem gd_L_law_342 : decode cL_law 342 = .ok (.aload_n 0, 1) ∧ decode cL_law 343 = .ok (.iload_n 3, 1) ∧ decode cL_law 344 = .ok (.iconst 2, 1) ∧ decode cL_law 345 = .ok (.iadd, 1) ∧ decode cL_law 346 = .ok (.iaload, 1) ∧ decode cL_law 347 = .ok (.invokevirtual 40, 3) ∧ decode cL_law 350 = .ok (.pop, 1) ∧ decode cL_law 351 = .ok (.aload_n 2, 1) ∧ decode cL_law 352 = .ok (.aload_n 0, 1) ∧ decode cL_law 353 = .ok (.iload_n 3, 1) := by decide +kernel
theorem dL_law_342 : decode cL_law 342 = .ok (.aload_n 0, 1) := gd_L_law_342.1
theorem dL_law_343 : decode cL_law 343 = .ok (.iload_n 3, 1) := gd_L_law_342.2.1
theorem dL_law_344 : decode cL_law 344 = .ok (.iconst 2, 1) := gd_L_law_342.2.2.1
theorem dL_law_345 : decode cL_law 345 = .ok (.iadd, 1) := gd_L_law_342.2.2.2.1
theorem dL_law_346 : decode cL_law 346 = .ok (.iaload, 1) := gd_L_law_342.2.2.2.2.1
theorem dL_law_347 : decode cL_law 347 = .ok (.invokevirtual 40, 3) := gd_L_law_342.2.2.2.2.2.1
theorem dL_law_350 : decode cL_law 350 = .ok (.pop, 1) := gd_L_law_342.2.2.2.2.2.2.1
theorem dL_law_351 : decode cL_law 351 = .ok (.aload_n 2, 1) := gd_L_law_342.2.2.2.2.2.2.2.1
theorem dL_law_352 : decode cL_law 352 = .ok (.aload_n 0, 1) := gd_L_law_342.2.2.2.2.2.2.2.2.1
theorem dL_law_353 : decode cL_law 353 = .ok (.iload_n 3, 1) := gd_L_law_342.2.2.2.2.2.2.2.2.2
theorem gd_L_law_354 : decode cL_law 354 = .ok (.iconst 1, 1) ∧ decode cL_law 355 = .ok (.iadd, 1) ∧ decode cL_law 356 = .ok (.iaload, 1) ∧ decode cL_law 357 = .ok (.aload_n 0, 1) ∧ decode cL_law 358 = .ok (.iload_n 3, 1) ∧ decode cL_law 359 = .ok (.iconst 2, 1) ∧ decode cL_law 360 = .ok (.iadd, 1) ∧ decode cL_law 361 = .ok (.iaload, 1) ∧ decode cL_law 362 = .ok (.invokevirtual 43, 3) ∧ decode cL_law 365 = .ok (.pop, 1) := by decide +kernel
theorem dL_law_354 : decode cL_law 354 = .ok (.iconst 1, 1) := gd_L_law_354.1
theorem dL_law_355 : decode cL_law 355 = .ok (.iadd, 1) := gd_L_law_354.2.1
theorem dL_law_356 : decode cL_law 356 = .ok (.iaload, 1) := gd_L_law_354.2.2.1
theorem dL_law_357 : decode cL_law 357 = .ok (.aload_n 0, 1) := gd_L_law_354.2.2.2.1
theorem dL_law_358 : decode cL_law 358 = .ok (.iload_n 3, 1) := gd_L_law_354.2.2.2.2.1
theorem dL_law_359 : decode cL_law 359 = .ok (.iconst 2, 1) := gd_L_law_354.2.2.2.2.2.1
theorem dL_law_360 : decode cL_law 360 = .ok (.iadd, 1) := gd_L_law_354.2.2.2.2.2.2.1
theorem dL_law_361 : decode cL_law 361 = .ok (.iaload, 1) := gd_L_law_354.2.2.2.2.2.2.2.1
theorem dL_law_362 : decode cL_law 362 = .ok (.invokevirtual 43, 3) := gd_L_law_354.2.2.2.2.2.2.2.2.1
theorem dL_law_365 : decode cL_law 365 = .ok (.pop, 1) := gd_L_law_354.2.2.2.2.2.2.2.2.2
theorem gd_L_law_366 : decode cL_law 366 = .ok (.goto 467, 3) ∧ decode cL_law 369 = .ok (.aload_n 1, 1) ∧ decode cL_law 370 = .ok (.aload_n 0, 1) ∧ decode cL_law 371 = .ok (.iload_n 3, 1) ∧ decode cL_law 372 = .ok (.iconst 1, 1) ∧ decode cL_law 373 = .ok (.iadd, 1) ∧ decode cL_law 374 = .ok (.iaload, 1) ∧ decode cL_law 375 = .ok (.aload_n 0, 1) ∧ decode cL_law 376 = .ok (.iload_n 3, 1) ∧ decode cL_law 377 = .ok (.iconst 2, 1) := by decide +kernel
theorem dL_law_366 : decode cL_law 366 = .ok (.goto 467, 3) := gd_L_law_366.1
theorem dL_law_369 : decode cL_law 369 = .ok (.aload_n 1, 1) := gd_L_law_366.2.1
theorem dL_law_370 : decode cL_law 370 = .ok (.aload_n 0, 1) := gd_L_law_366.2.2.1
theorem dL_law_371 : decode cL_law 371 = .ok (.iload_n 3, 1) := gd_L_law_366.2.2.2.1
theorem dL_law_372 : decode cL_law 372 = .ok (.iconst 1, 1) := gd_L_law_366.2.2.2.2.1
theorem dL_law_373 : decode cL_law 373 = .ok (.iadd, 1) := gd_L_law_366.2.2.2.2.2.1
theorem dL_law_374 : decode cL_law 374 = .ok (.iaload, 1) := gd_L_law_366.2.2.2.2.2.2.1
theorem dL_law_375 : decode cL_law 375 = .ok (.aload_n 0, 1) := gd_L_law_366.2.2.2.2.2.2.2.1
theorem dL_law_376 : decode cL_law 376 = .ok (.iload_n 3, 1) := gd_L_law_366.2.2.2.2.2.2.2.2.1
theorem dL_law_377 : decode cL_law 377 = .ok (.iconst 2, 1) := gd_L_law_366.2.2.2.2.2.2.2.2.2
theorem gd_L_law_378 : decode cL_law 378 = .ok (.iadd, 1) ∧ decode cL_law 379 = .ok (.iaload, 1) ∧ decode cL_law 380 = .ok (.invokevirtual 44, 3) ∧ decode cL_law 383 = .ok (.pop, 1) ∧ decode cL_law 384 = .ok (.aload_n 2, 1) ∧ decode cL_law 385 = .ok (.aload_n 0, 1) ∧ decode cL_law 386 = .ok (.iload_n 3, 1) ∧ decode cL_law 387 = .ok (.iconst 1, 1) ∧ decode cL_law 388 = .ok (.iadd, 1) ∧ decode cL_law 389 = .ok (.iaload, 1) := by decide +kernel
theorem dL_law_378 : decode cL_law 378 = .ok (.iadd, 1) := gd_L_law_378.1
theorem dL_law_379 : decode cL_law 379 = .ok (.iaload, 1) := gd_L_law_378.2.1
theorem dL_law_380 : decode cL_law 380 = .ok (.invokevirtual 44, 3) := gd_L_law_378.2.2.1
theorem dL_law_383 : decode cL_law 383 = .ok (.pop, 1) := gd_L_law_378.2.2.2.1
theorem dL_law_384 : decode cL_law 384 = .ok (.aload_n 2, 1) := gd_L_law_378.2.2.2.2.1
theorem dL_law_385 : decode cL_law 385 = .ok (.aload_n 0, 1) := gd_L_law_378.2.2.2.2.2.1
theorem dL_law_386 : decode cL_law 386 = .ok (.iload_n 3, 1) := gd_L_law_378.2.2.2.2.2.2.1
theorem dL_law_387 : decode cL_law 387 = .ok (.iconst 1, 1) := gd_L_law_378.2.2.2.2.2.2.2.1
theorem dL_law_388 : decode cL_law 388 = .ok (.iadd, 1) := gd_L_law_378.2.2.2.2.2.2.2.2.1
theorem dL_law_389 : decode cL_law 389 = .ok (.iaload, 1) := gd_L_law_378.2.2.2.2.2.2.2.2.2
theorem gd_L_law_390 : decode cL_law 390 = .ok (.aload_n 0, 1) ∧ decode cL_law 391 = .ok (.iload_n 3, 1) ∧ decode cL_law 392 = .ok (.iconst 2, 1) ∧ decode cL_law 393 = .ok (.iadd, 1) ∧ decode cL_law 394 = .ok (.iaload, 1) ∧ decode cL_law 395 = .ok (.invokevirtual 47, 3) ∧ decode cL_law 398 = .ok (.pop, 1) ∧ decode cL_law 399 = .ok (.goto 434, 3) ∧ decode cL_law 402 = .ok (.aload_n 1, 1) ∧ decode cL_law 403 = .ok (.aload_n 0, 1) := by decide +kernel
theorem dL_law_390 : decode cL_law 390 = .ok (.aload_n 0, 1) := gd_L_law_390.1
theorem dL_law_391 : decode cL_law 391 = .ok (.iload_n 3, 1) := gd_L_law_390.2.1
theorem dL_law_392 : decode cL_law 392 = .ok (.iconst 2, 1) := gd_L_law_390.2.2.1
theorem dL_law_393 : decode cL_law 393 = .ok (.iadd, 1) := gd_L_law_390.2.2.2.1
theorem dL_law_394 : decode cL_law 394 = .ok (.iaload, 1) := gd_L_law_390.2.2.2.2.1
theorem dL_law_395 : decode cL_law 395 = .ok (.invokevirtual 47, 3) := gd_L_law_390.2.2.2.2.2.1
theorem dL_law_398 : decode cL_law 398 = .ok (.pop, 1) := gd_L_law_390.2.2.2.2.2.2.1
theorem dL_law_399 : decode cL_law 399 = .ok (.goto 434, 3) := gd_L_law_390.2.2.2.2.2.2.2.1
theorem dL_law_402 : decode cL_law 402 = .ok (.aload_n 1, 1) := gd_L_law_390.2.2.2.2.2.2.2.2.1
theorem dL_law_403 : decode cL_law 403 = .ok (.aload_n 0, 1) := gd_L_law_390.2.2.2.2.2.2.2.2.2
theorem gd_L_law_404 : decode cL_law 404 = .ok (.iload_n 3, 1) ∧ decode cL_law 405 = .ok (.iconst 1, 1) ∧ decode cL_law 406 = .ok (.iadd, 1) ∧ decode cL_law 407 = .ok (.iaload, 1) ∧ decode cL_law 408 = .ok (.invokevirtual 48, 3) ∧ decode cL_law 411 = .ok (.pop, 1) ∧ decode cL_law 412 = .ok (.aload_n 2, 1) ∧ decode cL_law 413 = .ok (.aload_n 0, 1) ∧ decode cL_law 414 = .ok (.iload_n 3, 1) ∧ decode cL_law 415 = .ok (.iconst 1, 1) := by decide +kernel
theorem dL_law_404 : decode cL_law 404 = .ok (.iload_n 3, 1) := gd_L_law_404.1
theorem dL_law_405 : decode cL_law 405 = .ok (.iconst 1, 1) := gd_L_law_404.2.1
theorem dL_law_406 : decode cL_law 406 = .ok (.iadd, 1) := gd_L_law_404.2.2.1
theorem dL_law_407 : decode cL_law 407 = .ok (.iaload, 1) := gd_L_law_404.2.2.2.1
theorem dL_law_408 : decode cL_law 408 = .ok (.invokevirtual 48, 3) := gd_L_law_404.2.2.2.2.1
theorem dL_law_411 : decode cL_law 411 = .ok (.pop, 1) := gd_L_law_404.2.2.2.2.2.1
theorem dL_law_412 : decode cL_law 412 = .ok (.aload_n 2, 1) := gd_L_law_404.2.2.2.2.2.2.1
theorem dL_law_413 : decode cL_law 413 = .ok (.aload_n 0, 1) := gd_L_law_404.2.2.2.2.2.2.2.1
theorem dL_law_414 : decode cL_law 414 = .ok (.iload_n 3, 1) := gd_L_law_404.2.2.2.2.2.2.2.2.1
theorem dL_law_415 : decode cL_law 415 = .ok (.iconst 1, 1) := gd_L_law_404.2.2.2.2.2.2.2.2.2
theorem gd_L_law_416 : decode cL_law 416 = .ok (.iadd, 1) ∧ decode cL_law 417 = .ok (.iaload, 1) ∧ decode cL_law 418 = .ok (.invokevirtual 51, 3) ∧ decode cL_law 421 = .ok (.pop, 1) ∧ decode cL_law 422 = .ok (.goto 411, 3) ∧ decode cL_law 425 = .ok (.aload_n 1, 1) ∧ decode cL_law 426 = .ok (.aload_n 0, 1) ∧ decode cL_law 427 = .ok (.iload_n 3, 1) ∧ decode cL_law 428 = .ok (.iconst 1, 1) ∧ decode cL_law 429 = .ok (.iadd, 1) := by decide +kernel
theorem dL_law_416 : decode cL_law 416 = .ok (.iadd, 1) := gd_L_law_416.1
theorem dL_law_417 : decode cL_law 417 = .ok (.iaload, 1) := gd_L_law_416.2.1
theorem dL_law_418 : decode cL_law 418 = .ok (.invokevirtual 51, 3) := gd_L_law_416.2.2.1
theorem dL_law_421 : decode cL_law 421 = .ok (.pop, 1) := gd_L_law_416.2.2.2.1
theorem dL_law_422 : decode cL_law 422 = .ok (.goto 411, 3) := gd_L_law_416.2.2.2.2.1
theorem dL_law_425 : decode cL_law 425 = .ok (.aload_n 1, 1) := gd_L_law_416.2.2.2.2.2.1
theorem dL_law_426 : decode cL_law 426 = .ok (.aload_n 0, 1) := gd_L_law_416.2.2.2.2.2.2.1
theorem dL_law_427 : decode cL_law 427 = .ok (.iload_n 3, 1) := gd_L_law_416.2.2.2.2.2.2.2.1
theorem dL_law_428 : decode cL_law 428 = .ok (.iconst 1, 1) := gd_L_law_416.2.2.2.2.2.2.2.2.1
theorem dL_law_429 : decode cL_law 429 = .ok (.iadd, 1) := gd_L_law_416.2.2.2.2.2.2.2.2.2
theorem gd_L_law_430 : decode cL_law 430 = .ok (.iaload, 1) ∧ decode cL_law 431 = .ok (.aload_n 0, 1) ∧ decode cL_law 432 = .ok (.iload_n 3, 1) ∧ decode cL_law 433 = .ok (.iconst 2, 1) ∧ decode cL_law 434 = .ok (.iadd, 1) ∧ decode cL_law 435 = .ok (.iaload, 1) ∧ decode cL_law 436 = .ok (.invokevirtual 52, 3) ∧ decode cL_law 439 = .ok (.pop, 1) ∧ decode cL_law 440 = .ok (.aload_n 2, 1) ∧ decode cL_law 441 = .ok (.aload_n 0, 1) := by decide +kernel
theorem dL_law_430 : decode cL_law 430 = .ok (.iaload, 1) := gd_L_law_430.1
theorem dL_law_431 : decode cL_law 431 = .ok (.aload_n 0, 1) := gd_L_law_430.2.1
theorem dL_law_432 : decode cL_law 432 = .ok (.iload_n 3, 1) := gd_L_law_430.2.2.1
theorem dL_law_433 : decode cL_law 433 = .ok (.iconst 2, 1) := gd_L_law_430.2.2.2.1
theorem dL_law_434 : decode cL_law 434 = .ok (.iadd, 1) := gd_L_law_430.2.2.2.2.1
theorem dL_law_435 : decode cL_law 435 = .ok (.iaload, 1) := gd_L_law_430.2.2.2.2.2.1
theorem dL_law_436 : decode cL_law 436 = .ok (.invokevirtual 52, 3) := gd_L_law_430.2.2.2.2.2.2.1
theorem dL_law_439 : decode cL_law 439 = .ok (.pop, 1) := gd_L_law_430.2.2.2.2.2.2.2.1
theorem dL_law_440 : decode cL_law 440 = .ok (.aload_n 2, 1) := gd_L_law_430.2.2.2.2.2.2.2.2.1
theorem dL_law_441 : decode cL_law 441 = .ok (.aload_n 0, 1) := gd_L_law_430.2.2.2.2.2.2.2.2.2
theorem gd_L_law_442 : decode cL_law 442 = .ok (.iload_n 3, 1) ∧ decode cL_law 443 = .ok (.iconst 1, 1) ∧ decode cL_law 444 = .ok (.iadd, 1) ∧ decode cL_law 445 = .ok (.iaload, 1) ∧ decode cL_law 446 = .ok (.aload_n 0, 1) ∧ decode cL_law 447 = .ok (.iload_n 3, 1) ∧ decode cL_law 448 = .ok (.iconst 2, 1) ∧ decode cL_law 449 = .ok (.iadd, 1) ∧ decode cL_law 450 = .ok (.iaload, 1) ∧ decode cL_law 451 = .ok (.invokevirtual 55, 3) := by decide +kernel
theorem dL_law_442 : decode cL_law 442 = .ok (.iload_n 3, 1) := gd_L_law_442.1
theorem dL_law_443 : decode cL_law 443 = .ok (.iconst 1, 1) := gd_L_law_442.2.1
theorem dL_law_444 : decode cL_law 444 = .ok (.iadd, 1) := gd_L_law_442.2.2.1
theorem dL_law_445 : decode cL_law 445 = .ok (.iaload, 1) := gd_L_law_442.2.2.2.1
theorem dL_law_446 : decode cL_law 446 = .ok (.aload_n 0, 1) := gd_L_law_442.2.2.2.2.1
theorem dL_law_447 : decode cL_law 447 = .ok (.iload_n 3, 1) := gd_L_law_442.2.2.2.2.2.1
theorem dL_law_448 : decode cL_law 448 = .ok (.iconst 2, 1) := gd_L_law_442.2.2.2.2.2.2.1
theorem dL_law_449 : decode cL_law 449 = .ok (.iadd, 1) := gd_L_law_442.2.2.2.2.2.2.2.1
theorem dL_law_450 : decode cL_law 450 = .ok (.iaload, 1) := gd_L_law_442.2.2.2.2.2.2.2.2.1
theorem dL_law_451 : decode cL_law 451 = .ok (.invokevirtual 55, 3) := gd_L_law_442.2.2.2.2.2.2.2.2.2
theorem gd_L_law_454 : decode cL_law 454 = .ok (.pop, 1) ∧ decode cL_law 455 = .ok (.goto 378, 3) ∧ decode cL_law 458 = .ok (.aload_n 1, 1) ∧ decode cL_law 459 = .ok (.invokevirtual 56, 3) ∧ decode cL_law 462 = .ok (.pop, 1) ∧ decode cL_law 463 = .ok (.aload_n 2, 1) ∧ decode cL_law 464 = .ok (.invokevirtual 60, 3) ∧ decode cL_law 467 = .ok (.pop, 1) ∧ decode cL_law 468 = .ok (.goto 365, 3) ∧ decode cL_law 471 = .ok (.aload_n 1, 1) := by decide +kernel
theorem dL_law_454 : decode cL_law 454 = .ok (.pop, 1) := gd_L_law_454.1
theorem dL_law_455 : decode cL_law 455 = .ok (.goto 378, 3) := gd_L_law_454.2.1
theorem dL_law_458 : decode cL_law 458 = .ok (.aload_n 1, 1) := gd_L_law_454.2.2.1
theorem dL_law_459 : decode cL_law 459 = .ok (.invokevirtual 56, 3) := gd_L_law_454.2.2.2.1
theorem dL_law_462 : decode cL_law 462 = .ok (.pop, 1) := gd_L_law_454.2.2.2.2.1
theorem dL_law_463 : decode cL_law 463 = .ok (.aload_n 2, 1) := gd_L_law_454.2.2.2.2.2.1
theorem dL_law_464 : decode cL_law 464 = .ok (.invokevirtual 60, 3) := gd_L_law_454.2.2.2.2.2.2.1
theorem dL_law_467 : decode cL_law 467 = .ok (.pop, 1) := gd_L_law_454.2.2.2.2.2.2.2.1
theorem dL_law_468 : decode cL_law 468 = .ok (.goto 365, 3) := gd_L_law_454.2.2.2.2.2.2.2.2.1
theorem dL_law_471 : decode cL_law 471 = .ok (.aload_n 1, 1) := gd_L_law_454.2.2.2.2.2.2.2.2.2
theorem gd_L_law_472 : decode cL_law 472 = .ok (.aload_n 0, 1) ∧ decode cL_law 473 = .ok (.iload_n 3, 1) ∧ decode cL_law 474 = .ok (.iconst 1, 1) ∧ decode cL_law 475 = .ok (.iadd, 1) ∧ decode cL_law 476 = .ok (.iaload, 1) ∧ decode cL_law 477 = .ok (.aload_n 0, 1) ∧ decode cL_law 478 = .ok (.iload_n 3, 1) ∧ decode cL_law 479 = .ok (.iconst 2, 1) ∧ decode cL_law 480 = .ok (.iadd, 1) ∧ decode cL_law 481 = .ok (.iaload, 1) := by decide +kernel
theorem dL_law_472 : decode cL_law 472 = .ok (.aload_n 0, 1) := gd_L_law_472.1
theorem dL_law_473 : decode cL_law 473 = .ok (.iload_n 3, 1) := gd_L_law_472.2.1
theorem dL_law_474 : decode cL_law 474 = .ok (.iconst 1, 1) := gd_L_law_472.2.2.1
theorem dL_law_475 : decode cL_law 475 = .ok (.iadd, 1) := gd_L_law_472.2.2.2.1
theorem dL_law_476 : decode cL_law 476 = .ok (.iaload, 1) := gd_L_law_472.2.2.2.2.1
theorem dL_law_477 : decode cL_law 477 = .ok (.aload_n 0, 1) := gd_L_law_472.2.2.2.2.2.1
theorem dL_law_478 : decode cL_law 478 = .ok (.iload_n 3, 1) := gd_L_law_472.2.2.2.2.2.2.1
theorem dL_law_479 : decode cL_law 479 = .ok (.iconst 2, 1) := gd_L_law_472.2.2.2.2.2.2.2.1
theorem dL_law_480 : decode cL_law 480 = .ok (.iadd, 1) := gd_L_law_472.2.2.2.2.2.2.2.2.1
theorem dL_law_481 : decode cL_law 481 = .ok (.iaload, 1) := gd_L_law_472.2.2.2.2.2.2.2.2.2
theorem gd_L_law_482 : decode cL_law 482 = .ok (.invokevirtual 61, 3) ∧ decode cL_law 485 = .ok (.pop, 1) ∧ decode cL_law 486 = .ok (.aload_n 2, 1) ∧ decode cL_law 487 = .ok (.aload_n 0, 1) ∧ decode cL_law 488 = .ok (.iload_n 3, 1) ∧ decode cL_law 489 = .ok (.iconst 1, 1) ∧ decode cL_law 490 = .ok (.iadd, 1) ∧ decode cL_law 491 = .ok (.iaload, 1) ∧ decode cL_law 492 = .ok (.aload_n 0, 1) ∧ decode cL_law 493 = .ok (.iload_n 3, 1) := by decide +kernel
theorem dL_law_482 : decode cL_law 482 = .ok (.invokevirtual 61, 3) := gd_L_law_482.1
theorem dL_law_485 : decode cL_law 485 = .ok (.pop, 1) := gd_L_law_482.2.1
theorem dL_law_486 : decode cL_law 486 = .ok (.aload_n 2, 1) := gd_L_law_482.2.2.1
theorem dL_law_487 : decode cL_law 487 = .ok (.aload_n 0, 1) := gd_L_law_482.2.2.2.1
theorem dL_law_488 : decode cL_law 488 = .ok (.iload_n 3, 1) := gd_L_law_482.2.2.2.2.1
theorem dL_law_489 : decode cL_law 489 = .ok (.iconst 1, 1) := gd_L_law_482.2.2.2.2.2.1
theorem dL_law_490 : decode cL_law 490 = .ok (.iadd, 1) := gd_L_law_482.2.2.2.2.2.2.1
theorem dL_law_491 : decode cL_law 491 = .ok (.iaload, 1) := gd_L_law_482.2.2.2.2.2.2.2.1
theorem dL_law_492 : decode cL_law 492 = .ok (.aload_n 0, 1) := gd_L_law_482.2.2.2.2.2.2.2.2.1
theorem dL_law_493 : decode cL_law 493 = .ok (.iload_n 3, 1) := gd_L_law_482.2.2.2.2.2.2.2.2.2
theorem gd_L_law_494 : decode cL_law 494 = .ok (.iconst 2, 1) ∧ decode cL_law 495 = .ok (.iadd, 1) ∧ decode cL_law 496 = .ok (.iaload, 1) ∧ decode cL_law 497 = .ok (.invokevirtual 64, 3) ∧ decode cL_law 500 = .ok (.pop, 1) ∧ decode cL_law 501 = .ok (.goto 332, 3) ∧ decode cL_law 504 = .ok (.aload_n 1, 1) ∧ decode cL_law 505 = .ok (.aload_n 0, 1) ∧ decode cL_law 506 = .ok (.iload_n 3, 1) ∧ decode cL_law 507 = .ok (.iconst 1, 1) := by decide +kernel
theorem dL_law_494 : decode cL_law 494 = .ok (.iconst 2, 1) := gd_L_law_494.1
theorem dL_law_495 : decode cL_law 495 = .ok (.iadd, 1) := gd_L_law_494.2.1
theorem dL_law_496 : decode cL_law 496 = .ok (.iaload, 1) := gd_L_law_494.2.2.1
theorem dL_law_497 : decode cL_law 497 = .ok (.invokevirtual 64, 3) := gd_L_law_494.2.2.2.1
theorem dL_law_500 : decode cL_law 500 = .ok (.pop, 1) := gd_L_law_494.2.2.2.2.1
theorem dL_law_501 : decode cL_law 501 = .ok (.goto 332, 3) := gd_L_law_494.2.2.2.2.2.1
theorem dL_law_504 : decode cL_law 504 = .ok (.aload_n 1, 1) := gd_L_law_494.2.2.2.2.2.2.1
theorem dL_law_505 : decode cL_law 505 = .ok (.aload_n 0, 1) := gd_L_law_494.2.2.2.2.2.2.2.1
theorem dL_law_506 : decode cL_law 506 = .ok (.iload_n 3, 1) := gd_L_law_494.2.2.2.2.2.2.2.2.1
theorem dL_law_507 : decode cL_law 507 = .ok (.iconst 1, 1) := gd_L_law_494.2.2.2.2.2.2.2.2.2
theorem gd_L_law_508 : decode cL_law 508 = .ok (.iadd, 1) ∧ decode cL_law 509 = .ok (.iaload, 1) ∧ decode cL_law 510 = .ok (.invokevirtual 65, 3) ∧ decode cL_law 513 = .ok (.pop, 1) ∧ decode cL_law 514 = .ok (.aload_n 2, 1) ∧ decode cL_law 515 = .ok (.aload_n 0, 1) ∧ decode cL_law 516 = .ok (.iload_n 3, 1) ∧ decode cL_law 517 = .ok (.iconst 1, 1) ∧ decode cL_law 518 = .ok (.iadd, 1) ∧ decode cL_law 519 = .ok (.iaload, 1) := by decide +kernel
theorem dL_law_508 : decode cL_law 508 = .ok (.iadd, 1) := gd_L_law_508.1
theorem dL_law_509 : decode cL_law 509 = .ok (.iaload, 1) := gd_L_law_508.2.1
theorem dL_law_510 : decode cL_law 510 = .ok (.invokevirtual 65, 3) := gd_L_law_508.2.2.1
theorem dL_law_513 : decode cL_law 513 = .ok (.pop, 1) := gd_L_law_508.2.2.2.1
theorem dL_law_514 : decode cL_law 514 = .ok (.aload_n 2, 1) := gd_L_law_508.2.2.2.2.1
theorem dL_law_515 : decode cL_law 515 = .ok (.aload_n 0, 1) := gd_L_law_508.2.2.2.2.2.1
theorem dL_law_516 : decode cL_law 516 = .ok (.iload_n 3, 1) := gd_L_law_508.2.2.2.2.2.2.1
theorem dL_law_517 : decode cL_law 517 = .ok (.iconst 1, 1) := gd_L_law_508.2.2.2.2.2.2.2.1
theorem dL_law_518 : decode cL_law 518 = .ok (.iadd, 1) := gd_L_law_508.2.2.2.2.2.2.2.2.1
theorem dL_law_519 : decode cL_law 519 = .ok (.iaload, 1) := gd_L_law_508.2.2.2.2.2.2.2.2.2
theorem gd_L_law_520 : decode cL_law 520 = .ok (.invokevirtual 68, 3) ∧ decode cL_law 523 = .ok (.pop, 1) ∧ decode cL_law 524 = .ok (.goto 309, 3) ∧ decode cL_law 527 = .ok (.aload_n 1, 1) ∧ decode cL_law 528 = .ok (.aload_n 0, 1) ∧ decode cL_law 529 = .ok (.iload_n 3, 1) ∧ decode cL_law 530 = .ok (.iconst 1, 1) ∧ decode cL_law 531 = .ok (.iadd, 1) ∧ decode cL_law 532 = .ok (.iaload, 1) ∧ decode cL_law 533 = .ok (.invokevirtual 69, 3) := by decide +kernel
theorem dL_law_520 : decode cL_law 520 = .ok (.invokevirtual 68, 3) := gd_L_law_520.1
theorem dL_law_523 : decode cL_law 523 = .ok (.pop, 1) := gd_L_law_520.2.1
theorem dL_law_524 : decode cL_law 524 = .ok (.goto 309, 3) := gd_L_law_520.2.2.1
theorem dL_law_527 : decode cL_law 527 = .ok (.aload_n 1, 1) := gd_L_law_520.2.2.2.1
theorem dL_law_528 : decode cL_law 528 = .ok (.aload_n 0, 1) := gd_L_law_520.2.2.2.2.1
theorem dL_law_529 : decode cL_law 529 = .ok (.iload_n 3, 1) := gd_L_law_520.2.2.2.2.2.1
theorem dL_law_530 : decode cL_law 530 = .ok (.iconst 1, 1) := gd_L_law_520.2.2.2.2.2.2.1
theorem dL_law_531 : decode cL_law 531 = .ok (.iadd, 1) := gd_L_law_520.2.2.2.2.2.2.2.1
theorem dL_law_532 : decode cL_law 532 = .ok (.iaload, 1) := gd_L_law_520.2.2.2.2.2.2.2.2.1
theorem dL_law_533 : decode cL_law 533 = .ok (.invokevirtual 69, 3) := gd_L_law_520.2.2.2.2.2.2.2.2.2
theorem gd_L_law_536 : decode cL_law 536 = .ok (.pop, 1) ∧ decode cL_law 537 = .ok (.aload_n 2, 1) ∧ decode cL_law 538 = .ok (.aload_n 0, 1) ∧ decode cL_law 539 = .ok (.iload_n 3, 1) ∧ decode cL_law 540 = .ok (.iconst 1, 1) ∧ decode cL_law 541 = .ok (.iadd, 1) ∧ decode cL_law 542 = .ok (.iaload, 1) ∧ decode cL_law 543 = .ok (.invokevirtual 72, 3) ∧ decode cL_law 546 = .ok (.pop, 1) ∧ decode cL_law 547 = .ok (.goto 286, 3) := by decide +kernel
theorem dL_law_536 : decode cL_law 536 = .ok (.pop, 1) := gd_L_law_536.1
theorem dL_law_537 : decode cL_law 537 = .ok (.aload_n 2, 1) := gd_L_law_536.2.1
theorem dL_law_538 : decode cL_law 538 = .ok (.aload_n 0, 1) := gd_L_law_536.2.2.1
theorem dL_law_539 : decode cL_law 539 = .ok (.iload_n 3, 1) := gd_L_law_536.2.2.2.1
theorem dL_law_540 : decode cL_law 540 = .ok (.iconst 1, 1) := gd_L_law_536.2.2.2.2.1
theorem dL_law_541 : decode cL_law 541 = .ok (.iadd, 1) := gd_L_law_536.2.2.2.2.2.1
theorem dL_law_542 : decode cL_law 542 = .ok (.iaload, 1) := gd_L_law_536.2.2.2.2.2.2.1
theorem dL_law_543 : decode cL_law 543 = .ok (.invokevirtual 72, 3) := gd_L_law_536.2.2.2.2.2.2.2.1
theorem dL_law_546 : decode cL_law 546 = .ok (.pop, 1) := gd_L_law_536.2.2.2.2.2.2.2.2.1
theorem dL_law_547 : decode cL_law 547 = .ok (.goto 286, 3) := gd_L_law_536.2.2.2.2.2.2.2.2.2
theorem gd_L_law_550 : decode cL_law 550 = .ok (.aload_n 1, 1) ∧ decode cL_law 551 = .ok (.aload_n 0, 1) ∧ decode cL_law 552 = .ok (.iload_n 3, 1) ∧ decode cL_law 553 = .ok (.iconst 1, 1) ∧ decode cL_law 554 = .ok (.iadd, 1) ∧ decode cL_law 555 = .ok (.iaload, 1) ∧ decode cL_law 556 = .ok (.invokevirtual 73, 3) ∧ decode cL_law 559 = .ok (.pop, 1) ∧ decode cL_law 560 = .ok (.aload_n 2, 1) ∧ decode cL_law 561 = .ok (.aload_n 0, 1) := by decide +kernel
theorem dL_law_550 : decode cL_law 550 = .ok (.aload_n 1, 1) := gd_L_law_550.1
theorem dL_law_551 : decode cL_law 551 = .ok (.aload_n 0, 1) := gd_L_law_550.2.1
theorem dL_law_552 : decode cL_law 552 = .ok (.iload_n 3, 1) := gd_L_law_550.2.2.1
theorem dL_law_553 : decode cL_law 553 = .ok (.iconst 1, 1) := gd_L_law_550.2.2.2.1
theorem dL_law_554 : decode cL_law 554 = .ok (.iadd, 1) := gd_L_law_550.2.2.2.2.1
theorem dL_law_555 : decode cL_law 555 = .ok (.iaload, 1) := gd_L_law_550.2.2.2.2.2.1
theorem dL_law_556 : decode cL_law 556 = .ok (.invokevirtual 73, 3) := gd_L_law_550.2.2.2.2.2.2.1
theorem dL_law_559 : decode cL_law 559 = .ok (.pop, 1) := gd_L_law_550.2.2.2.2.2.2.2.1
theorem dL_law_560 : decode cL_law 560 = .ok (.aload_n 2, 1) := gd_L_law_550.2.2.2.2.2.2.2.2.1
theorem dL_law_561 : decode cL_law 561 = .ok (.aload_n 0, 1) := gd_L_law_550.2.2.2.2.2.2.2.2.2
theorem gd_L_law_562 : decode cL_law 562 = .ok (.iload_n 3, 1) ∧ decode cL_law 563 = .ok (.iconst 1, 1) ∧ decode cL_law 564 = .ok (.iadd, 1) ∧ decode cL_law 565 = .ok (.iaload, 1) ∧ decode cL_law 566 = .ok (.invokevirtual 76, 3) ∧ decode cL_law 569 = .ok (.pop, 1) ∧ decode cL_law 570 = .ok (.goto 263, 3) ∧ decode cL_law 573 = .ok (.aload_n 1, 1) ∧ decode cL_law 574 = .ok (.aload_n 0, 1) ∧ decode cL_law 575 = .ok (.iload_n 3, 1) := by decide +kernel
theorem dL_law_562 : decode cL_law 562 = .ok (.iload_n 3, 1) := gd_L_law_562.1
theorem dL_law_563 : decode cL_law 563 = .ok (.iconst 1, 1) := gd_L_law_562.2.1
theorem dL_law_564 : decode cL_law 564 = .ok (.iadd, 1) := gd_L_law_562.2.2.1
theorem dL_law_565 : decode cL_law 565 = .ok (.iaload, 1) := gd_L_law_562.2.2.2.1
theorem dL_law_566 : decode cL_law 566 = .ok (.invokevirtual 76, 3) := gd_L_law_562.2.2.2.2.1
theorem dL_law_569 : decode cL_law 569 = .ok (.pop, 1) := gd_L_law_562.2.2.2.2.2.1
theorem dL_law_570 : decode cL_law 570 = .ok (.goto 263, 3) := gd_L_law_562.2.2.2.2.2.2.1
theorem dL_law_573 : decode cL_law 573 = .ok (.aload_n 1, 1) := gd_L_law_562.2.2.2.2.2.2.2.1
theorem dL_law_574 : decode cL_law 574 = .ok (.aload_n 0, 1) := gd_L_law_562.2.2.2.2.2.2.2.2.1
theorem dL_law_575 : decode cL_law 575 = .ok (.iload_n 3, 1) := gd_L_law_562.2.2.2.2.2.2.2.2.2
theorem gd_L_law_576 : decode cL_law 576 = .ok (.iconst 1, 1) ∧ decode cL_law 577 = .ok (.iadd, 1) ∧ decode cL_law 578 = .ok (.iaload, 1) ∧ decode cL_law 579 = .ok (.invokevirtual 77, 3) ∧ decode cL_law 582 = .ok (.pop, 1) ∧ decode cL_law 583 = .ok (.aload_n 2, 1) ∧ decode cL_law 584 = .ok (.aload_n 0, 1) ∧ decode cL_law 585 = .ok (.iload_n 3, 1) ∧ decode cL_law 586 = .ok (.iconst 1, 1) ∧ decode cL_law 587 = .ok (.iadd, 1) := by decide +kernel
theorem dL_law_576 : decode cL_law 576 = .ok (.iconst 1, 1) := gd_L_law_576.1
theorem dL_law_577 : decode cL_law 577 = .ok (.iadd, 1) := gd_L_law_576.2.1
theorem dL_law_578 : decode cL_law 578 = .ok (.iaload, 1) := gd_L_law_576.2.2.1
theorem dL_law_579 : decode cL_law 579 = .ok (.invokevirtual 77, 3) := gd_L_law_576.2.2.2.1
theorem dL_law_582 : decode cL_law 582 = .ok (.pop, 1) := gd_L_law_576.2.2.2.2.1
theorem dL_law_583 : decode cL_law 583 = .ok (.aload_n 2, 1) := gd_L_law_576.2.2.2.2.2.1
theorem dL_law_584 : decode cL_law 584 = .ok (.aload_n 0, 1) := gd_L_law_576.2.2.2.2.2.2.1
theorem dL_law_585 : decode cL_law 585 = .ok (.iload_n 3, 1) := gd_L_law_576.2.2.2.2.2.2.2.1
theorem dL_law_586 : decode cL_law 586 = .ok (.iconst 1, 1) := gd_L_law_576.2.2.2.2.2.2.2.2.1
theorem dL_law_587 : decode cL_law 587 = .ok (.iadd, 1) := gd_L_law_576.2.2.2.2.2.2.2.2.2
theorem gd_L_law_588 : decode cL_law 588 = .ok (.iaload, 1) ∧ decode cL_law 589 = .ok (.invokevirtual 80, 3) ∧ decode cL_law 592 = .ok (.pop, 1) ∧ decode cL_law 593 = .ok (.goto 240, 3) ∧ decode cL_law 596 = .ok (.aload_n 1, 1) ∧ decode cL_law 597 = .ok (.aload_n 0, 1) ∧ decode cL_law 598 = .ok (.iload_n 3, 1) ∧ decode cL_law 599 = .ok (.iconst 1, 1) ∧ decode cL_law 600 = .ok (.iadd, 1) ∧ decode cL_law 601 = .ok (.iaload, 1) := by decide +kernel
theorem dL_law_588 : decode cL_law 588 = .ok (.iaload, 1) := gd_L_law_588.1
theorem dL_law_589 : decode cL_law 589 = .ok (.invokevirtual 80, 3) := gd_L_law_588.2.1
theorem dL_law_592 : decode cL_law 592 = .ok (.pop, 1) := gd_L_law_588.2.2.1
theorem dL_law_593 : decode cL_law 593 = .ok (.goto 240, 3) := gd_L_law_588.2.2.2.1
theorem dL_law_596 : decode cL_law 596 = .ok (.aload_n 1, 1) := gd_L_law_588.2.2.2.2.1
theorem dL_law_597 : decode cL_law 597 = .ok (.aload_n 0, 1) := gd_L_law_588.2.2.2.2.2.1
theorem dL_law_598 : decode cL_law 598 = .ok (.iload_n 3, 1) := gd_L_law_588.2.2.2.2.2.2.1
theorem dL_law_599 : decode cL_law 599 = .ok (.iconst 1, 1) := gd_L_law_588.2.2.2.2.2.2.2.1
theorem dL_law_600 : decode cL_law 600 = .ok (.iadd, 1) := gd_L_law_588.2.2.2.2.2.2.2.2.1
theorem dL_law_601 : decode cL_law 601 = .ok (.iaload, 1) := gd_L_law_588.2.2.2.2.2.2.2.2.2
theorem gd_L_law_602 : decode cL_law 602 = .ok (.invokevirtual 81, 3) ∧ decode cL_law 605 = .ok (.pop, 1) ∧ decode cL_law 606 = .ok (.aload_n 2, 1) ∧ decode cL_law 607 = .ok (.aload_n 0, 1) ∧ decode cL_law 608 = .ok (.iload_n 3, 1) ∧ decode cL_law 609 = .ok (.iconst 1, 1) ∧ decode cL_law 610 = .ok (.iadd, 1) ∧ decode cL_law 611 = .ok (.iaload, 1) ∧ decode cL_law 612 = .ok (.invokevirtual 84, 3) ∧ decode cL_law 615 = .ok (.pop, 1) := by decide +kernel
theorem dL_law_602 : decode cL_law 602 = .ok (.invokevirtual 81, 3) := gd_L_law_602.1
theorem dL_law_605 : decode cL_law 605 = .ok (.pop, 1) := gd_L_law_602.2.1
theorem dL_law_606 : decode cL_law 606 = .ok (.aload_n 2, 1) := gd_L_law_602.2.2.1
theorem dL_law_607 : decode cL_law 607 = .ok (.aload_n 0, 1) := gd_L_law_602.2.2.2.1
theorem dL_law_608 : decode cL_law 608 = .ok (.iload_n 3, 1) := gd_L_law_602.2.2.2.2.1
theorem dL_law_609 : decode cL_law 609 = .ok (.iconst 1, 1) := gd_L_law_602.2.2.2.2.2.1
theorem dL_law_610 : decode cL_law 610 = .ok (.iadd, 1) := gd_L_law_602.2.2.2.2.2.2.1
theorem dL_law_611 : decode cL_law 611 = .ok (.iaload, 1) := gd_L_law_602.2.2.2.2.2.2.2.1
theorem dL_law_612 : decode cL_law 612 = .ok (.invokevirtual 84, 3) := gd_L_law_602.2.2.2.2.2.2.2.2.1
theorem dL_law_615 : decode cL_law 615 = .ok (.pop, 1) := gd_L_law_602.2.2.2.2.2.2.2.2.2
theorem gd_L_law_616 : decode cL_law 616 = .ok (.goto 217, 3) ∧ decode cL_law 619 = .ok (.aload_n 1, 1) ∧ decode cL_law 620 = .ok (.aload_n 0, 1) ∧ decode cL_law 621 = .ok (.iload_n 3, 1) ∧ decode cL_law 622 = .ok (.iconst 1, 1) ∧ decode cL_law 623 = .ok (.iadd, 1) ∧ decode cL_law 624 = .ok (.iaload, 1) ∧ decode cL_law 625 = .ok (.aload_n 0, 1) ∧ decode cL_law 626 = .ok (.iload_n 3, 1) ∧ decode cL_law 627 = .ok (.iconst 2, 1) := by decide +kernel
theorem dL_law_616 : decode cL_law 616 = .ok (.goto 217, 3) := gd_L_law_616.1
theorem dL_law_619 : decode cL_law 619 = .ok (.aload_n 1, 1) := gd_L_law_616.2.1
theorem dL_law_620 : decode cL_law 620 = .ok (.aload_n 0, 1) := gd_L_law_616.2.2.1
theorem dL_law_621 : decode cL_law 621 = .ok (.iload_n 3, 1) := gd_L_law_616.2.2.2.1
theorem dL_law_622 : decode cL_law 622 = .ok (.iconst 1, 1) := gd_L_law_616.2.2.2.2.1
theorem dL_law_623 : decode cL_law 623 = .ok (.iadd, 1) := gd_L_law_616.2.2.2.2.2.1
theorem dL_law_624 : decode cL_law 624 = .ok (.iaload, 1) := gd_L_law_616.2.2.2.2.2.2.1
theorem dL_law_625 : decode cL_law 625 = .ok (.aload_n 0, 1) := gd_L_law_616.2.2.2.2.2.2.2.1
theorem dL_law_626 : decode cL_law 626 = .ok (.iload_n 3, 1) := gd_L_law_616.2.2.2.2.2.2.2.2.1
theorem dL_law_627 : decode cL_law 627 = .ok (.iconst 2, 1) := gd_L_law_616.2.2.2.2.2.2.2.2.2
theorem gd_L_law_628 : decode cL_law 628 = .ok (.iadd, 1) ∧ decode cL_law 629 = .ok (.iaload, 1) ∧ decode cL_law 630 = .ok (.invokevirtual 85, 3) ∧ decode cL_law 633 = .ok (.pop, 1) ∧ decode cL_law 634 = .ok (.aload_n 2, 1) ∧ decode cL_law 635 = .ok (.aload_n 0, 1) ∧ decode cL_law 636 = .ok (.iload_n 3, 1) ∧ decode cL_law 637 = .ok (.iconst 1, 1) ∧ decode cL_law 638 = .ok (.iadd, 1) ∧ decode cL_law 639 = .ok (.iaload, 1) := by decide +kernel
theorem dL_law_628 : decode cL_law 628 = .ok (.iadd, 1) := gd_L_law_628.1
theorem dL_law_629 : decode cL_law 629 = .ok (.iaload, 1) := gd_L_law_628.2.1
theorem dL_law_630 : decode cL_law 630 = .ok (.invokevirtual 85, 3) := gd_L_law_628.2.2.1
theorem dL_law_633 : decode cL_law 633 = .ok (.pop, 1) := gd_L_law_628.2.2.2.1
theorem dL_law_634 : decode cL_law 634 = .ok (.aload_n 2, 1) := gd_L_law_628.2.2.2.2.1
theorem dL_law_635 : decode cL_law 635 = .ok (.aload_n 0, 1) := gd_L_law_628.2.2.2.2.2.1
theorem dL_law_636 : decode cL_law 636 = .ok (.iload_n 3, 1) := gd_L_law_628.2.2.2.2.2.2.1
theorem dL_law_637 : decode cL_law 637 = .ok (.iconst 1, 1) := gd_L_law_628.2.2.2.2.2.2.2.1
theorem dL_law_638 : decode cL_law 638 = .ok (.iadd, 1) := gd_L_law_628.2.2.2.2.2.2.2.2.1
theorem dL_law_639 : decode cL_law 639 = .ok (.iaload, 1) := gd_L_law_628.2.2.2.2.2.2.2.2.2
theorem gd_L_law_640 : decode cL_law 640 = .ok (.aload_n 0, 1) ∧ decode cL_law 641 = .ok (.iload_n 3, 1) ∧ decode cL_law 642 = .ok (.iconst 2, 1) ∧ decode cL_law 643 = .ok (.iadd, 1) ∧ decode cL_law 644 = .ok (.iaload, 1) ∧ decode cL_law 645 = .ok (.invokevirtual 88, 3) ∧ decode cL_law 648 = .ok (.pop, 1) ∧ decode cL_law 649 = .ok (.goto 184, 3) ∧ decode cL_law 652 = .ok (.aload_n 1, 1) ∧ decode cL_law 653 = .ok (.aload_n 0, 1) := by decide +kernel
theorem dL_law_640 : decode cL_law 640 = .ok (.aload_n 0, 1) := gd_L_law_640.1
theorem dL_law_641 : decode cL_law 641 = .ok (.iload_n 3, 1) := gd_L_law_640.2.1
theorem dL_law_642 : decode cL_law 642 = .ok (.iconst 2, 1) := gd_L_law_640.2.2.1
theorem dL_law_643 : decode cL_law 643 = .ok (.iadd, 1) := gd_L_law_640.2.2.2.1
theorem dL_law_644 : decode cL_law 644 = .ok (.iaload, 1) := gd_L_law_640.2.2.2.2.1
theorem dL_law_645 : decode cL_law 645 = .ok (.invokevirtual 88, 3) := gd_L_law_640.2.2.2.2.2.1
theorem dL_law_648 : decode cL_law 648 = .ok (.pop, 1) := gd_L_law_640.2.2.2.2.2.2.1
theorem dL_law_649 : decode cL_law 649 = .ok (.goto 184, 3) := gd_L_law_640.2.2.2.2.2.2.2.1
theorem dL_law_652 : decode cL_law 652 = .ok (.aload_n 1, 1) := gd_L_law_640.2.2.2.2.2.2.2.2.1
theorem dL_law_653 : decode cL_law 653 = .ok (.aload_n 0, 1) := gd_L_law_640.2.2.2.2.2.2.2.2.2
theorem gd_L_law_654 : decode cL_law 654 = .ok (.iload_n 3, 1) ∧ decode cL_law 655 = .ok (.iconst 1, 1) ∧ decode cL_law 656 = .ok (.iadd, 1) ∧ decode cL_law 657 = .ok (.iaload, 1) ∧ decode cL_law 658 = .ok (.aload_n 0, 1) ∧ decode cL_law 659 = .ok (.iload_n 3, 1) ∧ decode cL_law 660 = .ok (.iconst 2, 1) ∧ decode cL_law 661 = .ok (.iadd, 1) ∧ decode cL_law 662 = .ok (.iaload, 1) ∧ decode cL_law 663 = .ok (.invokevirtual 89, 3) := by decide +kernel
theorem dL_law_654 : decode cL_law 654 = .ok (.iload_n 3, 1) := gd_L_law_654.1
theorem dL_law_655 : decode cL_law 655 = .ok (.iconst 1, 1) := gd_L_law_654.2.1
theorem dL_law_656 : decode cL_law 656 = .ok (.iadd, 1) := gd_L_law_654.2.2.1
theorem dL_law_657 : decode cL_law 657 = .ok (.iaload, 1) := gd_L_law_654.2.2.2.1
theorem dL_law_658 : decode cL_law 658 = .ok (.aload_n 0, 1) := gd_L_law_654.2.2.2.2.1
theorem dL_law_659 : decode cL_law 659 = .ok (.iload_n 3, 1) := gd_L_law_654.2.2.2.2.2.1
theorem dL_law_660 : decode cL_law 660 = .ok (.iconst 2, 1) := gd_L_law_654.2.2.2.2.2.2.1
theorem dL_law_661 : decode cL_law 661 = .ok (.iadd, 1) := gd_L_law_654.2.2.2.2.2.2.2.1
theorem dL_law_662 : decode cL_law 662 = .ok (.iaload, 1) := gd_L_law_654.2.2.2.2.2.2.2.2.1
theorem dL_law_663 : decode cL_law 663 = .ok (.invokevirtual 89, 3) := gd_L_law_654.2.2.2.2.2.2.2.2.2
theorem gd_L_law_666 : decode cL_law 666 = .ok (.pop, 1) ∧ decode cL_law 667 = .ok (.aload_n 2, 1) ∧ decode cL_law 668 = .ok (.aload_n 0, 1) ∧ decode cL_law 669 = .ok (.iload_n 3, 1) ∧ decode cL_law 670 = .ok (.iconst 1, 1) ∧ decode cL_law 671 = .ok (.iadd, 1) ∧ decode cL_law 672 = .ok (.iaload, 1) ∧ decode cL_law 673 = .ok (.aload_n 0, 1) ∧ decode cL_law 674 = .ok (.iload_n 3, 1) ∧ decode cL_law 675 = .ok (.iconst 2, 1) := by decide +kernel
theorem dL_law_666 : decode cL_law 666 = .ok (.pop, 1) := gd_L_law_666.1
theorem dL_law_667 : decode cL_law 667 = .ok (.aload_n 2, 1) := gd_L_law_666.2.1
theorem dL_law_668 : decode cL_law 668 = .ok (.aload_n 0, 1) := gd_L_law_666.2.2.1
theorem dL_law_669 : decode cL_law 669 = .ok (.iload_n 3, 1) := gd_L_law_666.2.2.2.1
theorem dL_law_670 : decode cL_law 670 = .ok (.iconst 1, 1) := gd_L_law_666.2.2.2.2.1
theorem dL_law_671 : decode cL_law 671 = .ok (.iadd, 1) := gd_L_law_666.2.2.2.2.2.1
theorem dL_law_672 : decode cL_law 672 = .ok (.iaload, 1) := gd_L_law_666.2.2.2.2.2.2.1
theorem dL_law_673 : decode cL_law 673 = .ok (.aload_n 0, 1) := gd_L_law_666.2.2.2.2.2.2.2.1
theorem dL_law_674 : decode cL_law 674 = .ok (.iload_n 3, 1) := gd_L_law_666.2.2.2.2.2.2.2.2.1
theorem dL_law_675 : decode cL_law 675 = .ok (.iconst 2, 1) := gd_L_law_666.2.2.2.2.2.2.2.2.2
theorem gd_L_law_676 : decode cL_law 676 = .ok (.iadd, 1) ∧ decode cL_law 677 = .ok (.iaload, 1) ∧ decode cL_law 678 = .ok (.invokevirtual 92, 3) ∧ decode cL_law 681 = .ok (.pop, 1) ∧ decode cL_law 682 = .ok (.goto 151, 3) ∧ decode cL_law 685 = .ok (.aload_n 1, 1) ∧ decode cL_law 686 = .ok (.aload_n 0, 1) ∧ decode cL_law 687 = .ok (.iload_n 3, 1) ∧ decode cL_law 688 = .ok (.iconst 1, 1) ∧ decode cL_law 689 = .ok (.iadd, 1) := by decide +kernel
theorem dL_law_676 : decode cL_law 676 = .ok (.iadd, 1) := gd_L_law_676.1
theorem dL_law_677 : decode cL_law 677 = .ok (.iaload, 1) := gd_L_law_676.2.1
theorem dL_law_678 : decode cL_law 678 = .ok (.invokevirtual 92, 3) := gd_L_law_676.2.2.1
theorem dL_law_681 : decode cL_law 681 = .ok (.pop, 1) := gd_L_law_676.2.2.2.1
theorem dL_law_682 : decode cL_law 682 = .ok (.goto 151, 3) := gd_L_law_676.2.2.2.2.1
theorem dL_law_685 : decode cL_law 685 = .ok (.aload_n 1, 1) := gd_L_law_676.2.2.2.2.2.1
theorem dL_law_686 : decode cL_law 686 = .ok (.aload_n 0, 1) := gd_L_law_676.2.2.2.2.2.2.1
theorem dL_law_687 : decode cL_law 687 = .ok (.iload_n 3, 1) := gd_L_law_676.2.2.2.2.2.2.2.1
theorem dL_law_688 : decode cL_law 688 = .ok (.iconst 1, 1) := gd_L_law_676.2.2.2.2.2.2.2.2.1
theorem dL_law_689 : decode cL_law 689 = .ok (.iadd, 1) := gd_L_law_676.2.2.2.2.2.2.2.2.2
theorem gd_L_law_690 : decode cL_law 690 = .ok (.iaload, 1) ∧ decode cL_law 691 = .ok (.aload_n 0, 1) ∧ decode cL_law 692 = .ok (.iload_n 3, 1) ∧ decode cL_law 693 = .ok (.iconst 2, 1) ∧ decode cL_law 694 = .ok (.iadd, 1) ∧ decode cL_law 695 = .ok (.iaload, 1) ∧ decode cL_law 696 = .ok (.invokevirtual 93, 3) ∧ decode cL_law 699 = .ok (.pop, 1) ∧ decode cL_law 700 = .ok (.aload_n 2, 1) ∧ decode cL_law 701 = .ok (.aload_n 0, 1) := by decide +kernel
theorem dL_law_690 : decode cL_law 690 = .ok (.iaload, 1) := gd_L_law_690.1
theorem dL_law_691 : decode cL_law 691 = .ok (.aload_n 0, 1) := gd_L_law_690.2.1
theorem dL_law_692 : decode cL_law 692 = .ok (.iload_n 3, 1) := gd_L_law_690.2.2.1
theorem dL_law_693 : decode cL_law 693 = .ok (.iconst 2, 1) := gd_L_law_690.2.2.2.1
theorem dL_law_694 : decode cL_law 694 = .ok (.iadd, 1) := gd_L_law_690.2.2.2.2.1
theorem dL_law_695 : decode cL_law 695 = .ok (.iaload, 1) := gd_L_law_690.2.2.2.2.2.1
theorem dL_law_696 : decode cL_law 696 = .ok (.invokevirtual 93, 3) := gd_L_law_690.2.2.2.2.2.2.1
theorem dL_law_699 : decode cL_law 699 = .ok (.pop, 1) := gd_L_law_690.2.2.2.2.2.2.2.1
theorem dL_law_700 : decode cL_law 700 = .ok (.aload_n 2, 1) := gd_L_law_690.2.2.2.2.2.2.2.2.1
theorem dL_law_701 : decode cL_law 701 = .ok (.aload_n 0, 1) := gd_L_law_690.2.2.2.2.2.2.2.2.2
theorem gd_L_law_702 : decode cL_law 702 = .ok (.iload_n 3, 1) ∧ decode cL_law 703 = .ok (.iconst 1, 1) ∧ decode cL_law 704 = .ok (.iadd, 1) ∧ decode cL_law 705 = .ok (.iaload, 1) ∧ decode cL_law 706 = .ok (.aload_n 0, 1) ∧ decode cL_law 707 = .ok (.iload_n 3, 1) ∧ decode cL_law 708 = .ok (.iconst 2, 1) ∧ decode cL_law 709 = .ok (.iadd, 1) ∧ decode cL_law 710 = .ok (.iaload, 1) ∧ decode cL_law 711 = .ok (.invokevirtual 96, 3) := by decide +kernel
theorem dL_law_702 : decode cL_law 702 = .ok (.iload_n 3, 1) := gd_L_law_702.1
theorem dL_law_703 : decode cL_law 703 = .ok (.iconst 1, 1) := gd_L_law_702.2.1
theorem dL_law_704 : decode cL_law 704 = .ok (.iadd, 1) := gd_L_law_702.2.2.1
theorem dL_law_705 : decode cL_law 705 = .ok (.iaload, 1) := gd_L_law_702.2.2.2.1
theorem dL_law_706 : decode cL_law 706 = .ok (.aload_n 0, 1) := gd_L_law_702.2.2.2.2.1
theorem dL_law_707 : decode cL_law 707 = .ok (.iload_n 3, 1) := gd_L_law_702.2.2.2.2.2.1
theorem dL_law_708 : decode cL_law 708 = .ok (.iconst 2, 1) := gd_L_law_702.2.2.2.2.2.2.1
theorem dL_law_709 : decode cL_law 709 = .ok (.iadd, 1) := gd_L_law_702.2.2.2.2.2.2.2.1
theorem dL_law_710 : decode cL_law 710 = .ok (.iaload, 1) := gd_L_law_702.2.2.2.2.2.2.2.2.1
theorem dL_law_711 : decode cL_law 711 = .ok (.invokevirtual 96, 3) := gd_L_law_702.2.2.2.2.2.2.2.2.2
theorem gd_L_law_714 : decode cL_law 714 = .ok (.pop, 1) ∧ decode cL_law 715 = .ok (.goto 118, 3) ∧ decode cL_law 718 = .ok (.aload_n 1, 1) ∧ decode cL_law 719 = .ok (.aload_n 0, 1) ∧ decode cL_law 720 = .ok (.iload_n 3, 1) ∧ decode cL_law 721 = .ok (.iconst 1, 1) ∧ decode cL_law 722 = .ok (.iadd, 1) ∧ decode cL_law 723 = .ok (.iaload, 1) ∧ decode cL_law 724 = .ok (.invokevirtual 97, 3) ∧ decode cL_law 727 = .ok (.pop, 1) := by decide +kernel
theorem dL_law_714 : decode cL_law 714 = .ok (.pop, 1) := gd_L_law_714.1
theorem dL_law_715 : decode cL_law 715 = .ok (.goto 118, 3) := gd_L_law_714.2.1
theorem dL_law_718 : decode cL_law 718 = .ok (.aload_n 1, 1) := gd_L_law_714.2.2.1
theorem dL_law_719 : decode cL_law 719 = .ok (.aload_n 0, 1) := gd_L_law_714.2.2.2.1
theorem dL_law_720 : decode cL_law 720 = .ok (.iload_n 3, 1) := gd_L_law_714.2.2.2.2.1
theorem dL_law_721 : decode cL_law 721 = .ok (.iconst 1, 1) := gd_L_law_714.2.2.2.2.2.1
theorem dL_law_722 : decode cL_law 722 = .ok (.iadd, 1) := gd_L_law_714.2.2.2.2.2.2.1
theorem dL_law_723 : decode cL_law 723 = .ok (.iaload, 1) := gd_L_law_714.2.2.2.2.2.2.2.1
theorem dL_law_724 : decode cL_law 724 = .ok (.invokevirtual 97, 3) := gd_L_law_714.2.2.2.2.2.2.2.2.1
theorem dL_law_727 : decode cL_law 727 = .ok (.pop, 1) := gd_L_law_714.2.2.2.2.2.2.2.2.2
theorem gd_L_law_728 : decode cL_law 728 = .ok (.aload_n 2, 1) ∧ decode cL_law 729 = .ok (.aload_n 0, 1) ∧ decode cL_law 730 = .ok (.iload_n 3, 1) ∧ decode cL_law 731 = .ok (.iconst 1, 1) ∧ decode cL_law 732 = .ok (.iadd, 1) ∧ decode cL_law 733 = .ok (.iaload, 1) ∧ decode cL_law 734 = .ok (.invokevirtual 100, 3) ∧ decode cL_law 737 = .ok (.pop, 1) ∧ decode cL_law 738 = .ok (.goto 95, 3) ∧ decode cL_law 741 = .ok (.aload_n 1, 1) := by decide +kernel
theorem dL_law_728 : decode cL_law 728 = .ok (.aload_n 2, 1) := gd_L_law_728.1
theorem dL_law_729 : decode cL_law 729 = .ok (.aload_n 0, 1) := gd_L_law_728.2.1
theorem dL_law_730 : decode cL_law 730 = .ok (.iload_n 3, 1) := gd_L_law_728.2.2.1
theorem dL_law_731 : decode cL_law 731 = .ok (.iconst 1, 1) := gd_L_law_728.2.2.2.1
theorem dL_law_732 : decode cL_law 732 = .ok (.iadd, 1) := gd_L_law_728.2.2.2.2.1
theorem dL_law_733 : decode cL_law 733 = .ok (.iaload, 1) := gd_L_law_728.2.2.2.2.2.1
theorem dL_law_734 : decode cL_law 734 = .ok (.invokevirtual 100, 3) := gd_L_law_728.2.2.2.2.2.2.1
theorem dL_law_737 : decode cL_law 737 = .ok (.pop, 1) := gd_L_law_728.2.2.2.2.2.2.2.1
theorem dL_law_738 : decode cL_law 738 = .ok (.goto 95, 3) := gd_L_law_728.2.2.2.2.2.2.2.2.1
theorem dL_law_741 : decode cL_law 741 = .ok (.aload_n 1, 1) := gd_L_law_728.2.2.2.2.2.2.2.2.2
theorem gd_L_law_742 : decode cL_law 742 = .ok (.aload_n 0, 1) ∧ decode cL_law 743 = .ok (.iload_n 3, 1) ∧ decode cL_law 744 = .ok (.iconst 1, 1) ∧ decode cL_law 745 = .ok (.iadd, 1) ∧ decode cL_law 746 = .ok (.iaload, 1) ∧ decode cL_law 747 = .ok (.invokevirtual 101, 3) ∧ decode cL_law 750 = .ok (.pop, 1) ∧ decode cL_law 751 = .ok (.aload_n 2, 1) ∧ decode cL_law 752 = .ok (.aload_n 0, 1) ∧ decode cL_law 753 = .ok (.iload_n 3, 1) := by decide +kernel
theorem dL_law_742 : decode cL_law 742 = .ok (.aload_n 0, 1) := gd_L_law_742.1
theorem dL_law_743 : decode cL_law 743 = .ok (.iload_n 3, 1) := gd_L_law_742.2.1
theorem dL_law_744 : decode cL_law 744 = .ok (.iconst 1, 1) := gd_L_law_742.2.2.1
theorem dL_law_745 : decode cL_law 745 = .ok (.iadd, 1) := gd_L_law_742.2.2.2.1
theorem dL_law_746 : decode cL_law 746 = .ok (.iaload, 1) := gd_L_law_742.2.2.2.2.1
theorem dL_law_747 : decode cL_law 747 = .ok (.invokevirtual 101, 3) := gd_L_law_742.2.2.2.2.2.1
theorem dL_law_750 : decode cL_law 750 = .ok (.pop, 1) := gd_L_law_742.2.2.2.2.2.2.1
theorem dL_law_751 : decode cL_law 751 = .ok (.aload_n 2, 1) := gd_L_law_742.2.2.2.2.2.2.2.1
theorem dL_law_752 : decode cL_law 752 = .ok (.aload_n 0, 1) := gd_L_law_742.2.2.2.2.2.2.2.2.1
theorem dL_law_753 : decode cL_law 753 = .ok (.iload_n 3, 1) := gd_L_law_742.2.2.2.2.2.2.2.2.2
theorem gd_L_law_754 : decode cL_law 754 = .ok (.iconst 1, 1) ∧ decode cL_law 755 = .ok (.iadd, 1) ∧ decode cL_law 756 = .ok (.iaload, 1) ∧ decode cL_law 757 = .ok (.invokevirtual 104, 3) ∧ decode cL_law 760 = .ok (.pop, 1) ∧ decode cL_law 761 = .ok (.goto 72, 3) ∧ decode cL_law 764 = .ok (.aload_n 1, 1) ∧ decode cL_law 765 = .ok (.aload_n 0, 1) ∧ decode cL_law 766 = .ok (.iload_n 3, 1) ∧ decode cL_law 767 = .ok (.iconst 1, 1) := by decide +kernel
theorem dL_law_754 : decode cL_law 754 = .ok (.iconst 1, 1) := gd_L_law_754.1
theorem dL_law_755 : decode cL_law 755 = .ok (.iadd, 1) := gd_L_law_754.2.1
theorem dL_law_756 : decode cL_law 756 = .ok (.iaload, 1) := gd_L_law_754.2.2.1
theorem dL_law_757 : decode cL_law 757 = .ok (.invokevirtual 104, 3) := gd_L_law_754.2.2.2.1
theorem dL_law_760 : decode cL_law 760 = .ok (.pop, 1) := gd_L_law_754.2.2.2.2.1
theorem dL_law_761 : decode cL_law 761 = .ok (.goto 72, 3) := gd_L_law_754.2.2.2.2.2.1
theorem dL_law_764 : decode cL_law 764 = .ok (.aload_n 1, 1) := gd_L_law_754.2.2.2.2.2.2.1
theorem dL_law_765 : decode cL_law 765 = .ok (.aload_n 0, 1) := gd_L_law_754.2.2.2.2.2.2.2.1
theorem dL_law_766 : decode cL_law 766 = .ok (.iload_n 3, 1) := gd_L_law_754.2.2.2.2.2.2.2.2.1
theorem dL_law_767 : decode cL_law 767 = .ok (.iconst 1, 1) := gd_L_law_754.2.2.2.2.2.2.2.2.2
theorem gd_L_law_768 : decode cL_law 768 = .ok (.iadd, 1) ∧ decode cL_law 769 = .ok (.iaload, 1) ∧ decode cL_law 770 = .ok (.invokevirtual 105, 3) ∧ decode cL_law 773 = .ok (.pop, 1) ∧ decode cL_law 774 = .ok (.aload_n 2, 1) ∧ decode cL_law 775 = .ok (.aload_n 0, 1) ∧ decode cL_law 776 = .ok (.iload_n 3, 1) ∧ decode cL_law 777 = .ok (.iconst 1, 1) ∧ decode cL_law 778 = .ok (.iadd, 1) ∧ decode cL_law 779 = .ok (.iaload, 1) := by decide +kernel
theorem dL_law_768 : decode cL_law 768 = .ok (.iadd, 1) := gd_L_law_768.1
theorem dL_law_769 : decode cL_law 769 = .ok (.iaload, 1) := gd_L_law_768.2.1
theorem dL_law_770 : decode cL_law 770 = .ok (.invokevirtual 105, 3) := gd_L_law_768.2.2.1
theorem dL_law_773 : decode cL_law 773 = .ok (.pop, 1) := gd_L_law_768.2.2.2.1
theorem dL_law_774 : decode cL_law 774 = .ok (.aload_n 2, 1) := gd_L_law_768.2.2.2.2.1
theorem dL_law_775 : decode cL_law 775 = .ok (.aload_n 0, 1) := gd_L_law_768.2.2.2.2.2.1
theorem dL_law_776 : decode cL_law 776 = .ok (.iload_n 3, 1) := gd_L_law_768.2.2.2.2.2.2.1
theorem dL_law_777 : decode cL_law 777 = .ok (.iconst 1, 1) := gd_L_law_768.2.2.2.2.2.2.2.1
theorem dL_law_778 : decode cL_law 778 = .ok (.iadd, 1) := gd_L_law_768.2.2.2.2.2.2.2.2.1
theorem dL_law_779 : decode cL_law 779 = .ok (.iaload, 1) := gd_L_law_768.2.2.2.2.2.2.2.2.2
theorem gd_L_law_780 : decode cL_law 780 = .ok (.invokevirtual 108, 3) ∧ decode cL_law 783 = .ok (.pop, 1) ∧ decode cL_law 784 = .ok (.goto 49, 3) ∧ decode cL_law 787 = .ok (.aload_n 1, 1) ∧ decode cL_law 788 = .ok (.aload_n 0, 1) ∧ decode cL_law 789 = .ok (.iload_n 3, 1) ∧ decode cL_law 790 = .ok (.iconst 1, 1) ∧ decode cL_law 791 = .ok (.iadd, 1) ∧ decode cL_law 792 = .ok (.iaload, 1) ∧ decode cL_law 793 = .ok (.invokevirtual 109, 3) := by decide +kernel
theorem dL_law_780 : decode cL_law 780 = .ok (.invokevirtual 108, 3) := gd_L_law_780.1
theorem dL_law_783 : decode cL_law 783 = .ok (.pop, 1) := gd_L_law_780.2.1
theorem dL_law_784 : decode cL_law 784 = .ok (.goto 49, 3) := gd_L_law_780.2.2.1
theorem dL_law_787 : decode cL_law 787 = .ok (.aload_n 1, 1) := gd_L_law_780.2.2.2.1
theorem dL_law_788 : decode cL_law 788 = .ok (.aload_n 0, 1) := gd_L_law_780.2.2.2.2.1
theorem dL_law_789 : decode cL_law 789 = .ok (.iload_n 3, 1) := gd_L_law_780.2.2.2.2.2.1
theorem dL_law_790 : decode cL_law 790 = .ok (.iconst 1, 1) := gd_L_law_780.2.2.2.2.2.2.1
theorem dL_law_791 : decode cL_law 791 = .ok (.iadd, 1) := gd_L_law_780.2.2.2.2.2.2.2.1
theorem dL_law_792 : decode cL_law 792 = .ok (.iaload, 1) := gd_L_law_780.2.2.2.2.2.2.2.2.1
theorem dL_law_793 : decode cL_law 793 = .ok (.invokevirtual 109, 3) := gd_L_law_780.2.2.2.2.2.2.2.2.2
theorem gd_L_law_796 : decode cL_law 796 = .ok (.aload_n 2, 1) ∧ decode cL_law 797 = .ok (.aload_n 0, 1) ∧ decode cL_law 798 = .ok (.iload_n 3, 1) ∧ decode cL_law 799 = .ok (.iconst 1, 1) ∧ decode cL_law 800 = .ok (.iadd, 1) ∧ decode cL_law 801 = .ok (.iaload, 1) ∧ decode cL_law 802 = .ok (.invokevirtual 112, 3) ∧ decode cL_law 805 = .ok (.if_icmp .eq 28, 3) ∧ decode cL_law 810 = .ok (.aload_n 1, 1) ∧ decode cL_law 811 = .ok (.aload_n 0, 1) := by decide +kernel
theorem dL_law_796 : decode cL_law 796 = .ok (.aload_n 2, 1) := gd_L_law_796.1
theorem dL_law_797 : decode cL_law 797 = .ok (.aload_n 0, 1) := gd_L_law_796.2.1
theorem dL_law_798 : decode cL_law 798 = .ok (.iload_n 3, 1) := gd_L_law_796.2.2.1
theorem dL_law_799 : decode cL_law 799 = .ok (.iconst 1, 1) := gd_L_law_796.2.2.2.1
theorem dL_law_800 : decode cL_law 800 = .ok (.iadd, 1) := gd_L_law_796.2.2.2.2.1
theorem dL_law_801 : decode cL_law 801 = .ok (.iaload, 1) := gd_L_law_796.2.2.2.2.2.1
theorem dL_law_802 : decode cL_law 802 = .ok (.invokevirtual 112, 3) := gd_L_law_796.2.2.2.2.2.2.1
theorem dL_law_805 : decode cL_law 805 = .ok (.if_icmp .eq 28, 3) := gd_L_law_796.2.2.2.2.2.2.2.1
theorem dL_law_810 : decode cL_law 810 = .ok (.aload_n 1, 1) := gd_L_law_796.2.2.2.2.2.2.2.2.1
theorem dL_law_811 : decode cL_law 811 = .ok (.aload_n 0, 1) := gd_L_law_796.2.2.2.2.2.2.2.2.2
theorem gd_L_law_812 : decode cL_law 812 = .ok (.iload_n 3, 1) ∧ decode cL_law 813 = .ok (.iconst 1, 1) ∧ decode cL_law 814 = .ok (.iadd, 1) ∧ decode cL_law 815 = .ok (.iaload, 1) ∧ decode cL_law 816 = .ok (.invokevirtual 113, 3) ∧ decode cL_law 819 = .ok (.pop, 1) ∧ decode cL_law 820 = .ok (.aload_n 2, 1) ∧ decode cL_law 821 = .ok (.aload_n 0, 1) ∧ decode cL_law 822 = .ok (.iload_n 3, 1) ∧ decode cL_law 823 = .ok (.iconst 1, 1) := by decide +kernel
theorem dL_law_812 : decode cL_law 812 = .ok (.iload_n 3, 1) := gd_L_law_812.1
theorem dL_law_813 : decode cL_law 813 = .ok (.iconst 1, 1) := gd_L_law_812.2.1
theorem dL_law_814 : decode cL_law 814 = .ok (.iadd, 1) := gd_L_law_812.2.2.1
theorem dL_law_815 : decode cL_law 815 = .ok (.iaload, 1) := gd_L_law_812.2.2.2.1
theorem dL_law_816 : decode cL_law 816 = .ok (.invokevirtual 113, 3) := gd_L_law_812.2.2.2.2.1
theorem dL_law_819 : decode cL_law 819 = .ok (.pop, 1) := gd_L_law_812.2.2.2.2.2.1
theorem dL_law_820 : decode cL_law 820 = .ok (.aload_n 2, 1) := gd_L_law_812.2.2.2.2.2.2.1
theorem dL_law_821 : decode cL_law 821 = .ok (.aload_n 0, 1) := gd_L_law_812.2.2.2.2.2.2.2.1
theorem dL_law_822 : decode cL_law 822 = .ok (.iload_n 3, 1) := gd_L_law_812.2.2.2.2.2.2.2.2.1
theorem dL_law_823 : decode cL_law 823 = .ok (.iconst 1, 1) := gd_L_law_812.2.2.2.2.2.2.2.2.2
theorem gd_L_law_824 : decode cL_law 824 = .ok (.iadd, 1) ∧ decode cL_law 825 = .ok (.iaload, 1) ∧ decode cL_law 826 = .ok (.invokevirtual 116, 3) ∧ decode cL_law 829 = .ok (.pop, 1) ∧ decode cL_law 830 = .ok (.goto 3, 3) ∧ decode cL_law 833 = .ok (.iinc 3 6, 3) ∧ decode cL_law 836 = .ok (.goto (-818), 3) ∧ decode cL_law 839 = .ok (.iconst 1, 1) ∧ decode cL_law 840 = .ok (.ireturn, 1) := by decide +kernel
theorem dL_law_824 : decode cL_law 824 = .ok (.iadd, 1) := gd_L_law_824.1
theorem dL_law_825 : decode cL_law 825 = .ok (.iaload, 1) := gd_L_law_824.2.1
theorem dL_law_826 : decode cL_law 826 = .ok (.invokevirtual 116, 3) := gd_L_law_824.2.2.1
theorem dL_law_829 : decode cL_law 829 = .ok (.pop, 1) := gd_L_law_824.2.2.2.1
theorem dL_law_830 : decode cL_law 830 = .ok (.goto 3, 3) := gd_L_law_824.2.2.2.2.1
theorem dL_law_833 : decode cL_law 833 = .ok (.iinc 3 6, 3) := gd_L_law_824.2.2.2.2.2.1
theorem dL_law_836 : decode cL_law 836 = .ok (.goto (-818), 3) := gd_L_law_824.2.2.2.2.2.2.1
theorem dL_law_839 : decode cL_law 839 = .ok (.iconst 1, 1) := gd_L_law_824.2.2.2.2.2.2.2.1
theorem dL_law_840 : decode cL_law 840 = .ok (.ireturn, 1) := gd_L_law_824.2.2.2.2.2.2.2.2
theorem va_Psw {D : va_G} {cl : List vw_C} {a b : va_W} {H : Heap} (h : va_P D cl (a ++ b) H) : va_P D cl (b ++ a) H := by
  intro k q hk
  have hm : q ∈ a ++ b := List.mem_append.mpr ((List.mem_append.mp (List.mem_of_getElem? hk)).symm)
  obtain ⟨i, hi⟩ := List.getElem?_of_mem hm
  exact h i q hi
theorem va_Pl {D : va_G} {cl : List vw_C} {a b : va_W} {H : Heap} (h : va_P D cl (a ++ b) H) : va_P D cl a H := by
  intro k q hk
  obtain ⟨i, hi⟩ := List.getElem?_of_mem (List.mem_append_left b (List.mem_of_getElem? hk))
  exact h i q hi
theorem va_Pr {D : va_G} {cl : List vw_C} {a b : va_W} {H : Heap} (h : va_P D cl (a ++ b) H) : va_P D cl b H := va_Pl (va_Psw h)
theorem va_Dmk {A : Nat → Prop} {a b : va_W} (ha : va_D A a) (hb : va_D A b) (hx : ∀ p ∈ a, ∀ q ∈ b, p.1 ≠ q.1) : va_D A (a ++ b) := by
  refine ⟨fun i j p q hi hj e => ?_, fun k q hk => ?_⟩
  · by_cases h1 : i < a.length
    · rw [List.getElem?_append_left h1] at hi
      by_cases h2 : j < a.length
      · rw [List.getElem?_append_left h2] at hj
        exact ha.1 i j p q hi hj e
      · rw [List.getElem?_append_right (by omega)] at hj
        exact absurd e (hx p (List.mem_of_getElem? hi) q (List.mem_of_getElem? hj))
    · rw [List.getElem?_append_right (by omega)] at hi
      by_cases h2 : j < a.length
      · rw [List.getElem?_append_left h2] at hj
        exact absurd e.symm (hx q (List.mem_of_getElem? hj) p (List.mem_of_getElem? hi))
      · rw [List.getElem?_append_right (by omega)] at hj
        have := hb.1 _ _ p q hi hj e
        omega
  · rcases List.mem_append.mp (List.mem_of_getElem? hk) with h | h
    · obtain ⟨i, hi⟩ := List.getElem?_of_mem h
      exact ha.2 i q hi
    · obtain ⟨i, hi⟩ := List.getElem?_of_mem h
      exact hb.2 i q hi
theorem va_Dl {A : Nat → Prop} {a b : va_W} (h : va_D A (a ++ b)) : va_D A a := by
  refine ⟨fun i j p q hi hj e => ?_, fun k q hk => ?_⟩
  · have h1 := (List.getElem?_eq_some_iff.mp hi).1
    have h2 := (List.getElem?_eq_some_iff.mp hj).1
    exact h.1 i j p q (by rw [List.getElem?_append_left h1]; exact hi) (by rw [List.getElem?_append_left h2]; exact hj) e
  · have h1 := (List.getElem?_eq_some_iff.mp hk).1
    exact h.2 k q (by rw [List.getElem?_append_left h1]; exact hk)
theorem va_Dx {A : Nat → Prop} {a b : va_W} (h : va_D A (a ++ b)) : ∀ p ∈ a, ∀ q ∈ b, p.1 ≠ q.1 := by
  intro p hp q hq e
  obtain ⟨i, hi⟩ := List.getElem?_of_mem hp
  obtain ⟨j, hj⟩ := List.getElem?_of_mem hq
  have h1 := (List.getElem?_eq_some_iff.mp hi).1
  have := h.1 i (a.length + j) p q (by rw [List.getElem?_append_left h1]; exact hi) (by rw [List.getElem?_append_right (by omega), Nat.add_sub_cancel_left]; exact hj) e
  omega
theorem va_Drr {A : Nat → Prop} {a b : va_W} (h : va_D A (a ++ b)) : va_D A b := by
  refine ⟨fun i j p q hi hj e => ?_, fun k q hk => ?_⟩
  · have := h.1 (a.length + i) (a.length + j) p q (by rw [List.getElem?_append_right (by omega), Nat.add_sub_cancel_left]; exact hi) (by rw [List.getElem?_append_right (by omega), Nat.add_sub_cancel_left]; exact hj) e
    omega
  · exact h.2 (a.length + k) q (by rw [List.getElem?_append_right (by omega), Nat.add_sub_cancel_left]; exact hk)
theorem va_Dsw {A : Nat → Prop} {a b : va_W} (h : va_D A (a ++ b)) : va_D A (b ++ a) := va_Dmk (va_Drr h) (va_Dl h) (fun p hp q hq e => va_Dx h q hq p hp e.symm)
theorem va_fr2 {A : Nat → Prop} {a b : va_W} {H0 H : Heap} {locs : List Loc} (hD : va_D A (a ++ b)) (hS : va_S A H0 H locs) (hA : ∀ q, H0.size ≤ q → A q) : ∀ q, va_A b H.size q → A q := by
  intro q h
  rcases h with ⟨k, e, h⟩ | h
  · exact (va_Drr hD).2 k (q, e) h
  · exact hA q (Nat.le_trans hS.1 h)
theorem va_join2 {A : Nat → Prop} {D : va_G} {cl : List vw_C} {a b w1 : va_W} {H H1 : Heap} (hP : va_P D cl (a ++ b) H) (hD : va_D A (a ++ b)) (hk : ∀ q : Nat, q < H.size → ¬ va_A b H.size q → H1[q]? = H[q]?) (hF : ∀ q, va_A b H.size q → A q) (hP1 : va_P D cl w1 H1) (hD1 : va_D (va_A b H.size) w1) : va_P D cl (a ++ w1) H1 ∧ va_D A (a ++ w1) := by
  have hn : ∀ p ∈ a, p.1 < H.size ∧ ¬ va_A b H.size p.1 := by
    intro p hp
    obtain ⟨i, hi⟩ := List.getElem?_of_mem hp
    have hl := (va_Pl hP i p hi).lt
    refine ⟨hl, fun h => ?_⟩
    rcases h with ⟨k, e, h⟩ | h
    · exact va_Dx hD p hp (p.1, e) (List.mem_of_getElem? h) rfl
    · omega
  refine ⟨((va_Pl hP).kept (fun k q hq => hk q.1 (hn q (List.mem_of_getElem? hq)).1 (hn q (List.mem_of_getElem? hq)).2)).app hP1, va_Dmk (va_Dl hD) (hD1.weaken (fun k q _ h => hF _ h)) (fun p hp q hq e => ?_)⟩
  obtain ⟨j, hj⟩ := List.getElem?_of_mem hq
  exact (hn p hp).2 (by rw [e]; exact hD1.2 j q hj)
def CS (kk : Nat → ClassId) (ws : va_W) (xa : Nat) (n σ : Int) (g : Nat → Int32) (F : Nat → Nat → Int32) : Prop := ∃ (ad κ : Nat → Nat) (wd : Nat) (G : Nat → Nat → Int32) (P : Nat → Nat → Option Nat) (U : Nat → Nat → Int64) (V : Nat → Nat → Nat → Int32) (X : Nat → Nat → Nat → Int64) (O : Nat → Nat → Nat → Option Nat) (kd : Nat → Nat) (ln : Nat → Nat) (cnt : Nat) (x tp bk fl : Nat), xa = ad x ∧ LW ws ad kk kd ln G P U V X O ∧ TYP kd P O (V 0) cnt ∧ CInv κ wd G P V O ln cnt ∧ kd x = 12 ∧ κ x = 12 ∧ P 220 x = some tp ∧ P 229 x = some bk ∧ P 3 bk = some fl ∧ (G 141 tp).toInt = n ∧ s7 (V 3 fl) = σ ∧ RLB g F x tp bk wd G P V O ln cnt
def MS (g : Nat → Int32) (F : Nat → Nat → Int32) (n : Int) : Prop := MInv g F ∧ (g 1).toInt = n
theorem s7_b {v : Nat → Nat → Int32} (h : rng2 0 100 v) (a : Nat) : 0 ≤ s7 (v a) ∧ s7 (v a) ≤ 700 := by
  have h0 := h a 0
  have h1 := h a 1
  have h2 := h a 2
  have h3 := h a 3
  have h4 := h a 4
  have h5 := h a 5
  have h6 := h a 6
  unfold s7
  omega
theorem upF_lo {F : Nat → Nat → Int32} {j k : Nat} {v : Nat → Int32} (hk : 21 < k) (h : j ≤ 21) : upF F k v j = F j := if_neg (by omega)
theorem upF_hi {F : Nat → Nat → Int32} {j k : Nat} {v : Nat → Int32} (hk : k < 10) (h : 10 ≤ j) : upF F k v j = F j := if_neg (by omega)