abbrev cL_law : ByteArray := code
/-! THE CLAIM OUT OF ONE WALK OF THE LAW'S BODY. Your part is whole_start (and what it stands on); all else here is the same for every law, but numbers. -/
def R_law : String := "LateGlassLaw"
def lw_P (b : Addr) (xs : List Int32) (args : Array Value) (s : State) : Prop := args = #[.ref b] ∧ s.IntsAt b xs ∧ xs.length ≤ 3584 ∧ (Jvm.Cond.and given_1 narrow_1).before args s = true
def lw_Q (_ : Array Value) (s : State) (o : Outcome) (t : State) : Prop := o = .returned (some (.int 1)) ∧ Framed s o t [] 600000 7302250
def lw_Z (below : List Frame) (a : Array Value) (s : State) : State → Prop := fun t => ∃ o, t.status = .running ∧ Ended t below o ∧ lw_Q a s o t
/-- the law's own end, with 1 on the stack, nothing written that was there before, its room as the claim has it -/
theorem lw_ret {p : Program} {l : Launch} {e : Env} {s : State} {m : MethodId} {below : List Frame} {meth : Method} {c : Code} {b : Nat} (hx : p.tables.exec = Jvm.exec) (hb : c.code = code) (hr : meth.sig.returnType = ret) (hlocks : meth.locks = false) {pc : Nat} {H : Heap} {ls : Array Slot} (hdg : decode code pc = .ok (.ireturn, 1)) : W p l e room_1 s m #[Value.ref b] below meth c H [] 600000 7302250 (lw_Z below #[Value.ref b] s) (F0 m pc ls [.int 1]) := by
  intro T hT X
  obtain ⟨fs, hret, hrun, hended, hW, hframe⟩ := X.leave (v := some (.int 1)) (hlocks := hlocks) (fun h => by rw [hr] at h; cases h)
  have hmeth' : T.vm.method? m = some meth := X.method'
  refine ⟨T.setFrames fs, ?_, .returned (some (.int 1)), hrun, hended, rfl, ⟨_, rfl⟩, hW, hframe⟩
  jvm_step X.here [X.here.top, hx, hb, hdg, hmeth', hr, ret, narrow_b1]
  (try refine ⟨rfl, ?_⟩); (try refine ⟨rfl, ?_⟩)
  first | (intro acts; rw [hret _ acts rfl rfl rfl]) | rw [hret _ _ rfl rfl rfl]
  exact Steps.refl _
/-- what holds at the law's entry: the machine, the code, the tables' words (any of lw_tbl by 'hts w (by decide +kernel)'), the script of L ints xs at the cell b, what the Statement gives of the start (any of its parts by flat_of_before) -/
def lw_At (p : Program) (s : State) (m : MethodId) (meth : Method) (c : Code) (b L : Nat) (xs : Nat → Int32) : Prop :=
  p.tables.exec = Jvm.exec ∧ c.code = code ∧ meth.sig.returnType = ret ∧ c.maxLocals = 4 ∧ s.vm.findClass R_law = some m.cls ∧ (∀ w ∈ lw_tbl, w.before #[Value.ref b] s = true) ∧ va_X b L xs s s.heap ∧ b < s.heap.size ∧ meth.locks = false ∧ (Jvm.Cond.and given_1 narrow_1).before #[Value.ref b] s = true

theorem dgL_law_0 : ∀ r ∈ ([(0, (.new 7, 3)), (3, (.dup, 1)), (4, (.invokespecial 9, 3)), (7, (.astore_n 1, 1)), (8, (.new 10, 3)), (11, (.dup, 1)), (12, (.invokespecial 12, 3)), (15, (.astore_n 2, 1)), (16, (.iconst 0, 1)), (17, (.istore_n 3, 1)), (18, (.iload_n 3, 1)), (19, (.aload_n 0, 1)), (20, (.arraylength, 1)), (21, (.bipush 7, 2)), (23, (.isub, 1)), (24, (.if_icmp .gt 1630, 3)), (27, (.aload_n 0, 1)), (28, (.iload_n 3, 1)), (29, (.iaload, 1)), (30, (.bipush 63, 2)), (32, (.iand, 1)), (33, (.tableswitch 1615 0 43 #[191, 224, 277, 320, 353, 366, 419, 452, 475, 538, 561, 574, 587, 600, 613, 636, 689, 742, 775, 818, 851, 894, 917, 970, 993, 1016, 1029, 1062, 1085, 1098, 1141, 1164, 1207, 1282, 1305, 1328, 1371, 1424, 1477, 1510, 1533, 1556, 1579, 1602], 191)), (224, (.aload_n 1, 1)), (225, (.aload_n 0, 1)), (226, (.iload_n 3, 1)), (227, (.iconst 1, 1)), (228, (.iadd, 1)), (229, (.iaload, 1)), (230, (.aload_n 0, 1)), (231, (.iload_n 3, 1)), (232, (.iconst 2, 1)), (233, (.iadd, 1)), (234, (.iaload, 1)), (235, (.invokevirtual 13, 3)), (238, (.pop, 1)), (239, (.aload_n 2, 1)), (240, (.aload_n 0, 1)), (241, (.iload_n 3, 1)), (242, (.iconst 1, 1)), (243, (.iadd, 1))] : List (Nat × (Instr × Nat))), decode cL_law r.1 = .ok r.2 := by decide +kernel
theorem dL_law_0 : decode cL_law 0 = .ok (.new 7, 3) := dgL_law_0 (0, (.new 7, 3)) (List.mem_of_getElem? (i := 0) rfl)
theorem dL_law_3 : decode cL_law 3 = .ok (.dup, 1) := dgL_law_0 (3, (.dup, 1)) (List.mem_of_getElem? (i := 1) rfl)
theorem dL_law_4 : decode cL_law 4 = .ok (.invokespecial 9, 3) := dgL_law_0 (4, (.invokespecial 9, 3)) (List.mem_of_getElem? (i := 2) rfl)
theorem dL_law_7 : decode cL_law 7 = .ok (.astore_n 1, 1) := dgL_law_0 (7, (.astore_n 1, 1)) (List.mem_of_getElem? (i := 3) rfl)
theorem dL_law_8 : decode cL_law 8 = .ok (.new 10, 3) := dgL_law_0 (8, (.new 10, 3)) (List.mem_of_getElem? (i := 4) rfl)
theorem dL_law_11 : decode cL_law 11 = .ok (.dup, 1) := dgL_law_0 (11, (.dup, 1)) (List.mem_of_getElem? (i := 5) rfl)
theorem dL_law_12 : decode cL_law 12 = .ok (.invokespecial 12, 3) := dgL_law_0 (12, (.invokespecial 12, 3)) (List.mem_of_getElem? (i := 6) rfl)
theorem dL_law_15 : decode cL_law 15 = .ok (.astore_n 2, 1) := dgL_law_0 (15, (.astore_n 2, 1)) (List.mem_of_getElem? (i := 7) rfl)
theorem dL_law_16 : decode cL_law 16 = .ok (.iconst 0, 1) := dgL_law_0 (16, (.iconst 0, 1)) (List.mem_of_getElem? (i := 8) rfl)
theorem dL_law_17 : decode cL_law 17 = .ok (.istore_n 3, 1) := dgL_law_0 (17, (.istore_n 3, 1)) (List.mem_of_getElem? (i := 9) rfl)
theorem dL_law_18 : decode cL_law 18 = .ok (.iload_n 3, 1) := dgL_law_0 (18, (.iload_n 3, 1)) (List.mem_of_getElem? (i := 10) rfl)
theorem dL_law_19 : decode cL_law 19 = .ok (.aload_n 0, 1) := dgL_law_0 (19, (.aload_n 0, 1)) (List.mem_of_getElem? (i := 11) rfl)
theorem dL_law_20 : decode cL_law 20 = .ok (.arraylength, 1) := dgL_law_0 (20, (.arraylength, 1)) (List.mem_of_getElem? (i := 12) rfl)
theorem dL_law_21 : decode cL_law 21 = .ok (.bipush 7, 2) := dgL_law_0 (21, (.bipush 7, 2)) (List.mem_of_getElem? (i := 13) rfl)
theorem dL_law_23 : decode cL_law 23 = .ok (.isub, 1) := dgL_law_0 (23, (.isub, 1)) (List.mem_of_getElem? (i := 14) rfl)
theorem dL_law_24 : decode cL_law 24 = .ok (.if_icmp .gt 1630, 3) := dgL_law_0 (24, (.if_icmp .gt 1630, 3)) (List.mem_of_getElem? (i := 15) rfl)
theorem dL_law_27 : decode cL_law 27 = .ok (.aload_n 0, 1) := dgL_law_0 (27, (.aload_n 0, 1)) (List.mem_of_getElem? (i := 16) rfl)
theorem dL_law_28 : decode cL_law 28 = .ok (.iload_n 3, 1) := dgL_law_0 (28, (.iload_n 3, 1)) (List.mem_of_getElem? (i := 17) rfl)
theorem dL_law_29 : decode cL_law 29 = .ok (.iaload, 1) := dgL_law_0 (29, (.iaload, 1)) (List.mem_of_getElem? (i := 18) rfl)
theorem dL_law_30 : decode cL_law 30 = .ok (.bipush 63, 2) := dgL_law_0 (30, (.bipush 63, 2)) (List.mem_of_getElem? (i := 19) rfl)
theorem dL_law_32 : decode cL_law 32 = .ok (.iand, 1) := dgL_law_0 (32, (.iand, 1)) (List.mem_of_getElem? (i := 20) rfl)
theorem dL_law_33 : decode cL_law 33 = .ok (.tableswitch 1615 0 43 #[191, 224, 277, 320, 353, 366, 419, 452, 475, 538, 561, 574, 587, 600, 613, 636, 689, 742, 775, 818, 851, 894, 917, 970, 993, 1016, 1029, 1062, 1085, 1098, 1141, 1164, 1207, 1282, 1305, 1328, 1371, 1424, 1477, 1510, 1533, 1556, 1579, 1602], 191) := dgL_law_0 (33, (.tableswitch 1615 0 43 #[191, 224, 277, 320, 353, 366, 419, 452, 475, 538, 561, 574, 587, 600, 613, 636, 689, 742, 775, 818, 851, 894, 917, 970, 993, 1016, 1029, 1062, 1085, 1098, 1141, 1164, 1207, 1282, 1305, 1328, 1371, 1424, 1477, 1510, 1533, 1556, 1579, 1602], 191)) (List.mem_of_getElem? (i := 21) rfl)
theorem dL_law_224 : decode cL_law 224 = .ok (.aload_n 1, 1) := dgL_law_0 (224, (.aload_n 1, 1)) (List.mem_of_getElem? (i := 22) rfl)
theorem dL_law_225 : decode cL_law 225 = .ok (.aload_n 0, 1) := dgL_law_0 (225, (.aload_n 0, 1)) (List.mem_of_getElem? (i := 23) rfl)
theorem dL_law_226 : decode cL_law 226 = .ok (.iload_n 3, 1) := dgL_law_0 (226, (.iload_n 3, 1)) (List.mem_of_getElem? (i := 24) rfl)
theorem dL_law_227 : decode cL_law 227 = .ok (.iconst 1, 1) := dgL_law_0 (227, (.iconst 1, 1)) (List.mem_of_getElem? (i := 25) rfl)
theorem dL_law_228 : decode cL_law 228 = .ok (.iadd, 1) := dgL_law_0 (228, (.iadd, 1)) (List.mem_of_getElem? (i := 26) rfl)
theorem dL_law_229 : decode cL_law 229 = .ok (.iaload, 1) := dgL_law_0 (229, (.iaload, 1)) (List.mem_of_getElem? (i := 27) rfl)
theorem dL_law_230 : decode cL_law 230 = .ok (.aload_n 0, 1) := dgL_law_0 (230, (.aload_n 0, 1)) (List.mem_of_getElem? (i := 28) rfl)
theorem dL_law_231 : decode cL_law 231 = .ok (.iload_n 3, 1) := dgL_law_0 (231, (.iload_n 3, 1)) (List.mem_of_getElem? (i := 29) rfl)
theorem dL_law_232 : decode cL_law 232 = .ok (.iconst 2, 1) := dgL_law_0 (232, (.iconst 2, 1)) (List.mem_of_getElem? (i := 30) rfl)
theorem dL_law_233 : decode cL_law 233 = .ok (.iadd, 1) := dgL_law_0 (233, (.iadd, 1)) (List.mem_of_getElem? (i := 31) rfl)
theorem dL_law_234 : decode cL_law 234 = .ok (.iaload, 1) := dgL_law_0 (234, (.iaload, 1)) (List.mem_of_getElem? (i := 32) rfl)
theorem dL_law_235 : decode cL_law 235 = .ok (.invokevirtual 13, 3) := dgL_law_0 (235, (.invokevirtual 13, 3)) (List.mem_of_getElem? (i := 33) rfl)
theorem dL_law_238 : decode cL_law 238 = .ok (.pop, 1) := dgL_law_0 (238, (.pop, 1)) (List.mem_of_getElem? (i := 34) rfl)
theorem dL_law_239 : decode cL_law 239 = .ok (.aload_n 2, 1) := dgL_law_0 (239, (.aload_n 2, 1)) (List.mem_of_getElem? (i := 35) rfl)
theorem dL_law_240 : decode cL_law 240 = .ok (.aload_n 0, 1) := dgL_law_0 (240, (.aload_n 0, 1)) (List.mem_of_getElem? (i := 36) rfl)
theorem dL_law_241 : decode cL_law 241 = .ok (.iload_n 3, 1) := dgL_law_0 (241, (.iload_n 3, 1)) (List.mem_of_getElem? (i := 37) rfl)
theorem dL_law_242 : decode cL_law 242 = .ok (.iconst 1, 1) := dgL_law_0 (242, (.iconst 1, 1)) (List.mem_of_getElem? (i := 38) rfl)
theorem dL_law_243 : decode cL_law 243 = .ok (.iadd, 1) := dgL_law_0 (243, (.iadd, 1)) (List.mem_of_getElem? (i := 39) rfl)
theorem dgL_law_1 : ∀ r ∈ ([(244, (.iaload, 1)), (245, (.aload_n 0, 1)), (246, (.iload_n 3, 1)), (247, (.iconst 2, 1)), (248, (.iadd, 1)), (249, (.iaload, 1)), (250, (.invokevirtual 17, 3)), (253, (.pop, 1)), (254, (.goto 1394, 3)), (257, (.aload_n 1, 1)), (258, (.aload_n 0, 1)), (259, (.iload_n 3, 1)), (260, (.iconst 1, 1)), (261, (.iadd, 1)), (262, (.iaload, 1)), (263, (.aload_n 0, 1)), (264, (.iload_n 3, 1)), (265, (.iconst 2, 1)), (266, (.iadd, 1)), (267, (.iaload, 1)), (268, (.aload_n 0, 1)), (269, (.iload_n 3, 1)), (270, (.iconst 3, 1)), (271, (.iadd, 1)), (272, (.iaload, 1)), (273, (.aload_n 0, 1)), (274, (.iload_n 3, 1)), (275, (.iconst 4, 1)), (276, (.iadd, 1)), (277, (.iaload, 1)), (278, (.invokevirtual 18, 3)), (281, (.pop, 1)), (282, (.aload_n 2, 1)), (283, (.aload_n 0, 1)), (284, (.iload_n 3, 1)), (285, (.iconst 1, 1)), (286, (.iadd, 1)), (287, (.iaload, 1)), (288, (.aload_n 0, 1)), (289, (.iload_n 3, 1))] : List (Nat × (Instr × Nat))), decode cL_law r.1 = .ok r.2 := by decide +kernel
theorem dL_law_244 : decode cL_law 244 = .ok (.iaload, 1) := dgL_law_1 (244, (.iaload, 1)) (List.mem_of_getElem? (i := 0) rfl)
theorem dL_law_245 : decode cL_law 245 = .ok (.aload_n 0, 1) := dgL_law_1 (245, (.aload_n 0, 1)) (List.mem_of_getElem? (i := 1) rfl)
theorem dL_law_246 : decode cL_law 246 = .ok (.iload_n 3, 1) := dgL_law_1 (246, (.iload_n 3, 1)) (List.mem_of_getElem? (i := 2) rfl)
theorem dL_law_247 : decode cL_law 247 = .ok (.iconst 2, 1) := dgL_law_1 (247, (.iconst 2, 1)) (List.mem_of_getElem? (i := 3) rfl)
theorem dL_law_248 : decode cL_law 248 = .ok (.iadd, 1) := dgL_law_1 (248, (.iadd, 1)) (List.mem_of_getElem? (i := 4) rfl)
theorem dL_law_249 : decode cL_law 249 = .ok (.iaload, 1) := dgL_law_1 (249, (.iaload, 1)) (List.mem_of_getElem? (i := 5) rfl)
theorem dL_law_250 : decode cL_law 250 = .ok (.invokevirtual 17, 3) := dgL_law_1 (250, (.invokevirtual 17, 3)) (List.mem_of_getElem? (i := 6) rfl)
theorem dL_law_253 : decode cL_law 253 = .ok (.pop, 1) := dgL_law_1 (253, (.pop, 1)) (List.mem_of_getElem? (i := 7) rfl)
theorem dL_law_254 : decode cL_law 254 = .ok (.goto 1394, 3) := dgL_law_1 (254, (.goto 1394, 3)) (List.mem_of_getElem? (i := 8) rfl)
theorem dL_law_257 : decode cL_law 257 = .ok (.aload_n 1, 1) := dgL_law_1 (257, (.aload_n 1, 1)) (List.mem_of_getElem? (i := 9) rfl)
theorem dL_law_258 : decode cL_law 258 = .ok (.aload_n 0, 1) := dgL_law_1 (258, (.aload_n 0, 1)) (List.mem_of_getElem? (i := 10) rfl)
theorem dL_law_259 : decode cL_law 259 = .ok (.iload_n 3, 1) := dgL_law_1 (259, (.iload_n 3, 1)) (List.mem_of_getElem? (i := 11) rfl)
theorem dL_law_260 : decode cL_law 260 = .ok (.iconst 1, 1) := dgL_law_1 (260, (.iconst 1, 1)) (List.mem_of_getElem? (i := 12) rfl)
theorem dL_law_261 : decode cL_law 261 = .ok (.iadd, 1) := dgL_law_1 (261, (.iadd, 1)) (List.mem_of_getElem? (i := 13) rfl)
theorem dL_law_262 : decode cL_law 262 = .ok (.iaload, 1) := dgL_law_1 (262, (.iaload, 1)) (List.mem_of_getElem? (i := 14) rfl)
theorem dL_law_263 : decode cL_law 263 = .ok (.aload_n 0, 1) := dgL_law_1 (263, (.aload_n 0, 1)) (List.mem_of_getElem? (i := 15) rfl)
theorem dL_law_264 : decode cL_law 264 = .ok (.iload_n 3, 1) := dgL_law_1 (264, (.iload_n 3, 1)) (List.mem_of_getElem? (i := 16) rfl)
theorem dL_law_265 : decode cL_law 265 = .ok (.iconst 2, 1) := dgL_law_1 (265, (.iconst 2, 1)) (List.mem_of_getElem? (i := 17) rfl)
theorem dL_law_266 : decode cL_law 266 = .ok (.iadd, 1) := dgL_law_1 (266, (.iadd, 1)) (List.mem_of_getElem? (i := 18) rfl)
theorem dL_law_267 : decode cL_law 267 = .ok (.iaload, 1) := dgL_law_1 (267, (.iaload, 1)) (List.mem_of_getElem? (i := 19) rfl)
theorem dL_law_268 : decode cL_law 268 = .ok (.aload_n 0, 1) := dgL_law_1 (268, (.aload_n 0, 1)) (List.mem_of_getElem? (i := 20) rfl)
theorem dL_law_269 : decode cL_law 269 = .ok (.iload_n 3, 1) := dgL_law_1 (269, (.iload_n 3, 1)) (List.mem_of_getElem? (i := 21) rfl)
theorem dL_law_270 : decode cL_law 270 = .ok (.iconst 3, 1) := dgL_law_1 (270, (.iconst 3, 1)) (List.mem_of_getElem? (i := 22) rfl)
theorem dL_law_271 : decode cL_law 271 = .ok (.iadd, 1) := dgL_law_1 (271, (.iadd, 1)) (List.mem_of_getElem? (i := 23) rfl)
theorem dL_law_272 : decode cL_law 272 = .ok (.iaload, 1) := dgL_law_1 (272, (.iaload, 1)) (List.mem_of_getElem? (i := 24) rfl)
theorem dL_law_273 : decode cL_law 273 = .ok (.aload_n 0, 1) := dgL_law_1 (273, (.aload_n 0, 1)) (List.mem_of_getElem? (i := 25) rfl)
theorem dL_law_274 : decode cL_law 274 = .ok (.iload_n 3, 1) := dgL_law_1 (274, (.iload_n 3, 1)) (List.mem_of_getElem? (i := 26) rfl)
theorem dL_law_275 : decode cL_law 275 = .ok (.iconst 4, 1) := dgL_law_1 (275, (.iconst 4, 1)) (List.mem_of_getElem? (i := 27) rfl)
theorem dL_law_276 : decode cL_law 276 = .ok (.iadd, 1) := dgL_law_1 (276, (.iadd, 1)) (List.mem_of_getElem? (i := 28) rfl)
theorem dL_law_277 : decode cL_law 277 = .ok (.iaload, 1) := dgL_law_1 (277, (.iaload, 1)) (List.mem_of_getElem? (i := 29) rfl)
theorem dL_law_278 : decode cL_law 278 = .ok (.invokevirtual 18, 3) := dgL_law_1 (278, (.invokevirtual 18, 3)) (List.mem_of_getElem? (i := 30) rfl)
theorem dL_law_281 : decode cL_law 281 = .ok (.pop, 1) := dgL_law_1 (281, (.pop, 1)) (List.mem_of_getElem? (i := 31) rfl)
theorem dL_law_282 : decode cL_law 282 = .ok (.aload_n 2, 1) := dgL_law_1 (282, (.aload_n 2, 1)) (List.mem_of_getElem? (i := 32) rfl)
theorem dL_law_283 : decode cL_law 283 = .ok (.aload_n 0, 1) := dgL_law_1 (283, (.aload_n 0, 1)) (List.mem_of_getElem? (i := 33) rfl)
theorem dL_law_284 : decode cL_law 284 = .ok (.iload_n 3, 1) := dgL_law_1 (284, (.iload_n 3, 1)) (List.mem_of_getElem? (i := 34) rfl)
theorem dL_law_285 : decode cL_law 285 = .ok (.iconst 1, 1) := dgL_law_1 (285, (.iconst 1, 1)) (List.mem_of_getElem? (i := 35) rfl)
theorem dL_law_286 : decode cL_law 286 = .ok (.iadd, 1) := dgL_law_1 (286, (.iadd, 1)) (List.mem_of_getElem? (i := 36) rfl)
theorem dL_law_287 : decode cL_law 287 = .ok (.iaload, 1) := dgL_law_1 (287, (.iaload, 1)) (List.mem_of_getElem? (i := 37) rfl)
theorem dL_law_288 : decode cL_law 288 = .ok (.aload_n 0, 1) := dgL_law_1 (288, (.aload_n 0, 1)) (List.mem_of_getElem? (i := 38) rfl)
theorem dL_law_289 : decode cL_law 289 = .ok (.iload_n 3, 1) := dgL_law_1 (289, (.iload_n 3, 1)) (List.mem_of_getElem? (i := 39) rfl)
theorem dgL_law_2 : ∀ r ∈ ([(290, (.iconst 2, 1)), (291, (.iadd, 1)), (292, (.iaload, 1)), (293, (.aload_n 0, 1)), (294, (.iload_n 3, 1)), (295, (.iconst 3, 1)), (296, (.iadd, 1)), (297, (.iaload, 1)), (298, (.aload_n 0, 1)), (299, (.iload_n 3, 1)), (300, (.iconst 4, 1)), (301, (.iadd, 1)), (302, (.iaload, 1)), (303, (.invokevirtual 22, 3)), (306, (.pop, 1)), (307, (.goto 1341, 3)), (310, (.aload_n 1, 1)), (311, (.aload_n 0, 1)), (312, (.iload_n 3, 1)), (313, (.iconst 1, 1)), (314, (.iadd, 1)), (315, (.iaload, 1)), (316, (.aload_n 0, 1)), (317, (.iload_n 3, 1)), (318, (.iconst 2, 1)), (319, (.iadd, 1)), (320, (.iaload, 1)), (321, (.aload_n 0, 1)), (322, (.iload_n 3, 1)), (323, (.iconst 3, 1)), (324, (.iadd, 1)), (325, (.iaload, 1)), (326, (.invokevirtual 23, 3)), (329, (.pop, 1)), (330, (.aload_n 2, 1)), (331, (.aload_n 0, 1)), (332, (.iload_n 3, 1)), (333, (.iconst 1, 1)), (334, (.iadd, 1)), (335, (.iaload, 1))] : List (Nat × (Instr × Nat))), decode cL_law r.1 = .ok r.2 := by decide +kernel
theorem dL_law_290 : decode cL_law 290 = .ok (.iconst 2, 1) := dgL_law_2 (290, (.iconst 2, 1)) (List.mem_of_getElem? (i := 0) rfl)
theorem dL_law_291 : decode cL_law 291 = .ok (.iadd, 1) := dgL_law_2 (291, (.iadd, 1)) (List.mem_of_getElem? (i := 1) rfl)
theorem dL_law_292 : decode cL_law 292 = .ok (.iaload, 1) := dgL_law_2 (292, (.iaload, 1)) (List.mem_of_getElem? (i := 2) rfl)
theorem dL_law_293 : decode cL_law 293 = .ok (.aload_n 0, 1) := dgL_law_2 (293, (.aload_n 0, 1)) (List.mem_of_getElem? (i := 3) rfl)
theorem dL_law_294 : decode cL_law 294 = .ok (.iload_n 3, 1) := dgL_law_2 (294, (.iload_n 3, 1)) (List.mem_of_getElem? (i := 4) rfl)
theorem dL_law_295 : decode cL_law 295 = .ok (.iconst 3, 1) := dgL_law_2 (295, (.iconst 3, 1)) (List.mem_of_getElem? (i := 5) rfl)
theorem dL_law_296 : decode cL_law 296 = .ok (.iadd, 1) := dgL_law_2 (296, (.iadd, 1)) (List.mem_of_getElem? (i := 6) rfl)
theorem dL_law_297 : decode cL_law 297 = .ok (.iaload, 1) := dgL_law_2 (297, (.iaload, 1)) (List.mem_of_getElem? (i := 7) rfl)
theorem dL_law_298 : decode cL_law 298 = .ok (.aload_n 0, 1) := dgL_law_2 (298, (.aload_n 0, 1)) (List.mem_of_getElem? (i := 8) rfl)
theorem dL_law_299 : decode cL_law 299 = .ok (.iload_n 3, 1) := dgL_law_2 (299, (.iload_n 3, 1)) (List.mem_of_getElem? (i := 9) rfl)
theorem dL_law_300 : decode cL_law 300 = .ok (.iconst 4, 1) := dgL_law_2 (300, (.iconst 4, 1)) (List.mem_of_getElem? (i := 10) rfl)
theorem dL_law_301 : decode cL_law 301 = .ok (.iadd, 1) := dgL_law_2 (301, (.iadd, 1)) (List.mem_of_getElem? (i := 11) rfl)
theorem dL_law_302 : decode cL_law 302 = .ok (.iaload, 1) := dgL_law_2 (302, (.iaload, 1)) (List.mem_of_getElem? (i := 12) rfl)
theorem dL_law_303 : decode cL_law 303 = .ok (.invokevirtual 22, 3) := dgL_law_2 (303, (.invokevirtual 22, 3)) (List.mem_of_getElem? (i := 13) rfl)
theorem dL_law_306 : decode cL_law 306 = .ok (.pop, 1) := dgL_law_2 (306, (.pop, 1)) (List.mem_of_getElem? (i := 14) rfl)
theorem dL_law_307 : decode cL_law 307 = .ok (.goto 1341, 3) := dgL_law_2 (307, (.goto 1341, 3)) (List.mem_of_getElem? (i := 15) rfl)
theorem dL_law_310 : decode cL_law 310 = .ok (.aload_n 1, 1) := dgL_law_2 (310, (.aload_n 1, 1)) (List.mem_of_getElem? (i := 16) rfl)
theorem dL_law_311 : decode cL_law 311 = .ok (.aload_n 0, 1) := dgL_law_2 (311, (.aload_n 0, 1)) (List.mem_of_getElem? (i := 17) rfl)
theorem dL_law_312 : decode cL_law 312 = .ok (.iload_n 3, 1) := dgL_law_2 (312, (.iload_n 3, 1)) (List.mem_of_getElem? (i := 18) rfl)
theorem dL_law_313 : decode cL_law 313 = .ok (.iconst 1, 1) := dgL_law_2 (313, (.iconst 1, 1)) (List.mem_of_getElem? (i := 19) rfl)
theorem dL_law_314 : decode cL_law 314 = .ok (.iadd, 1) := dgL_law_2 (314, (.iadd, 1)) (List.mem_of_getElem? (i := 20) rfl)
theorem dL_law_315 : decode cL_law 315 = .ok (.iaload, 1) := dgL_law_2 (315, (.iaload, 1)) (List.mem_of_getElem? (i := 21) rfl)
theorem dL_law_316 : decode cL_law 316 = .ok (.aload_n 0, 1) := dgL_law_2 (316, (.aload_n 0, 1)) (List.mem_of_getElem? (i := 22) rfl)
theorem dL_law_317 : decode cL_law 317 = .ok (.iload_n 3, 1) := dgL_law_2 (317, (.iload_n 3, 1)) (List.mem_of_getElem? (i := 23) rfl)
theorem dL_law_318 : decode cL_law 318 = .ok (.iconst 2, 1) := dgL_law_2 (318, (.iconst 2, 1)) (List.mem_of_getElem? (i := 24) rfl)
theorem dL_law_319 : decode cL_law 319 = .ok (.iadd, 1) := dgL_law_2 (319, (.iadd, 1)) (List.mem_of_getElem? (i := 25) rfl)
theorem dL_law_320 : decode cL_law 320 = .ok (.iaload, 1) := dgL_law_2 (320, (.iaload, 1)) (List.mem_of_getElem? (i := 26) rfl)
theorem dL_law_321 : decode cL_law 321 = .ok (.aload_n 0, 1) := dgL_law_2 (321, (.aload_n 0, 1)) (List.mem_of_getElem? (i := 27) rfl)
theorem dL_law_322 : decode cL_law 322 = .ok (.iload_n 3, 1) := dgL_law_2 (322, (.iload_n 3, 1)) (List.mem_of_getElem? (i := 28) rfl)
theorem dL_law_323 : decode cL_law 323 = .ok (.iconst 3, 1) := dgL_law_2 (323, (.iconst 3, 1)) (List.mem_of_getElem? (i := 29) rfl)
theorem dL_law_324 : decode cL_law 324 = .ok (.iadd, 1) := dgL_law_2 (324, (.iadd, 1)) (List.mem_of_getElem? (i := 30) rfl)
theorem dL_law_325 : decode cL_law 325 = .ok (.iaload, 1) := dgL_law_2 (325, (.iaload, 1)) (List.mem_of_getElem? (i := 31) rfl)
theorem dL_law_326 : decode cL_law 326 = .ok (.invokevirtual 23, 3) := dgL_law_2 (326, (.invokevirtual 23, 3)) (List.mem_of_getElem? (i := 32) rfl)
theorem dL_law_329 : decode cL_law 329 = .ok (.pop, 1) := dgL_law_2 (329, (.pop, 1)) (List.mem_of_getElem? (i := 33) rfl)
theorem dL_law_330 : decode cL_law 330 = .ok (.aload_n 2, 1) := dgL_law_2 (330, (.aload_n 2, 1)) (List.mem_of_getElem? (i := 34) rfl)
theorem dL_law_331 : decode cL_law 331 = .ok (.aload_n 0, 1) := dgL_law_2 (331, (.aload_n 0, 1)) (List.mem_of_getElem? (i := 35) rfl)
theorem dL_law_332 : decode cL_law 332 = .ok (.iload_n 3, 1) := dgL_law_2 (332, (.iload_n 3, 1)) (List.mem_of_getElem? (i := 36) rfl)
theorem dL_law_333 : decode cL_law 333 = .ok (.iconst 1, 1) := dgL_law_2 (333, (.iconst 1, 1)) (List.mem_of_getElem? (i := 37) rfl)
theorem dL_law_334 : decode cL_law 334 = .ok (.iadd, 1) := dgL_law_2 (334, (.iadd, 1)) (List.mem_of_getElem? (i := 38) rfl)
theorem dL_law_335 : decode cL_law 335 = .ok (.iaload, 1) := dgL_law_2 (335, (.iaload, 1)) (List.mem_of_getElem? (i := 39) rfl)
theorem dgL_law_3 : ∀ r ∈ ([(336, (.aload_n 0, 1)), (337, (.iload_n 3, 1)), (338, (.iconst 2, 1)), (339, (.iadd, 1)), (340, (.iaload, 1)), (341, (.aload_n 0, 1)), (342, (.iload_n 3, 1)), (343, (.iconst 3, 1)), (344, (.iadd, 1)), (345, (.iaload, 1)), (346, (.invokevirtual 27, 3)), (349, (.pop, 1)), (350, (.goto 1298, 3)), (353, (.aload_n 1, 1)), (354, (.aload_n 0, 1)), (355, (.iload_n 3, 1)), (356, (.iconst 1, 1)), (357, (.iadd, 1)), (358, (.iaload, 1)), (359, (.aload_n 0, 1)), (360, (.iload_n 3, 1)), (361, (.iconst 2, 1)), (362, (.iadd, 1)), (363, (.iaload, 1)), (364, (.invokevirtual 28, 3)), (367, (.pop, 1)), (368, (.aload_n 2, 1)), (369, (.aload_n 0, 1)), (370, (.iload_n 3, 1)), (371, (.iconst 1, 1)), (372, (.iadd, 1)), (373, (.iaload, 1)), (374, (.aload_n 0, 1)), (375, (.iload_n 3, 1)), (376, (.iconst 2, 1)), (377, (.iadd, 1)), (378, (.iaload, 1)), (379, (.invokevirtual 31, 3)), (382, (.pop, 1)), (383, (.goto 1265, 3))] : List (Nat × (Instr × Nat))), decode cL_law r.1 = .ok r.2 := by decide +kernel
theorem dL_law_336 : decode cL_law 336 = .ok (.aload_n 0, 1) := dgL_law_3 (336, (.aload_n 0, 1)) (List.mem_of_getElem? (i := 0) rfl)
theorem dL_law_337 : decode cL_law 337 = .ok (.iload_n 3, 1) := dgL_law_3 (337, (.iload_n 3, 1)) (List.mem_of_getElem? (i := 1) rfl)
theorem dL_law_338 : decode cL_law 338 = .ok (.iconst 2, 1) := dgL_law_3 (338, (.iconst 2, 1)) (List.mem_of_getElem? (i := 2) rfl)
theorem dL_law_339 : decode cL_law 339 = .ok (.iadd, 1) := dgL_law_3 (339, (.iadd, 1)) (List.mem_of_getElem? (i := 3) rfl)
theorem dL_law_340 : decode cL_law 340 = .ok (.iaload, 1) := dgL_law_3 (340, (.iaload, 1)) (List.mem_of_getElem? (i := 4) rfl)
theorem dL_law_341 : decode cL_law 341 = .ok (.aload_n 0, 1) := dgL_law_3 (341, (.aload_n 0, 1)) (List.mem_of_getElem? (i := 5) rfl)
theorem dL_law_342 : decode cL_law 342 = .ok (.iload_n 3, 1) := dgL_law_3 (342, (.iload_n 3, 1)) (List.mem_of_getElem? (i := 6) rfl)
theorem dL_law_343 : decode cL_law 343 = .ok (.iconst 3, 1) := dgL_law_3 (343, (.iconst 3, 1)) (List.mem_of_getElem? (i := 7) rfl)
theorem dL_law_344 : decode cL_law 344 = .ok (.iadd, 1) := dgL_law_3 (344, (.iadd, 1)) (List.mem_of_getElem? (i := 8) rfl)
theorem dL_law_345 : decode cL_law 345 = .ok (.iaload, 1) := dgL_law_3 (345, (.iaload, 1)) (List.mem_of_getElem? (i := 9) rfl)
theorem dL_law_346 : decode cL_law 346 = .ok (.invokevirtual 27, 3) := dgL_law_3 (346, (.invokevirtual 27, 3)) (List.mem_of_getElem? (i := 10) rfl)
theorem dL_law_349 : decode cL_law 349 = .ok (.pop, 1) := dgL_law_3 (349, (.pop, 1)) (List.mem_of_getElem? (i := 11) rfl)
theorem dL_law_350 : decode cL_law 350 = .ok (.goto 1298, 3) := dgL_law_3 (350, (.goto 1298, 3)) (List.mem_of_getElem? (i := 12) rfl)
theorem dL_law_353 : decode cL_law 353 = .ok (.aload_n 1, 1) := dgL_law_3 (353, (.aload_n 1, 1)) (List.mem_of_getElem? (i := 13) rfl)
theorem dL_law_354 : decode cL_law 354 = .ok (.aload_n 0, 1) := dgL_law_3 (354, (.aload_n 0, 1)) (List.mem_of_getElem? (i := 14) rfl)
theorem dL_law_355 : decode cL_law 355 = .ok (.iload_n 3, 1) := dgL_law_3 (355, (.iload_n 3, 1)) (List.mem_of_getElem? (i := 15) rfl)
theorem dL_law_356 : decode cL_law 356 = .ok (.iconst 1, 1) := dgL_law_3 (356, (.iconst 1, 1)) (List.mem_of_getElem? (i := 16) rfl)
theorem dL_law_357 : decode cL_law 357 = .ok (.iadd, 1) := dgL_law_3 (357, (.iadd, 1)) (List.mem_of_getElem? (i := 17) rfl)
theorem dL_law_358 : decode cL_law 358 = .ok (.iaload, 1) := dgL_law_3 (358, (.iaload, 1)) (List.mem_of_getElem? (i := 18) rfl)
theorem dL_law_359 : decode cL_law 359 = .ok (.aload_n 0, 1) := dgL_law_3 (359, (.aload_n 0, 1)) (List.mem_of_getElem? (i := 19) rfl)
theorem dL_law_360 : decode cL_law 360 = .ok (.iload_n 3, 1) := dgL_law_3 (360, (.iload_n 3, 1)) (List.mem_of_getElem? (i := 20) rfl)
theorem dL_law_361 : decode cL_law 361 = .ok (.iconst 2, 1) := dgL_law_3 (361, (.iconst 2, 1)) (List.mem_of_getElem? (i := 21) rfl)
theorem dL_law_362 : decode cL_law 362 = .ok (.iadd, 1) := dgL_law_3 (362, (.iadd, 1)) (List.mem_of_getElem? (i := 22) rfl)
theorem dL_law_363 : decode cL_law 363 = .ok (.iaload, 1) := dgL_law_3 (363, (.iaload, 1)) (List.mem_of_getElem? (i := 23) rfl)
theorem dL_law_364 : decode cL_law 364 = .ok (.invokevirtual 28, 3) := dgL_law_3 (364, (.invokevirtual 28, 3)) (List.mem_of_getElem? (i := 24) rfl)
theorem dL_law_367 : decode cL_law 367 = .ok (.pop, 1) := dgL_law_3 (367, (.pop, 1)) (List.mem_of_getElem? (i := 25) rfl)
theorem dL_law_368 : decode cL_law 368 = .ok (.aload_n 2, 1) := dgL_law_3 (368, (.aload_n 2, 1)) (List.mem_of_getElem? (i := 26) rfl)
theorem dL_law_369 : decode cL_law 369 = .ok (.aload_n 0, 1) := dgL_law_3 (369, (.aload_n 0, 1)) (List.mem_of_getElem? (i := 27) rfl)
theorem dL_law_370 : decode cL_law 370 = .ok (.iload_n 3, 1) := dgL_law_3 (370, (.iload_n 3, 1)) (List.mem_of_getElem? (i := 28) rfl)
theorem dL_law_371 : decode cL_law 371 = .ok (.iconst 1, 1) := dgL_law_3 (371, (.iconst 1, 1)) (List.mem_of_getElem? (i := 29) rfl)
theorem dL_law_372 : decode cL_law 372 = .ok (.iadd, 1) := dgL_law_3 (372, (.iadd, 1)) (List.mem_of_getElem? (i := 30) rfl)
theorem dL_law_373 : decode cL_law 373 = .ok (.iaload, 1) := dgL_law_3 (373, (.iaload, 1)) (List.mem_of_getElem? (i := 31) rfl)
theorem dL_law_374 : decode cL_law 374 = .ok (.aload_n 0, 1) := dgL_law_3 (374, (.aload_n 0, 1)) (List.mem_of_getElem? (i := 32) rfl)
theorem dL_law_375 : decode cL_law 375 = .ok (.iload_n 3, 1) := dgL_law_3 (375, (.iload_n 3, 1)) (List.mem_of_getElem? (i := 33) rfl)
theorem dL_law_376 : decode cL_law 376 = .ok (.iconst 2, 1) := dgL_law_3 (376, (.iconst 2, 1)) (List.mem_of_getElem? (i := 34) rfl)
theorem dL_law_377 : decode cL_law 377 = .ok (.iadd, 1) := dgL_law_3 (377, (.iadd, 1)) (List.mem_of_getElem? (i := 35) rfl)
theorem dL_law_378 : decode cL_law 378 = .ok (.iaload, 1) := dgL_law_3 (378, (.iaload, 1)) (List.mem_of_getElem? (i := 36) rfl)
theorem dL_law_379 : decode cL_law 379 = .ok (.invokevirtual 31, 3) := dgL_law_3 (379, (.invokevirtual 31, 3)) (List.mem_of_getElem? (i := 37) rfl)
theorem dL_law_382 : decode cL_law 382 = .ok (.pop, 1) := dgL_law_3 (382, (.pop, 1)) (List.mem_of_getElem? (i := 38) rfl)
theorem dL_law_383 : decode cL_law 383 = .ok (.goto 1265, 3) := dgL_law_3 (383, (.goto 1265, 3)) (List.mem_of_getElem? (i := 39) rfl)
theorem dgL_law_4 : ∀ r ∈ ([(386, (.aload_n 1, 1)), (387, (.invokevirtual 32, 3)), (390, (.pop, 1)), (391, (.aload_n 2, 1)), (392, (.invokevirtual 36, 3)), (395, (.pop, 1)), (396, (.goto 1252, 3)), (399, (.aload_n 1, 1)), (400, (.aload_n 0, 1)), (401, (.iload_n 3, 1)), (402, (.iconst 1, 1)), (403, (.iadd, 1)), (404, (.iaload, 1)), (405, (.aload_n 0, 1)), (406, (.iload_n 3, 1)), (407, (.iconst 2, 1)), (408, (.iadd, 1)), (409, (.iaload, 1)), (410, (.aload_n 0, 1)), (411, (.iload_n 3, 1)), (412, (.iconst 3, 1)), (413, (.iadd, 1)), (414, (.iaload, 1)), (415, (.aload_n 0, 1)), (416, (.iload_n 3, 1)), (417, (.iconst 4, 1)), (418, (.iadd, 1)), (419, (.iaload, 1)), (420, (.invokevirtual 37, 3)), (423, (.pop, 1)), (424, (.aload_n 2, 1)), (425, (.aload_n 0, 1)), (426, (.iload_n 3, 1)), (427, (.iconst 1, 1)), (428, (.iadd, 1)), (429, (.iaload, 1)), (430, (.aload_n 0, 1)), (431, (.iload_n 3, 1)), (432, (.iconst 2, 1)), (433, (.iadd, 1))] : List (Nat × (Instr × Nat))), decode cL_law r.1 = .ok r.2 := by decide +kernel
theorem dL_law_386 : decode cL_law 386 = .ok (.aload_n 1, 1) := dgL_law_4 (386, (.aload_n 1, 1)) (List.mem_of_getElem? (i := 0) rfl)
theorem dL_law_387 : decode cL_law 387 = .ok (.invokevirtual 32, 3) := dgL_law_4 (387, (.invokevirtual 32, 3)) (List.mem_of_getElem? (i := 1) rfl)
theorem dL_law_390 : decode cL_law 390 = .ok (.pop, 1) := dgL_law_4 (390, (.pop, 1)) (List.mem_of_getElem? (i := 2) rfl)
theorem dL_law_391 : decode cL_law 391 = .ok (.aload_n 2, 1) := dgL_law_4 (391, (.aload_n 2, 1)) (List.mem_of_getElem? (i := 3) rfl)
theorem dL_law_392 : decode cL_law 392 = .ok (.invokevirtual 36, 3) := dgL_law_4 (392, (.invokevirtual 36, 3)) (List.mem_of_getElem? (i := 4) rfl)
theorem dL_law_395 : decode cL_law 395 = .ok (.pop, 1) := dgL_law_4 (395, (.pop, 1)) (List.mem_of_getElem? (i := 5) rfl)
theorem dL_law_396 : decode cL_law 396 = .ok (.goto 1252, 3) := dgL_law_4 (396, (.goto 1252, 3)) (List.mem_of_getElem? (i := 6) rfl)
theorem dL_law_399 : decode cL_law 399 = .ok (.aload_n 1, 1) := dgL_law_4 (399, (.aload_n 1, 1)) (List.mem_of_getElem? (i := 7) rfl)
theorem dL_law_400 : decode cL_law 400 = .ok (.aload_n 0, 1) := dgL_law_4 (400, (.aload_n 0, 1)) (List.mem_of_getElem? (i := 8) rfl)
theorem dL_law_401 : decode cL_law 401 = .ok (.iload_n 3, 1) := dgL_law_4 (401, (.iload_n 3, 1)) (List.mem_of_getElem? (i := 9) rfl)
theorem dL_law_402 : decode cL_law 402 = .ok (.iconst 1, 1) := dgL_law_4 (402, (.iconst 1, 1)) (List.mem_of_getElem? (i := 10) rfl)
theorem dL_law_403 : decode cL_law 403 = .ok (.iadd, 1) := dgL_law_4 (403, (.iadd, 1)) (List.mem_of_getElem? (i := 11) rfl)
theorem dL_law_404 : decode cL_law 404 = .ok (.iaload, 1) := dgL_law_4 (404, (.iaload, 1)) (List.mem_of_getElem? (i := 12) rfl)
theorem dL_law_405 : decode cL_law 405 = .ok (.aload_n 0, 1) := dgL_law_4 (405, (.aload_n 0, 1)) (List.mem_of_getElem? (i := 13) rfl)
theorem dL_law_406 : decode cL_law 406 = .ok (.iload_n 3, 1) := dgL_law_4 (406, (.iload_n 3, 1)) (List.mem_of_getElem? (i := 14) rfl)
theorem dL_law_407 : decode cL_law 407 = .ok (.iconst 2, 1) := dgL_law_4 (407, (.iconst 2, 1)) (List.mem_of_getElem? (i := 15) rfl)
theorem dL_law_408 : decode cL_law 408 = .ok (.iadd, 1) := dgL_law_4 (408, (.iadd, 1)) (List.mem_of_getElem? (i := 16) rfl)
theorem dL_law_409 : decode cL_law 409 = .ok (.iaload, 1) := dgL_law_4 (409, (.iaload, 1)) (List.mem_of_getElem? (i := 17) rfl)
theorem dL_law_410 : decode cL_law 410 = .ok (.aload_n 0, 1) := dgL_law_4 (410, (.aload_n 0, 1)) (List.mem_of_getElem? (i := 18) rfl)
theorem dL_law_411 : decode cL_law 411 = .ok (.iload_n 3, 1) := dgL_law_4 (411, (.iload_n 3, 1)) (List.mem_of_getElem? (i := 19) rfl)
theorem dL_law_412 : decode cL_law 412 = .ok (.iconst 3, 1) := dgL_law_4 (412, (.iconst 3, 1)) (List.mem_of_getElem? (i := 20) rfl)
theorem dL_law_413 : decode cL_law 413 = .ok (.iadd, 1) := dgL_law_4 (413, (.iadd, 1)) (List.mem_of_getElem? (i := 21) rfl)
theorem dL_law_414 : decode cL_law 414 = .ok (.iaload, 1) := dgL_law_4 (414, (.iaload, 1)) (List.mem_of_getElem? (i := 22) rfl)
theorem dL_law_415 : decode cL_law 415 = .ok (.aload_n 0, 1) := dgL_law_4 (415, (.aload_n 0, 1)) (List.mem_of_getElem? (i := 23) rfl)
theorem dL_law_416 : decode cL_law 416 = .ok (.iload_n 3, 1) := dgL_law_4 (416, (.iload_n 3, 1)) (List.mem_of_getElem? (i := 24) rfl)
theorem dL_law_417 : decode cL_law 417 = .ok (.iconst 4, 1) := dgL_law_4 (417, (.iconst 4, 1)) (List.mem_of_getElem? (i := 25) rfl)
theorem dL_law_418 : decode cL_law 418 = .ok (.iadd, 1) := dgL_law_4 (418, (.iadd, 1)) (List.mem_of_getElem? (i := 26) rfl)
theorem dL_law_419 : decode cL_law 419 = .ok (.iaload, 1) := dgL_law_4 (419, (.iaload, 1)) (List.mem_of_getElem? (i := 27) rfl)
theorem dL_law_420 : decode cL_law 420 = .ok (.invokevirtual 37, 3) := dgL_law_4 (420, (.invokevirtual 37, 3)) (List.mem_of_getElem? (i := 28) rfl)
theorem dL_law_423 : decode cL_law 423 = .ok (.pop, 1) := dgL_law_4 (423, (.pop, 1)) (List.mem_of_getElem? (i := 29) rfl)
theorem dL_law_424 : decode cL_law 424 = .ok (.aload_n 2, 1) := dgL_law_4 (424, (.aload_n 2, 1)) (List.mem_of_getElem? (i := 30) rfl)
theorem dL_law_425 : decode cL_law 425 = .ok (.aload_n 0, 1) := dgL_law_4 (425, (.aload_n 0, 1)) (List.mem_of_getElem? (i := 31) rfl)
theorem dL_law_426 : decode cL_law 426 = .ok (.iload_n 3, 1) := dgL_law_4 (426, (.iload_n 3, 1)) (List.mem_of_getElem? (i := 32) rfl)
theorem dL_law_427 : decode cL_law 427 = .ok (.iconst 1, 1) := dgL_law_4 (427, (.iconst 1, 1)) (List.mem_of_getElem? (i := 33) rfl)
theorem dL_law_428 : decode cL_law 428 = .ok (.iadd, 1) := dgL_law_4 (428, (.iadd, 1)) (List.mem_of_getElem? (i := 34) rfl)
theorem dL_law_429 : decode cL_law 429 = .ok (.iaload, 1) := dgL_law_4 (429, (.iaload, 1)) (List.mem_of_getElem? (i := 35) rfl)
theorem dL_law_430 : decode cL_law 430 = .ok (.aload_n 0, 1) := dgL_law_4 (430, (.aload_n 0, 1)) (List.mem_of_getElem? (i := 36) rfl)
theorem dL_law_431 : decode cL_law 431 = .ok (.iload_n 3, 1) := dgL_law_4 (431, (.iload_n 3, 1)) (List.mem_of_getElem? (i := 37) rfl)
theorem dL_law_432 : decode cL_law 432 = .ok (.iconst 2, 1) := dgL_law_4 (432, (.iconst 2, 1)) (List.mem_of_getElem? (i := 38) rfl)
theorem dL_law_433 : decode cL_law 433 = .ok (.iadd, 1) := dgL_law_4 (433, (.iadd, 1)) (List.mem_of_getElem? (i := 39) rfl)
theorem dgL_law_5 : ∀ r ∈ ([(434, (.iaload, 1)), (435, (.aload_n 0, 1)), (436, (.iload_n 3, 1)), (437, (.iconst 3, 1)), (438, (.iadd, 1)), (439, (.iaload, 1)), (440, (.aload_n 0, 1)), (441, (.iload_n 3, 1)), (442, (.iconst 4, 1)), (443, (.iadd, 1)), (444, (.iaload, 1)), (445, (.invokevirtual 40, 3)), (448, (.pop, 1)), (449, (.goto 1199, 3)), (452, (.aload_n 1, 1)), (453, (.aload_n 0, 1)), (454, (.iload_n 3, 1)), (455, (.iconst 1, 1)), (456, (.iadd, 1)), (457, (.iaload, 1)), (458, (.aload_n 0, 1)), (459, (.iload_n 3, 1)), (460, (.iconst 2, 1)), (461, (.iadd, 1)), (462, (.iaload, 1)), (463, (.invokevirtual 41, 3)), (466, (.pop, 1)), (467, (.aload_n 2, 1)), (468, (.aload_n 0, 1)), (469, (.iload_n 3, 1)), (470, (.iconst 1, 1)), (471, (.iadd, 1)), (472, (.iaload, 1)), (473, (.aload_n 0, 1)), (474, (.iload_n 3, 1)), (475, (.iconst 2, 1)), (476, (.iadd, 1)), (477, (.iaload, 1)), (478, (.invokevirtual 44, 3)), (481, (.pop, 1))] : List (Nat × (Instr × Nat))), decode cL_law r.1 = .ok r.2 := by decide +kernel
theorem dL_law_434 : decode cL_law 434 = .ok (.iaload, 1) := dgL_law_5 (434, (.iaload, 1)) (List.mem_of_getElem? (i := 0) rfl)
theorem dL_law_435 : decode cL_law 435 = .ok (.aload_n 0, 1) := dgL_law_5 (435, (.aload_n 0, 1)) (List.mem_of_getElem? (i := 1) rfl)
theorem dL_law_436 : decode cL_law 436 = .ok (.iload_n 3, 1) := dgL_law_5 (436, (.iload_n 3, 1)) (List.mem_of_getElem? (i := 2) rfl)
theorem dL_law_437 : decode cL_law 437 = .ok (.iconst 3, 1) := dgL_law_5 (437, (.iconst 3, 1)) (List.mem_of_getElem? (i := 3) rfl)
theorem dL_law_438 : decode cL_law 438 = .ok (.iadd, 1) := dgL_law_5 (438, (.iadd, 1)) (List.mem_of_getElem? (i := 4) rfl)
theorem dL_law_439 : decode cL_law 439 = .ok (.iaload, 1) := dgL_law_5 (439, (.iaload, 1)) (List.mem_of_getElem? (i := 5) rfl)
theorem dL_law_440 : decode cL_law 440 = .ok (.aload_n 0, 1) := dgL_law_5 (440, (.aload_n 0, 1)) (List.mem_of_getElem? (i := 6) rfl)
theorem dL_law_441 : decode cL_law 441 = .ok (.iload_n 3, 1) := dgL_law_5 (441, (.iload_n 3, 1)) (List.mem_of_getElem? (i := 7) rfl)
theorem dL_law_442 : decode cL_law 442 = .ok (.iconst 4, 1) := dgL_law_5 (442, (.iconst 4, 1)) (List.mem_of_getElem? (i := 8) rfl)
theorem dL_law_443 : decode cL_law 443 = .ok (.iadd, 1) := dgL_law_5 (443, (.iadd, 1)) (List.mem_of_getElem? (i := 9) rfl)
theorem dL_law_444 : decode cL_law 444 = .ok (.iaload, 1) := dgL_law_5 (444, (.iaload, 1)) (List.mem_of_getElem? (i := 10) rfl)
theorem dL_law_445 : decode cL_law 445 = .ok (.invokevirtual 40, 3) := dgL_law_5 (445, (.invokevirtual 40, 3)) (List.mem_of_getElem? (i := 11) rfl)
theorem dL_law_448 : decode cL_law 448 = .ok (.pop, 1) := dgL_law_5 (448, (.pop, 1)) (List.mem_of_getElem? (i := 12) rfl)
theorem dL_law_449 : decode cL_law 449 = .ok (.goto 1199, 3) := dgL_law_5 (449, (.goto 1199, 3)) (List.mem_of_getElem? (i := 13) rfl)
theorem dL_law_452 : decode cL_law 452 = .ok (.aload_n 1, 1) := dgL_law_5 (452, (.aload_n 1, 1)) (List.mem_of_getElem? (i := 14) rfl)
theorem dL_law_453 : decode cL_law 453 = .ok (.aload_n 0, 1) := dgL_law_5 (453, (.aload_n 0, 1)) (List.mem_of_getElem? (i := 15) rfl)
theorem dL_law_454 : decode cL_law 454 = .ok (.iload_n 3, 1) := dgL_law_5 (454, (.iload_n 3, 1)) (List.mem_of_getElem? (i := 16) rfl)
theorem dL_law_455 : decode cL_law 455 = .ok (.iconst 1, 1) := dgL_law_5 (455, (.iconst 1, 1)) (List.mem_of_getElem? (i := 17) rfl)
theorem dL_law_456 : decode cL_law 456 = .ok (.iadd, 1) := dgL_law_5 (456, (.iadd, 1)) (List.mem_of_getElem? (i := 18) rfl)
theorem dL_law_457 : decode cL_law 457 = .ok (.iaload, 1) := dgL_law_5 (457, (.iaload, 1)) (List.mem_of_getElem? (i := 19) rfl)
theorem dL_law_458 : decode cL_law 458 = .ok (.aload_n 0, 1) := dgL_law_5 (458, (.aload_n 0, 1)) (List.mem_of_getElem? (i := 20) rfl)
theorem dL_law_459 : decode cL_law 459 = .ok (.iload_n 3, 1) := dgL_law_5 (459, (.iload_n 3, 1)) (List.mem_of_getElem? (i := 21) rfl)
theorem dL_law_460 : decode cL_law 460 = .ok (.iconst 2, 1) := dgL_law_5 (460, (.iconst 2, 1)) (List.mem_of_getElem? (i := 22) rfl)
theorem dL_law_461 : decode cL_law 461 = .ok (.iadd, 1) := dgL_law_5 (461, (.iadd, 1)) (List.mem_of_getElem? (i := 23) rfl)
theorem dL_law_462 : decode cL_law 462 = .ok (.iaload, 1) := dgL_law_5 (462, (.iaload, 1)) (List.mem_of_getElem? (i := 24) rfl)
theorem dL_law_463 : decode cL_law 463 = .ok (.invokevirtual 41, 3) := dgL_law_5 (463, (.invokevirtual 41, 3)) (List.mem_of_getElem? (i := 25) rfl)
theorem dL_law_466 : decode cL_law 466 = .ok (.pop, 1) := dgL_law_5 (466, (.pop, 1)) (List.mem_of_getElem? (i := 26) rfl)
theorem dL_law_467 : decode cL_law 467 = .ok (.aload_n 2, 1) := dgL_law_5 (467, (.aload_n 2, 1)) (List.mem_of_getElem? (i := 27) rfl)
theorem dL_law_468 : decode cL_law 468 = .ok (.aload_n 0, 1) := dgL_law_5 (468, (.aload_n 0, 1)) (List.mem_of_getElem? (i := 28) rfl)
theorem dL_law_469 : decode cL_law 469 = .ok (.iload_n 3, 1) := dgL_law_5 (469, (.iload_n 3, 1)) (List.mem_of_getElem? (i := 29) rfl)
theorem dL_law_470 : decode cL_law 470 = .ok (.iconst 1, 1) := dgL_law_5 (470, (.iconst 1, 1)) (List.mem_of_getElem? (i := 30) rfl)
theorem dL_law_471 : decode cL_law 471 = .ok (.iadd, 1) := dgL_law_5 (471, (.iadd, 1)) (List.mem_of_getElem? (i := 31) rfl)
theorem dL_law_472 : decode cL_law 472 = .ok (.iaload, 1) := dgL_law_5 (472, (.iaload, 1)) (List.mem_of_getElem? (i := 32) rfl)
theorem dL_law_473 : decode cL_law 473 = .ok (.aload_n 0, 1) := dgL_law_5 (473, (.aload_n 0, 1)) (List.mem_of_getElem? (i := 33) rfl)
theorem dL_law_474 : decode cL_law 474 = .ok (.iload_n 3, 1) := dgL_law_5 (474, (.iload_n 3, 1)) (List.mem_of_getElem? (i := 34) rfl)
theorem dL_law_475 : decode cL_law 475 = .ok (.iconst 2, 1) := dgL_law_5 (475, (.iconst 2, 1)) (List.mem_of_getElem? (i := 35) rfl)
theorem dL_law_476 : decode cL_law 476 = .ok (.iadd, 1) := dgL_law_5 (476, (.iadd, 1)) (List.mem_of_getElem? (i := 36) rfl)
theorem dL_law_477 : decode cL_law 477 = .ok (.iaload, 1) := dgL_law_5 (477, (.iaload, 1)) (List.mem_of_getElem? (i := 37) rfl)
theorem dL_law_478 : decode cL_law 478 = .ok (.invokevirtual 44, 3) := dgL_law_5 (478, (.invokevirtual 44, 3)) (List.mem_of_getElem? (i := 38) rfl)
theorem dL_law_481 : decode cL_law 481 = .ok (.pop, 1) := dgL_law_5 (481, (.pop, 1)) (List.mem_of_getElem? (i := 39) rfl)
theorem dgL_law_6 : ∀ r ∈ ([(482, (.goto 1166, 3)), (485, (.aload_n 1, 1)), (486, (.aload_n 0, 1)), (487, (.iload_n 3, 1)), (488, (.iconst 1, 1)), (489, (.iadd, 1)), (490, (.iaload, 1)), (491, (.invokevirtual 45, 3)), (494, (.pop, 1)), (495, (.aload_n 2, 1)), (496, (.aload_n 0, 1)), (497, (.iload_n 3, 1)), (498, (.iconst 1, 1)), (499, (.iadd, 1)), (500, (.iaload, 1)), (501, (.invokevirtual 49, 3)), (504, (.pop, 1)), (505, (.goto 1143, 3)), (508, (.aload_n 1, 1)), (509, (.aload_n 0, 1)), (510, (.iload_n 3, 1)), (511, (.iconst 1, 1)), (512, (.iadd, 1)), (513, (.iaload, 1)), (514, (.aload_n 0, 1)), (515, (.iload_n 3, 1)), (516, (.iconst 2, 1)), (517, (.iadd, 1)), (518, (.iaload, 1)), (519, (.aload_n 0, 1)), (520, (.iload_n 3, 1)), (521, (.iconst 3, 1)), (522, (.iadd, 1)), (523, (.iaload, 1)), (524, (.aload_n 0, 1)), (525, (.iload_n 3, 1)), (526, (.iconst 4, 1)), (527, (.iadd, 1)), (528, (.iaload, 1)), (529, (.aload_n 0, 1))] : List (Nat × (Instr × Nat))), decode cL_law r.1 = .ok r.2 := by decide +kernel
theorem dL_law_482 : decode cL_law 482 = .ok (.goto 1166, 3) := dgL_law_6 (482, (.goto 1166, 3)) (List.mem_of_getElem? (i := 0) rfl)
theorem dL_law_485 : decode cL_law 485 = .ok (.aload_n 1, 1) := dgL_law_6 (485, (.aload_n 1, 1)) (List.mem_of_getElem? (i := 1) rfl)
theorem dL_law_486 : decode cL_law 486 = .ok (.aload_n 0, 1) := dgL_law_6 (486, (.aload_n 0, 1)) (List.mem_of_getElem? (i := 2) rfl)
theorem dL_law_487 : decode cL_law 487 = .ok (.iload_n 3, 1) := dgL_law_6 (487, (.iload_n 3, 1)) (List.mem_of_getElem? (i := 3) rfl)
theorem dL_law_488 : decode cL_law 488 = .ok (.iconst 1, 1) := dgL_law_6 (488, (.iconst 1, 1)) (List.mem_of_getElem? (i := 4) rfl)
theorem dL_law_489 : decode cL_law 489 = .ok (.iadd, 1) := dgL_law_6 (489, (.iadd, 1)) (List.mem_of_getElem? (i := 5) rfl)
theorem dL_law_490 : decode cL_law 490 = .ok (.iaload, 1) := dgL_law_6 (490, (.iaload, 1)) (List.mem_of_getElem? (i := 6) rfl)
theorem dL_law_491 : decode cL_law 491 = .ok (.invokevirtual 45, 3) := dgL_law_6 (491, (.invokevirtual 45, 3)) (List.mem_of_getElem? (i := 7) rfl)
theorem dL_law_494 : decode cL_law 494 = .ok (.pop, 1) := dgL_law_6 (494, (.pop, 1)) (List.mem_of_getElem? (i := 8) rfl)
theorem dL_law_495 : decode cL_law 495 = .ok (.aload_n 2, 1) := dgL_law_6 (495, (.aload_n 2, 1)) (List.mem_of_getElem? (i := 9) rfl)
theorem dL_law_496 : decode cL_law 496 = .ok (.aload_n 0, 1) := dgL_law_6 (496, (.aload_n 0, 1)) (List.mem_of_getElem? (i := 10) rfl)
theorem dL_law_497 : decode cL_law 497 = .ok (.iload_n 3, 1) := dgL_law_6 (497, (.iload_n 3, 1)) (List.mem_of_getElem? (i := 11) rfl)
theorem dL_law_498 : decode cL_law 498 = .ok (.iconst 1, 1) := dgL_law_6 (498, (.iconst 1, 1)) (List.mem_of_getElem? (i := 12) rfl)
theorem dL_law_499 : decode cL_law 499 = .ok (.iadd, 1) := dgL_law_6 (499, (.iadd, 1)) (List.mem_of_getElem? (i := 13) rfl)
theorem dL_law_500 : decode cL_law 500 = .ok (.iaload, 1) := dgL_law_6 (500, (.iaload, 1)) (List.mem_of_getElem? (i := 14) rfl)
theorem dL_law_501 : decode cL_law 501 = .ok (.invokevirtual 49, 3) := dgL_law_6 (501, (.invokevirtual 49, 3)) (List.mem_of_getElem? (i := 15) rfl)
theorem dL_law_504 : decode cL_law 504 = .ok (.pop, 1) := dgL_law_6 (504, (.pop, 1)) (List.mem_of_getElem? (i := 16) rfl)
theorem dL_law_505 : decode cL_law 505 = .ok (.goto 1143, 3) := dgL_law_6 (505, (.goto 1143, 3)) (List.mem_of_getElem? (i := 17) rfl)
theorem dL_law_508 : decode cL_law 508 = .ok (.aload_n 1, 1) := dgL_law_6 (508, (.aload_n 1, 1)) (List.mem_of_getElem? (i := 18) rfl)
theorem dL_law_509 : decode cL_law 509 = .ok (.aload_n 0, 1) := dgL_law_6 (509, (.aload_n 0, 1)) (List.mem_of_getElem? (i := 19) rfl)
theorem dL_law_510 : decode cL_law 510 = .ok (.iload_n 3, 1) := dgL_law_6 (510, (.iload_n 3, 1)) (List.mem_of_getElem? (i := 20) rfl)
theorem dL_law_511 : decode cL_law 511 = .ok (.iconst 1, 1) := dgL_law_6 (511, (.iconst 1, 1)) (List.mem_of_getElem? (i := 21) rfl)
theorem dL_law_512 : decode cL_law 512 = .ok (.iadd, 1) := dgL_law_6 (512, (.iadd, 1)) (List.mem_of_getElem? (i := 22) rfl)
theorem dL_law_513 : decode cL_law 513 = .ok (.iaload, 1) := dgL_law_6 (513, (.iaload, 1)) (List.mem_of_getElem? (i := 23) rfl)
theorem dL_law_514 : decode cL_law 514 = .ok (.aload_n 0, 1) := dgL_law_6 (514, (.aload_n 0, 1)) (List.mem_of_getElem? (i := 24) rfl)
theorem dL_law_515 : decode cL_law 515 = .ok (.iload_n 3, 1) := dgL_law_6 (515, (.iload_n 3, 1)) (List.mem_of_getElem? (i := 25) rfl)
theorem dL_law_516 : decode cL_law 516 = .ok (.iconst 2, 1) := dgL_law_6 (516, (.iconst 2, 1)) (List.mem_of_getElem? (i := 26) rfl)
theorem dL_law_517 : decode cL_law 517 = .ok (.iadd, 1) := dgL_law_6 (517, (.iadd, 1)) (List.mem_of_getElem? (i := 27) rfl)
theorem dL_law_518 : decode cL_law 518 = .ok (.iaload, 1) := dgL_law_6 (518, (.iaload, 1)) (List.mem_of_getElem? (i := 28) rfl)
theorem dL_law_519 : decode cL_law 519 = .ok (.aload_n 0, 1) := dgL_law_6 (519, (.aload_n 0, 1)) (List.mem_of_getElem? (i := 29) rfl)
theorem dL_law_520 : decode cL_law 520 = .ok (.iload_n 3, 1) := dgL_law_6 (520, (.iload_n 3, 1)) (List.mem_of_getElem? (i := 30) rfl)
theorem dL_law_521 : decode cL_law 521 = .ok (.iconst 3, 1) := dgL_law_6 (521, (.iconst 3, 1)) (List.mem_of_getElem? (i := 31) rfl)
theorem dL_law_522 : decode cL_law 522 = .ok (.iadd, 1) := dgL_law_6 (522, (.iadd, 1)) (List.mem_of_getElem? (i := 32) rfl)
theorem dL_law_523 : decode cL_law 523 = .ok (.iaload, 1) := dgL_law_6 (523, (.iaload, 1)) (List.mem_of_getElem? (i := 33) rfl)
theorem dL_law_524 : decode cL_law 524 = .ok (.aload_n 0, 1) := dgL_law_6 (524, (.aload_n 0, 1)) (List.mem_of_getElem? (i := 34) rfl)
theorem dL_law_525 : decode cL_law 525 = .ok (.iload_n 3, 1) := dgL_law_6 (525, (.iload_n 3, 1)) (List.mem_of_getElem? (i := 35) rfl)
theorem dL_law_526 : decode cL_law 526 = .ok (.iconst 4, 1) := dgL_law_6 (526, (.iconst 4, 1)) (List.mem_of_getElem? (i := 36) rfl)
theorem dL_law_527 : decode cL_law 527 = .ok (.iadd, 1) := dgL_law_6 (527, (.iadd, 1)) (List.mem_of_getElem? (i := 37) rfl)
theorem dL_law_528 : decode cL_law 528 = .ok (.iaload, 1) := dgL_law_6 (528, (.iaload, 1)) (List.mem_of_getElem? (i := 38) rfl)
theorem dL_law_529 : decode cL_law 529 = .ok (.aload_n 0, 1) := dgL_law_6 (529, (.aload_n 0, 1)) (List.mem_of_getElem? (i := 39) rfl)
theorem dgL_law_7 : ∀ r ∈ ([(530, (.iload_n 3, 1)), (531, (.iconst 5, 1)), (532, (.iadd, 1)), (533, (.iaload, 1)), (534, (.invokevirtual 50, 3)), (537, (.pop, 1)), (538, (.aload_n 2, 1)), (539, (.aload_n 0, 1)), (540, (.iload_n 3, 1)), (541, (.iconst 1, 1)), (542, (.iadd, 1)), (543, (.iaload, 1)), (544, (.aload_n 0, 1)), (545, (.iload_n 3, 1)), (546, (.iconst 2, 1)), (547, (.iadd, 1)), (548, (.iaload, 1)), (549, (.aload_n 0, 1)), (550, (.iload_n 3, 1)), (551, (.iconst 3, 1)), (552, (.iadd, 1)), (553, (.iaload, 1)), (554, (.aload_n 0, 1)), (555, (.iload_n 3, 1)), (556, (.iconst 4, 1)), (557, (.iadd, 1)), (558, (.iaload, 1)), (559, (.aload_n 0, 1)), (560, (.iload_n 3, 1)), (561, (.iconst 5, 1)), (562, (.iadd, 1)), (563, (.iaload, 1)), (564, (.invokevirtual 54, 3)), (567, (.pop, 1)), (568, (.goto 1080, 3)), (571, (.aload_n 1, 1)), (572, (.aload_n 0, 1)), (573, (.iload_n 3, 1)), (574, (.iconst 1, 1)), (575, (.iadd, 1))] : List (Nat × (Instr × Nat))), decode cL_law r.1 = .ok r.2 := by decide +kernel
theorem dL_law_530 : decode cL_law 530 = .ok (.iload_n 3, 1) := dgL_law_7 (530, (.iload_n 3, 1)) (List.mem_of_getElem? (i := 0) rfl)
theorem dL_law_531 : decode cL_law 531 = .ok (.iconst 5, 1) := dgL_law_7 (531, (.iconst 5, 1)) (List.mem_of_getElem? (i := 1) rfl)
theorem dL_law_532 : decode cL_law 532 = .ok (.iadd, 1) := dgL_law_7 (532, (.iadd, 1)) (List.mem_of_getElem? (i := 2) rfl)
theorem dL_law_533 : decode cL_law 533 = .ok (.iaload, 1) := dgL_law_7 (533, (.iaload, 1)) (List.mem_of_getElem? (i := 3) rfl)
theorem dL_law_534 : decode cL_law 534 = .ok (.invokevirtual 50, 3) := dgL_law_7 (534, (.invokevirtual 50, 3)) (List.mem_of_getElem? (i := 4) rfl)
theorem dL_law_537 : decode cL_law 537 = .ok (.pop, 1) := dgL_law_7 (537, (.pop, 1)) (List.mem_of_getElem? (i := 5) rfl)
theorem dL_law_538 : decode cL_law 538 = .ok (.aload_n 2, 1) := dgL_law_7 (538, (.aload_n 2, 1)) (List.mem_of_getElem? (i := 6) rfl)
theorem dL_law_539 : decode cL_law 539 = .ok (.aload_n 0, 1) := dgL_law_7 (539, (.aload_n 0, 1)) (List.mem_of_getElem? (i := 7) rfl)
theorem dL_law_540 : decode cL_law 540 = .ok (.iload_n 3, 1) := dgL_law_7 (540, (.iload_n 3, 1)) (List.mem_of_getElem? (i := 8) rfl)
theorem dL_law_541 : decode cL_law 541 = .ok (.iconst 1, 1) := dgL_law_7 (541, (.iconst 1, 1)) (List.mem_of_getElem? (i := 9) rfl)
theorem dL_law_542 : decode cL_law 542 = .ok (.iadd, 1) := dgL_law_7 (542, (.iadd, 1)) (List.mem_of_getElem? (i := 10) rfl)
theorem dL_law_543 : decode cL_law 543 = .ok (.iaload, 1) := dgL_law_7 (543, (.iaload, 1)) (List.mem_of_getElem? (i := 11) rfl)
theorem dL_law_544 : decode cL_law 544 = .ok (.aload_n 0, 1) := dgL_law_7 (544, (.aload_n 0, 1)) (List.mem_of_getElem? (i := 12) rfl)
theorem dL_law_545 : decode cL_law 545 = .ok (.iload_n 3, 1) := dgL_law_7 (545, (.iload_n 3, 1)) (List.mem_of_getElem? (i := 13) rfl)
theorem dL_law_546 : decode cL_law 546 = .ok (.iconst 2, 1) := dgL_law_7 (546, (.iconst 2, 1)) (List.mem_of_getElem? (i := 14) rfl)
theorem dL_law_547 : decode cL_law 547 = .ok (.iadd, 1) := dgL_law_7 (547, (.iadd, 1)) (List.mem_of_getElem? (i := 15) rfl)
theorem dL_law_548 : decode cL_law 548 = .ok (.iaload, 1) := dgL_law_7 (548, (.iaload, 1)) (List.mem_of_getElem? (i := 16) rfl)
theorem dL_law_549 : decode cL_law 549 = .ok (.aload_n 0, 1) := dgL_law_7 (549, (.aload_n 0, 1)) (List.mem_of_getElem? (i := 17) rfl)
theorem dL_law_550 : decode cL_law 550 = .ok (.iload_n 3, 1) := dgL_law_7 (550, (.iload_n 3, 1)) (List.mem_of_getElem? (i := 18) rfl)
theorem dL_law_551 : decode cL_law 551 = .ok (.iconst 3, 1) := dgL_law_7 (551, (.iconst 3, 1)) (List.mem_of_getElem? (i := 19) rfl)
theorem dL_law_552 : decode cL_law 552 = .ok (.iadd, 1) := dgL_law_7 (552, (.iadd, 1)) (List.mem_of_getElem? (i := 20) rfl)
theorem dL_law_553 : decode cL_law 553 = .ok (.iaload, 1) := dgL_law_7 (553, (.iaload, 1)) (List.mem_of_getElem? (i := 21) rfl)
theorem dL_law_554 : decode cL_law 554 = .ok (.aload_n 0, 1) := dgL_law_7 (554, (.aload_n 0, 1)) (List.mem_of_getElem? (i := 22) rfl)
theorem dL_law_555 : decode cL_law 555 = .ok (.iload_n 3, 1) := dgL_law_7 (555, (.iload_n 3, 1)) (List.mem_of_getElem? (i := 23) rfl)
theorem dL_law_556 : decode cL_law 556 = .ok (.iconst 4, 1) := dgL_law_7 (556, (.iconst 4, 1)) (List.mem_of_getElem? (i := 24) rfl)
theorem dL_law_557 : decode cL_law 557 = .ok (.iadd, 1) := dgL_law_7 (557, (.iadd, 1)) (List.mem_of_getElem? (i := 25) rfl)
theorem dL_law_558 : decode cL_law 558 = .ok (.iaload, 1) := dgL_law_7 (558, (.iaload, 1)) (List.mem_of_getElem? (i := 26) rfl)
theorem dL_law_559 : decode cL_law 559 = .ok (.aload_n 0, 1) := dgL_law_7 (559, (.aload_n 0, 1)) (List.mem_of_getElem? (i := 27) rfl)
theorem dL_law_560 : decode cL_law 560 = .ok (.iload_n 3, 1) := dgL_law_7 (560, (.iload_n 3, 1)) (List.mem_of_getElem? (i := 28) rfl)
theorem dL_law_561 : decode cL_law 561 = .ok (.iconst 5, 1) := dgL_law_7 (561, (.iconst 5, 1)) (List.mem_of_getElem? (i := 29) rfl)
theorem dL_law_562 : decode cL_law 562 = .ok (.iadd, 1) := dgL_law_7 (562, (.iadd, 1)) (List.mem_of_getElem? (i := 30) rfl)
theorem dL_law_563 : decode cL_law 563 = .ok (.iaload, 1) := dgL_law_7 (563, (.iaload, 1)) (List.mem_of_getElem? (i := 31) rfl)
theorem dL_law_564 : decode cL_law 564 = .ok (.invokevirtual 54, 3) := dgL_law_7 (564, (.invokevirtual 54, 3)) (List.mem_of_getElem? (i := 32) rfl)
theorem dL_law_567 : decode cL_law 567 = .ok (.pop, 1) := dgL_law_7 (567, (.pop, 1)) (List.mem_of_getElem? (i := 33) rfl)
theorem dL_law_568 : decode cL_law 568 = .ok (.goto 1080, 3) := dgL_law_7 (568, (.goto 1080, 3)) (List.mem_of_getElem? (i := 34) rfl)
theorem dL_law_571 : decode cL_law 571 = .ok (.aload_n 1, 1) := dgL_law_7 (571, (.aload_n 1, 1)) (List.mem_of_getElem? (i := 35) rfl)
theorem dL_law_572 : decode cL_law 572 = .ok (.aload_n 0, 1) := dgL_law_7 (572, (.aload_n 0, 1)) (List.mem_of_getElem? (i := 36) rfl)
theorem dL_law_573 : decode cL_law 573 = .ok (.iload_n 3, 1) := dgL_law_7 (573, (.iload_n 3, 1)) (List.mem_of_getElem? (i := 37) rfl)
theorem dL_law_574 : decode cL_law 574 = .ok (.iconst 1, 1) := dgL_law_7 (574, (.iconst 1, 1)) (List.mem_of_getElem? (i := 38) rfl)
theorem dL_law_575 : decode cL_law 575 = .ok (.iadd, 1) := dgL_law_7 (575, (.iadd, 1)) (List.mem_of_getElem? (i := 39) rfl)
theorem dgL_law_8 : ∀ r ∈ ([(576, (.iaload, 1)), (577, (.invokevirtual 55, 3)), (580, (.pop, 1)), (581, (.aload_n 2, 1)), (582, (.aload_n 0, 1)), (583, (.iload_n 3, 1)), (584, (.iconst 1, 1)), (585, (.iadd, 1)), (586, (.iaload, 1)), (587, (.invokevirtual 58, 3)), (590, (.pop, 1)), (591, (.goto 1057, 3)), (594, (.aload_n 1, 1)), (595, (.invokevirtual 59, 3)), (598, (.pop, 1)), (599, (.aload_n 2, 1)), (600, (.invokevirtual 62, 3)), (603, (.pop, 1)), (604, (.goto 1044, 3)), (607, (.aload_n 1, 1)), (608, (.invokevirtual 63, 3)), (611, (.pop, 1)), (612, (.aload_n 2, 1)), (613, (.invokevirtual 66, 3)), (616, (.pop, 1)), (617, (.goto 1031, 3)), (620, (.aload_n 1, 1)), (621, (.invokevirtual 67, 3)), (624, (.pop, 1)), (625, (.aload_n 2, 1)), (626, (.invokevirtual 70, 3)), (629, (.pop, 1)), (630, (.goto 1018, 3)), (633, (.aload_n 1, 1)), (634, (.invokevirtual 71, 3)), (637, (.pop, 1)), (638, (.aload_n 2, 1)), (639, (.invokevirtual 74, 3)), (642, (.pop, 1)), (643, (.goto 1005, 3))] : List (Nat × (Instr × Nat))), decode cL_law r.1 = .ok r.2 := by decide +kernel
theorem dL_law_576 : decode cL_law 576 = .ok (.iaload, 1) := dgL_law_8 (576, (.iaload, 1)) (List.mem_of_getElem? (i := 0) rfl)
theorem dL_law_577 : decode cL_law 577 = .ok (.invokevirtual 55, 3) := dgL_law_8 (577, (.invokevirtual 55, 3)) (List.mem_of_getElem? (i := 1) rfl)
theorem dL_law_580 : decode cL_law 580 = .ok (.pop, 1) := dgL_law_8 (580, (.pop, 1)) (List.mem_of_getElem? (i := 2) rfl)
theorem dL_law_581 : decode cL_law 581 = .ok (.aload_n 2, 1) := dgL_law_8 (581, (.aload_n 2, 1)) (List.mem_of_getElem? (i := 3) rfl)
theorem dL_law_582 : decode cL_law 582 = .ok (.aload_n 0, 1) := dgL_law_8 (582, (.aload_n 0, 1)) (List.mem_of_getElem? (i := 4) rfl)
theorem dL_law_583 : decode cL_law 583 = .ok (.iload_n 3, 1) := dgL_law_8 (583, (.iload_n 3, 1)) (List.mem_of_getElem? (i := 5) rfl)
theorem dL_law_584 : decode cL_law 584 = .ok (.iconst 1, 1) := dgL_law_8 (584, (.iconst 1, 1)) (List.mem_of_getElem? (i := 6) rfl)
theorem dL_law_585 : decode cL_law 585 = .ok (.iadd, 1) := dgL_law_8 (585, (.iadd, 1)) (List.mem_of_getElem? (i := 7) rfl)
theorem dL_law_586 : decode cL_law 586 = .ok (.iaload, 1) := dgL_law_8 (586, (.iaload, 1)) (List.mem_of_getElem? (i := 8) rfl)
theorem dL_law_587 : decode cL_law 587 = .ok (.invokevirtual 58, 3) := dgL_law_8 (587, (.invokevirtual 58, 3)) (List.mem_of_getElem? (i := 9) rfl)
theorem dL_law_590 : decode cL_law 590 = .ok (.pop, 1) := dgL_law_8 (590, (.pop, 1)) (List.mem_of_getElem? (i := 10) rfl)
theorem dL_law_591 : decode cL_law 591 = .ok (.goto 1057, 3) := dgL_law_8 (591, (.goto 1057, 3)) (List.mem_of_getElem? (i := 11) rfl)
theorem dL_law_594 : decode cL_law 594 = .ok (.aload_n 1, 1) := dgL_law_8 (594, (.aload_n 1, 1)) (List.mem_of_getElem? (i := 12) rfl)
theorem dL_law_595 : decode cL_law 595 = .ok (.invokevirtual 59, 3) := dgL_law_8 (595, (.invokevirtual 59, 3)) (List.mem_of_getElem? (i := 13) rfl)
theorem dL_law_598 : decode cL_law 598 = .ok (.pop, 1) := dgL_law_8 (598, (.pop, 1)) (List.mem_of_getElem? (i := 14) rfl)
theorem dL_law_599 : decode cL_law 599 = .ok (.aload_n 2, 1) := dgL_law_8 (599, (.aload_n 2, 1)) (List.mem_of_getElem? (i := 15) rfl)
theorem dL_law_600 : decode cL_law 600 = .ok (.invokevirtual 62, 3) := dgL_law_8 (600, (.invokevirtual 62, 3)) (List.mem_of_getElem? (i := 16) rfl)
theorem dL_law_603 : decode cL_law 603 = .ok (.pop, 1) := dgL_law_8 (603, (.pop, 1)) (List.mem_of_getElem? (i := 17) rfl)
theorem dL_law_604 : decode cL_law 604 = .ok (.goto 1044, 3) := dgL_law_8 (604, (.goto 1044, 3)) (List.mem_of_getElem? (i := 18) rfl)
theorem dL_law_607 : decode cL_law 607 = .ok (.aload_n 1, 1) := dgL_law_8 (607, (.aload_n 1, 1)) (List.mem_of_getElem? (i := 19) rfl)
theorem dL_law_608 : decode cL_law 608 = .ok (.invokevirtual 63, 3) := dgL_law_8 (608, (.invokevirtual 63, 3)) (List.mem_of_getElem? (i := 20) rfl)
theorem dL_law_611 : decode cL_law 611 = .ok (.pop, 1) := dgL_law_8 (611, (.pop, 1)) (List.mem_of_getElem? (i := 21) rfl)
theorem dL_law_612 : decode cL_law 612 = .ok (.aload_n 2, 1) := dgL_law_8 (612, (.aload_n 2, 1)) (List.mem_of_getElem? (i := 22) rfl)
theorem dL_law_613 : decode cL_law 613 = .ok (.invokevirtual 66, 3) := dgL_law_8 (613, (.invokevirtual 66, 3)) (List.mem_of_getElem? (i := 23) rfl)
theorem dL_law_616 : decode cL_law 616 = .ok (.pop, 1) := dgL_law_8 (616, (.pop, 1)) (List.mem_of_getElem? (i := 24) rfl)
theorem dL_law_617 : decode cL_law 617 = .ok (.goto 1031, 3) := dgL_law_8 (617, (.goto 1031, 3)) (List.mem_of_getElem? (i := 25) rfl)
theorem dL_law_620 : decode cL_law 620 = .ok (.aload_n 1, 1) := dgL_law_8 (620, (.aload_n 1, 1)) (List.mem_of_getElem? (i := 26) rfl)
theorem dL_law_621 : decode cL_law 621 = .ok (.invokevirtual 67, 3) := dgL_law_8 (621, (.invokevirtual 67, 3)) (List.mem_of_getElem? (i := 27) rfl)
theorem dL_law_624 : decode cL_law 624 = .ok (.pop, 1) := dgL_law_8 (624, (.pop, 1)) (List.mem_of_getElem? (i := 28) rfl)
theorem dL_law_625 : decode cL_law 625 = .ok (.aload_n 2, 1) := dgL_law_8 (625, (.aload_n 2, 1)) (List.mem_of_getElem? (i := 29) rfl)
theorem dL_law_626 : decode cL_law 626 = .ok (.invokevirtual 70, 3) := dgL_law_8 (626, (.invokevirtual 70, 3)) (List.mem_of_getElem? (i := 30) rfl)
theorem dL_law_629 : decode cL_law 629 = .ok (.pop, 1) := dgL_law_8 (629, (.pop, 1)) (List.mem_of_getElem? (i := 31) rfl)
theorem dL_law_630 : decode cL_law 630 = .ok (.goto 1018, 3) := dgL_law_8 (630, (.goto 1018, 3)) (List.mem_of_getElem? (i := 32) rfl)
theorem dL_law_633 : decode cL_law 633 = .ok (.aload_n 1, 1) := dgL_law_8 (633, (.aload_n 1, 1)) (List.mem_of_getElem? (i := 33) rfl)
theorem dL_law_634 : decode cL_law 634 = .ok (.invokevirtual 71, 3) := dgL_law_8 (634, (.invokevirtual 71, 3)) (List.mem_of_getElem? (i := 34) rfl)
theorem dL_law_637 : decode cL_law 637 = .ok (.pop, 1) := dgL_law_8 (637, (.pop, 1)) (List.mem_of_getElem? (i := 35) rfl)
theorem dL_law_638 : decode cL_law 638 = .ok (.aload_n 2, 1) := dgL_law_8 (638, (.aload_n 2, 1)) (List.mem_of_getElem? (i := 36) rfl)
theorem dL_law_639 : decode cL_law 639 = .ok (.invokevirtual 74, 3) := dgL_law_8 (639, (.invokevirtual 74, 3)) (List.mem_of_getElem? (i := 37) rfl)
theorem dL_law_642 : decode cL_law 642 = .ok (.pop, 1) := dgL_law_8 (642, (.pop, 1)) (List.mem_of_getElem? (i := 38) rfl)
theorem dL_law_643 : decode cL_law 643 = .ok (.goto 1005, 3) := dgL_law_8 (643, (.goto 1005, 3)) (List.mem_of_getElem? (i := 39) rfl)
theorem dgL_law_9 : ∀ r ∈ ([(646, (.aload_n 1, 1)), (647, (.aload_n 0, 1)), (648, (.iload_n 3, 1)), (649, (.iconst 1, 1)), (650, (.iadd, 1)), (651, (.iaload, 1)), (652, (.invokevirtual 75, 3)), (655, (.pop, 1)), (656, (.aload_n 2, 1)), (657, (.aload_n 0, 1)), (658, (.iload_n 3, 1)), (659, (.iconst 1, 1)), (660, (.iadd, 1)), (661, (.iaload, 1)), (662, (.invokevirtual 78, 3)), (665, (.pop, 1)), (666, (.goto 982, 3)), (669, (.aload_n 1, 1)), (670, (.aload_n 0, 1)), (671, (.iload_n 3, 1)), (672, (.iconst 1, 1)), (673, (.iadd, 1)), (674, (.iaload, 1)), (675, (.aload_n 0, 1)), (676, (.iload_n 3, 1)), (677, (.iconst 2, 1)), (678, (.iadd, 1)), (679, (.iaload, 1)), (680, (.aload_n 0, 1)), (681, (.iload_n 3, 1)), (682, (.iconst 3, 1)), (683, (.iadd, 1)), (684, (.iaload, 1)), (685, (.aload_n 0, 1)), (686, (.iload_n 3, 1)), (687, (.iconst 4, 1)), (688, (.iadd, 1)), (689, (.iaload, 1)), (690, (.invokevirtual 79, 3)), (693, (.pop, 1))] : List (Nat × (Instr × Nat))), decode cL_law r.1 = .ok r.2 := by decide +kernel
theorem dL_law_646 : decode cL_law 646 = .ok (.aload_n 1, 1) := dgL_law_9 (646, (.aload_n 1, 1)) (List.mem_of_getElem? (i := 0) rfl)
theorem dL_law_647 : decode cL_law 647 = .ok (.aload_n 0, 1) := dgL_law_9 (647, (.aload_n 0, 1)) (List.mem_of_getElem? (i := 1) rfl)
theorem dL_law_648 : decode cL_law 648 = .ok (.iload_n 3, 1) := dgL_law_9 (648, (.iload_n 3, 1)) (List.mem_of_getElem? (i := 2) rfl)
theorem dL_law_649 : decode cL_law 649 = .ok (.iconst 1, 1) := dgL_law_9 (649, (.iconst 1, 1)) (List.mem_of_getElem? (i := 3) rfl)
theorem dL_law_650 : decode cL_law 650 = .ok (.iadd, 1) := dgL_law_9 (650, (.iadd, 1)) (List.mem_of_getElem? (i := 4) rfl)
theorem dL_law_651 : decode cL_law 651 = .ok (.iaload, 1) := dgL_law_9 (651, (.iaload, 1)) (List.mem_of_getElem? (i := 5) rfl)
theorem dL_law_652 : decode cL_law 652 = .ok (.invokevirtual 75, 3) := dgL_law_9 (652, (.invokevirtual 75, 3)) (List.mem_of_getElem? (i := 6) rfl)
theorem dL_law_655 : decode cL_law 655 = .ok (.pop, 1) := dgL_law_9 (655, (.pop, 1)) (List.mem_of_getElem? (i := 7) rfl)
theorem dL_law_656 : decode cL_law 656 = .ok (.aload_n 2, 1) := dgL_law_9 (656, (.aload_n 2, 1)) (List.mem_of_getElem? (i := 8) rfl)
theorem dL_law_657 : decode cL_law 657 = .ok (.aload_n 0, 1) := dgL_law_9 (657, (.aload_n 0, 1)) (List.mem_of_getElem? (i := 9) rfl)
theorem dL_law_658 : decode cL_law 658 = .ok (.iload_n 3, 1) := dgL_law_9 (658, (.iload_n 3, 1)) (List.mem_of_getElem? (i := 10) rfl)
theorem dL_law_659 : decode cL_law 659 = .ok (.iconst 1, 1) := dgL_law_9 (659, (.iconst 1, 1)) (List.mem_of_getElem? (i := 11) rfl)
theorem dL_law_660 : decode cL_law 660 = .ok (.iadd, 1) := dgL_law_9 (660, (.iadd, 1)) (List.mem_of_getElem? (i := 12) rfl)
theorem dL_law_661 : decode cL_law 661 = .ok (.iaload, 1) := dgL_law_9 (661, (.iaload, 1)) (List.mem_of_getElem? (i := 13) rfl)
theorem dL_law_662 : decode cL_law 662 = .ok (.invokevirtual 78, 3) := dgL_law_9 (662, (.invokevirtual 78, 3)) (List.mem_of_getElem? (i := 14) rfl)
theorem dL_law_665 : decode cL_law 665 = .ok (.pop, 1) := dgL_law_9 (665, (.pop, 1)) (List.mem_of_getElem? (i := 15) rfl)
theorem dL_law_666 : decode cL_law 666 = .ok (.goto 982, 3) := dgL_law_9 (666, (.goto 982, 3)) (List.mem_of_getElem? (i := 16) rfl)
theorem dL_law_669 : decode cL_law 669 = .ok (.aload_n 1, 1) := dgL_law_9 (669, (.aload_n 1, 1)) (List.mem_of_getElem? (i := 17) rfl)
theorem dL_law_670 : decode cL_law 670 = .ok (.aload_n 0, 1) := dgL_law_9 (670, (.aload_n 0, 1)) (List.mem_of_getElem? (i := 18) rfl)
theorem dL_law_671 : decode cL_law 671 = .ok (.iload_n 3, 1) := dgL_law_9 (671, (.iload_n 3, 1)) (List.mem_of_getElem? (i := 19) rfl)
theorem dL_law_672 : decode cL_law 672 = .ok (.iconst 1, 1) := dgL_law_9 (672, (.iconst 1, 1)) (List.mem_of_getElem? (i := 20) rfl)
theorem dL_law_673 : decode cL_law 673 = .ok (.iadd, 1) := dgL_law_9 (673, (.iadd, 1)) (List.mem_of_getElem? (i := 21) rfl)
theorem dL_law_674 : decode cL_law 674 = .ok (.iaload, 1) := dgL_law_9 (674, (.iaload, 1)) (List.mem_of_getElem? (i := 22) rfl)
theorem dL_law_675 : decode cL_law 675 = .ok (.aload_n 0, 1) := dgL_law_9 (675, (.aload_n 0, 1)) (List.mem_of_getElem? (i := 23) rfl)
theorem dL_law_676 : decode cL_law 676 = .ok (.iload_n 3, 1) := dgL_law_9 (676, (.iload_n 3, 1)) (List.mem_of_getElem? (i := 24) rfl)
theorem dL_law_677 : decode cL_law 677 = .ok (.iconst 2, 1) := dgL_law_9 (677, (.iconst 2, 1)) (List.mem_of_getElem? (i := 25) rfl)
theorem dL_law_678 : decode cL_law 678 = .ok (.iadd, 1) := dgL_law_9 (678, (.iadd, 1)) (List.mem_of_getElem? (i := 26) rfl)
theorem dL_law_679 : decode cL_law 679 = .ok (.iaload, 1) := dgL_law_9 (679, (.iaload, 1)) (List.mem_of_getElem? (i := 27) rfl)
theorem dL_law_680 : decode cL_law 680 = .ok (.aload_n 0, 1) := dgL_law_9 (680, (.aload_n 0, 1)) (List.mem_of_getElem? (i := 28) rfl)
theorem dL_law_681 : decode cL_law 681 = .ok (.iload_n 3, 1) := dgL_law_9 (681, (.iload_n 3, 1)) (List.mem_of_getElem? (i := 29) rfl)
theorem dL_law_682 : decode cL_law 682 = .ok (.iconst 3, 1) := dgL_law_9 (682, (.iconst 3, 1)) (List.mem_of_getElem? (i := 30) rfl)
theorem dL_law_683 : decode cL_law 683 = .ok (.iadd, 1) := dgL_law_9 (683, (.iadd, 1)) (List.mem_of_getElem? (i := 31) rfl)
theorem dL_law_684 : decode cL_law 684 = .ok (.iaload, 1) := dgL_law_9 (684, (.iaload, 1)) (List.mem_of_getElem? (i := 32) rfl)
theorem dL_law_685 : decode cL_law 685 = .ok (.aload_n 0, 1) := dgL_law_9 (685, (.aload_n 0, 1)) (List.mem_of_getElem? (i := 33) rfl)
theorem dL_law_686 : decode cL_law 686 = .ok (.iload_n 3, 1) := dgL_law_9 (686, (.iload_n 3, 1)) (List.mem_of_getElem? (i := 34) rfl)
theorem dL_law_687 : decode cL_law 687 = .ok (.iconst 4, 1) := dgL_law_9 (687, (.iconst 4, 1)) (List.mem_of_getElem? (i := 35) rfl)
theorem dL_law_688 : decode cL_law 688 = .ok (.iadd, 1) := dgL_law_9 (688, (.iadd, 1)) (List.mem_of_getElem? (i := 36) rfl)
theorem dL_law_689 : decode cL_law 689 = .ok (.iaload, 1) := dgL_law_9 (689, (.iaload, 1)) (List.mem_of_getElem? (i := 37) rfl)
theorem dL_law_690 : decode cL_law 690 = .ok (.invokevirtual 79, 3) := dgL_law_9 (690, (.invokevirtual 79, 3)) (List.mem_of_getElem? (i := 38) rfl)
theorem dL_law_693 : decode cL_law 693 = .ok (.pop, 1) := dgL_law_9 (693, (.pop, 1)) (List.mem_of_getElem? (i := 39) rfl)
theorem dgL_law_10 : ∀ r ∈ ([(694, (.aload_n 2, 1)), (695, (.aload_n 0, 1)), (696, (.iload_n 3, 1)), (697, (.iconst 1, 1)), (698, (.iadd, 1)), (699, (.iaload, 1)), (700, (.aload_n 0, 1)), (701, (.iload_n 3, 1)), (702, (.iconst 2, 1)), (703, (.iadd, 1)), (704, (.iaload, 1)), (705, (.aload_n 0, 1)), (706, (.iload_n 3, 1)), (707, (.iconst 3, 1)), (708, (.iadd, 1)), (709, (.iaload, 1)), (710, (.aload_n 0, 1)), (711, (.iload_n 3, 1)), (712, (.iconst 4, 1)), (713, (.iadd, 1)), (714, (.iaload, 1)), (715, (.invokevirtual 82, 3)), (718, (.pop, 1)), (719, (.goto 929, 3)), (722, (.aload_n 1, 1)), (723, (.aload_n 0, 1)), (724, (.iload_n 3, 1)), (725, (.iconst 1, 1)), (726, (.iadd, 1)), (727, (.iaload, 1)), (728, (.aload_n 0, 1)), (729, (.iload_n 3, 1)), (730, (.iconst 2, 1)), (731, (.iadd, 1)), (732, (.iaload, 1)), (733, (.aload_n 0, 1)), (734, (.iload_n 3, 1)), (735, (.iconst 3, 1)), (736, (.iadd, 1)), (737, (.iaload, 1))] : List (Nat × (Instr × Nat))), decode cL_law r.1 = .ok r.2 := by decide +kernel
theorem dL_law_694 : decode cL_law 694 = .ok (.aload_n 2, 1) := dgL_law_10 (694, (.aload_n 2, 1)) (List.mem_of_getElem? (i := 0) rfl)
theorem dL_law_695 : decode cL_law 695 = .ok (.aload_n 0, 1) := dgL_law_10 (695, (.aload_n 0, 1)) (List.mem_of_getElem? (i := 1) rfl)
theorem dL_law_696 : decode cL_law 696 = .ok (.iload_n 3, 1) := dgL_law_10 (696, (.iload_n 3, 1)) (List.mem_of_getElem? (i := 2) rfl)
theorem dL_law_697 : decode cL_law 697 = .ok (.iconst 1, 1) := dgL_law_10 (697, (.iconst 1, 1)) (List.mem_of_getElem? (i := 3) rfl)
theorem dL_law_698 : decode cL_law 698 = .ok (.iadd, 1) := dgL_law_10 (698, (.iadd, 1)) (List.mem_of_getElem? (i := 4) rfl)
theorem dL_law_699 : decode cL_law 699 = .ok (.iaload, 1) := dgL_law_10 (699, (.iaload, 1)) (List.mem_of_getElem? (i := 5) rfl)
theorem dL_law_700 : decode cL_law 700 = .ok (.aload_n 0, 1) := dgL_law_10 (700, (.aload_n 0, 1)) (List.mem_of_getElem? (i := 6) rfl)
theorem dL_law_701 : decode cL_law 701 = .ok (.iload_n 3, 1) := dgL_law_10 (701, (.iload_n 3, 1)) (List.mem_of_getElem? (i := 7) rfl)
theorem dL_law_702 : decode cL_law 702 = .ok (.iconst 2, 1) := dgL_law_10 (702, (.iconst 2, 1)) (List.mem_of_getElem? (i := 8) rfl)
theorem dL_law_703 : decode cL_law 703 = .ok (.iadd, 1) := dgL_law_10 (703, (.iadd, 1)) (List.mem_of_getElem? (i := 9) rfl)
theorem dL_law_704 : decode cL_law 704 = .ok (.iaload, 1) := dgL_law_10 (704, (.iaload, 1)) (List.mem_of_getElem? (i := 10) rfl)
theorem dL_law_705 : decode cL_law 705 = .ok (.aload_n 0, 1) := dgL_law_10 (705, (.aload_n 0, 1)) (List.mem_of_getElem? (i := 11) rfl)
theorem dL_law_706 : decode cL_law 706 = .ok (.iload_n 3, 1) := dgL_law_10 (706, (.iload_n 3, 1)) (List.mem_of_getElem? (i := 12) rfl)
theorem dL_law_707 : decode cL_law 707 = .ok (.iconst 3, 1) := dgL_law_10 (707, (.iconst 3, 1)) (List.mem_of_getElem? (i := 13) rfl)
theorem dL_law_708 : decode cL_law 708 = .ok (.iadd, 1) := dgL_law_10 (708, (.iadd, 1)) (List.mem_of_getElem? (i := 14) rfl)
theorem dL_law_709 : decode cL_law 709 = .ok (.iaload, 1) := dgL_law_10 (709, (.iaload, 1)) (List.mem_of_getElem? (i := 15) rfl)
theorem dL_law_710 : decode cL_law 710 = .ok (.aload_n 0, 1) := dgL_law_10 (710, (.aload_n 0, 1)) (List.mem_of_getElem? (i := 16) rfl)
theorem dL_law_711 : decode cL_law 711 = .ok (.iload_n 3, 1) := dgL_law_10 (711, (.iload_n 3, 1)) (List.mem_of_getElem? (i := 17) rfl)
theorem dL_law_712 : decode cL_law 712 = .ok (.iconst 4, 1) := dgL_law_10 (712, (.iconst 4, 1)) (List.mem_of_getElem? (i := 18) rfl)
theorem dL_law_713 : decode cL_law 713 = .ok (.iadd, 1) := dgL_law_10 (713, (.iadd, 1)) (List.mem_of_getElem? (i := 19) rfl)
theorem dL_law_714 : decode cL_law 714 = .ok (.iaload, 1) := dgL_law_10 (714, (.iaload, 1)) (List.mem_of_getElem? (i := 20) rfl)
theorem dL_law_715 : decode cL_law 715 = .ok (.invokevirtual 82, 3) := dgL_law_10 (715, (.invokevirtual 82, 3)) (List.mem_of_getElem? (i := 21) rfl)
theorem dL_law_718 : decode cL_law 718 = .ok (.pop, 1) := dgL_law_10 (718, (.pop, 1)) (List.mem_of_getElem? (i := 22) rfl)
theorem dL_law_719 : decode cL_law 719 = .ok (.goto 929, 3) := dgL_law_10 (719, (.goto 929, 3)) (List.mem_of_getElem? (i := 23) rfl)
theorem dL_law_722 : decode cL_law 722 = .ok (.aload_n 1, 1) := dgL_law_10 (722, (.aload_n 1, 1)) (List.mem_of_getElem? (i := 24) rfl)
theorem dL_law_723 : decode cL_law 723 = .ok (.aload_n 0, 1) := dgL_law_10 (723, (.aload_n 0, 1)) (List.mem_of_getElem? (i := 25) rfl)
theorem dL_law_724 : decode cL_law 724 = .ok (.iload_n 3, 1) := dgL_law_10 (724, (.iload_n 3, 1)) (List.mem_of_getElem? (i := 26) rfl)
theorem dL_law_725 : decode cL_law 725 = .ok (.iconst 1, 1) := dgL_law_10 (725, (.iconst 1, 1)) (List.mem_of_getElem? (i := 27) rfl)
theorem dL_law_726 : decode cL_law 726 = .ok (.iadd, 1) := dgL_law_10 (726, (.iadd, 1)) (List.mem_of_getElem? (i := 28) rfl)
theorem dL_law_727 : decode cL_law 727 = .ok (.iaload, 1) := dgL_law_10 (727, (.iaload, 1)) (List.mem_of_getElem? (i := 29) rfl)
theorem dL_law_728 : decode cL_law 728 = .ok (.aload_n 0, 1) := dgL_law_10 (728, (.aload_n 0, 1)) (List.mem_of_getElem? (i := 30) rfl)
theorem dL_law_729 : decode cL_law 729 = .ok (.iload_n 3, 1) := dgL_law_10 (729, (.iload_n 3, 1)) (List.mem_of_getElem? (i := 31) rfl)
theorem dL_law_730 : decode cL_law 730 = .ok (.iconst 2, 1) := dgL_law_10 (730, (.iconst 2, 1)) (List.mem_of_getElem? (i := 32) rfl)
theorem dL_law_731 : decode cL_law 731 = .ok (.iadd, 1) := dgL_law_10 (731, (.iadd, 1)) (List.mem_of_getElem? (i := 33) rfl)
theorem dL_law_732 : decode cL_law 732 = .ok (.iaload, 1) := dgL_law_10 (732, (.iaload, 1)) (List.mem_of_getElem? (i := 34) rfl)
theorem dL_law_733 : decode cL_law 733 = .ok (.aload_n 0, 1) := dgL_law_10 (733, (.aload_n 0, 1)) (List.mem_of_getElem? (i := 35) rfl)
theorem dL_law_734 : decode cL_law 734 = .ok (.iload_n 3, 1) := dgL_law_10 (734, (.iload_n 3, 1)) (List.mem_of_getElem? (i := 36) rfl)
theorem dL_law_735 : decode cL_law 735 = .ok (.iconst 3, 1) := dgL_law_10 (735, (.iconst 3, 1)) (List.mem_of_getElem? (i := 37) rfl)
theorem dL_law_736 : decode cL_law 736 = .ok (.iadd, 1) := dgL_law_10 (736, (.iadd, 1)) (List.mem_of_getElem? (i := 38) rfl)
theorem dL_law_737 : decode cL_law 737 = .ok (.iaload, 1) := dgL_law_10 (737, (.iaload, 1)) (List.mem_of_getElem? (i := 39) rfl)
theorem dgL_law_11 : ∀ r ∈ ([(738, (.aload_n 0, 1)), (739, (.iload_n 3, 1)), (740, (.iconst 4, 1)), (741, (.iadd, 1)), (742, (.iaload, 1)), (743, (.invokevirtual 83, 3)), (746, (.pop, 1)), (747, (.aload_n 2, 1)), (748, (.aload_n 0, 1)), (749, (.iload_n 3, 1)), (750, (.iconst 1, 1)), (751, (.iadd, 1)), (752, (.iaload, 1)), (753, (.aload_n 0, 1)), (754, (.iload_n 3, 1)), (755, (.iconst 2, 1)), (756, (.iadd, 1)), (757, (.iaload, 1)), (758, (.aload_n 0, 1)), (759, (.iload_n 3, 1)), (760, (.iconst 3, 1)), (761, (.iadd, 1)), (762, (.iaload, 1)), (763, (.aload_n 0, 1)), (764, (.iload_n 3, 1)), (765, (.iconst 4, 1)), (766, (.iadd, 1)), (767, (.iaload, 1)), (768, (.invokevirtual 86, 3)), (771, (.pop, 1)), (772, (.goto 876, 3)), (775, (.aload_n 1, 1)), (776, (.aload_n 0, 1)), (777, (.iload_n 3, 1)), (778, (.iconst 1, 1)), (779, (.iadd, 1)), (780, (.iaload, 1)), (781, (.aload_n 0, 1)), (782, (.iload_n 3, 1)), (783, (.iconst 2, 1))] : List (Nat × (Instr × Nat))), decode cL_law r.1 = .ok r.2 := by decide +kernel
theorem dL_law_738 : decode cL_law 738 = .ok (.aload_n 0, 1) := dgL_law_11 (738, (.aload_n 0, 1)) (List.mem_of_getElem? (i := 0) rfl)
theorem dL_law_739 : decode cL_law 739 = .ok (.iload_n 3, 1) := dgL_law_11 (739, (.iload_n 3, 1)) (List.mem_of_getElem? (i := 1) rfl)
theorem dL_law_740 : decode cL_law 740 = .ok (.iconst 4, 1) := dgL_law_11 (740, (.iconst 4, 1)) (List.mem_of_getElem? (i := 2) rfl)
theorem dL_law_741 : decode cL_law 741 = .ok (.iadd, 1) := dgL_law_11 (741, (.iadd, 1)) (List.mem_of_getElem? (i := 3) rfl)
theorem dL_law_742 : decode cL_law 742 = .ok (.iaload, 1) := dgL_law_11 (742, (.iaload, 1)) (List.mem_of_getElem? (i := 4) rfl)
theorem dL_law_743 : decode cL_law 743 = .ok (.invokevirtual 83, 3) := dgL_law_11 (743, (.invokevirtual 83, 3)) (List.mem_of_getElem? (i := 5) rfl)
theorem dL_law_746 : decode cL_law 746 = .ok (.pop, 1) := dgL_law_11 (746, (.pop, 1)) (List.mem_of_getElem? (i := 6) rfl)
theorem dL_law_747 : decode cL_law 747 = .ok (.aload_n 2, 1) := dgL_law_11 (747, (.aload_n 2, 1)) (List.mem_of_getElem? (i := 7) rfl)
theorem dL_law_748 : decode cL_law 748 = .ok (.aload_n 0, 1) := dgL_law_11 (748, (.aload_n 0, 1)) (List.mem_of_getElem? (i := 8) rfl)
theorem dL_law_749 : decode cL_law 749 = .ok (.iload_n 3, 1) := dgL_law_11 (749, (.iload_n 3, 1)) (List.mem_of_getElem? (i := 9) rfl)
theorem dL_law_750 : decode cL_law 750 = .ok (.iconst 1, 1) := dgL_law_11 (750, (.iconst 1, 1)) (List.mem_of_getElem? (i := 10) rfl)
theorem dL_law_751 : decode cL_law 751 = .ok (.iadd, 1) := dgL_law_11 (751, (.iadd, 1)) (List.mem_of_getElem? (i := 11) rfl)
theorem dL_law_752 : decode cL_law 752 = .ok (.iaload, 1) := dgL_law_11 (752, (.iaload, 1)) (List.mem_of_getElem? (i := 12) rfl)
theorem dL_law_753 : decode cL_law 753 = .ok (.aload_n 0, 1) := dgL_law_11 (753, (.aload_n 0, 1)) (List.mem_of_getElem? (i := 13) rfl)
theorem dL_law_754 : decode cL_law 754 = .ok (.iload_n 3, 1) := dgL_law_11 (754, (.iload_n 3, 1)) (List.mem_of_getElem? (i := 14) rfl)
theorem dL_law_755 : decode cL_law 755 = .ok (.iconst 2, 1) := dgL_law_11 (755, (.iconst 2, 1)) (List.mem_of_getElem? (i := 15) rfl)
theorem dL_law_756 : decode cL_law 756 = .ok (.iadd, 1) := dgL_law_11 (756, (.iadd, 1)) (List.mem_of_getElem? (i := 16) rfl)
theorem dL_law_757 : decode cL_law 757 = .ok (.iaload, 1) := dgL_law_11 (757, (.iaload, 1)) (List.mem_of_getElem? (i := 17) rfl)
theorem dL_law_758 : decode cL_law 758 = .ok (.aload_n 0, 1) := dgL_law_11 (758, (.aload_n 0, 1)) (List.mem_of_getElem? (i := 18) rfl)
theorem dL_law_759 : decode cL_law 759 = .ok (.iload_n 3, 1) := dgL_law_11 (759, (.iload_n 3, 1)) (List.mem_of_getElem? (i := 19) rfl)
theorem dL_law_760 : decode cL_law 760 = .ok (.iconst 3, 1) := dgL_law_11 (760, (.iconst 3, 1)) (List.mem_of_getElem? (i := 20) rfl)
theorem dL_law_761 : decode cL_law 761 = .ok (.iadd, 1) := dgL_law_11 (761, (.iadd, 1)) (List.mem_of_getElem? (i := 21) rfl)
theorem dL_law_762 : decode cL_law 762 = .ok (.iaload, 1) := dgL_law_11 (762, (.iaload, 1)) (List.mem_of_getElem? (i := 22) rfl)
theorem dL_law_763 : decode cL_law 763 = .ok (.aload_n 0, 1) := dgL_law_11 (763, (.aload_n 0, 1)) (List.mem_of_getElem? (i := 23) rfl)
theorem dL_law_764 : decode cL_law 764 = .ok (.iload_n 3, 1) := dgL_law_11 (764, (.iload_n 3, 1)) (List.mem_of_getElem? (i := 24) rfl)
theorem dL_law_765 : decode cL_law 765 = .ok (.iconst 4, 1) := dgL_law_11 (765, (.iconst 4, 1)) (List.mem_of_getElem? (i := 25) rfl)
theorem dL_law_766 : decode cL_law 766 = .ok (.iadd, 1) := dgL_law_11 (766, (.iadd, 1)) (List.mem_of_getElem? (i := 26) rfl)
theorem dL_law_767 : decode cL_law 767 = .ok (.iaload, 1) := dgL_law_11 (767, (.iaload, 1)) (List.mem_of_getElem? (i := 27) rfl)
theorem dL_law_768 : decode cL_law 768 = .ok (.invokevirtual 86, 3) := dgL_law_11 (768, (.invokevirtual 86, 3)) (List.mem_of_getElem? (i := 28) rfl)
theorem dL_law_771 : decode cL_law 771 = .ok (.pop, 1) := dgL_law_11 (771, (.pop, 1)) (List.mem_of_getElem? (i := 29) rfl)
theorem dL_law_772 : decode cL_law 772 = .ok (.goto 876, 3) := dgL_law_11 (772, (.goto 876, 3)) (List.mem_of_getElem? (i := 30) rfl)
theorem dL_law_775 : decode cL_law 775 = .ok (.aload_n 1, 1) := dgL_law_11 (775, (.aload_n 1, 1)) (List.mem_of_getElem? (i := 31) rfl)
theorem dL_law_776 : decode cL_law 776 = .ok (.aload_n 0, 1) := dgL_law_11 (776, (.aload_n 0, 1)) (List.mem_of_getElem? (i := 32) rfl)
theorem dL_law_777 : decode cL_law 777 = .ok (.iload_n 3, 1) := dgL_law_11 (777, (.iload_n 3, 1)) (List.mem_of_getElem? (i := 33) rfl)
theorem dL_law_778 : decode cL_law 778 = .ok (.iconst 1, 1) := dgL_law_11 (778, (.iconst 1, 1)) (List.mem_of_getElem? (i := 34) rfl)
theorem dL_law_779 : decode cL_law 779 = .ok (.iadd, 1) := dgL_law_11 (779, (.iadd, 1)) (List.mem_of_getElem? (i := 35) rfl)
theorem dL_law_780 : decode cL_law 780 = .ok (.iaload, 1) := dgL_law_11 (780, (.iaload, 1)) (List.mem_of_getElem? (i := 36) rfl)
theorem dL_law_781 : decode cL_law 781 = .ok (.aload_n 0, 1) := dgL_law_11 (781, (.aload_n 0, 1)) (List.mem_of_getElem? (i := 37) rfl)
theorem dL_law_782 : decode cL_law 782 = .ok (.iload_n 3, 1) := dgL_law_11 (782, (.iload_n 3, 1)) (List.mem_of_getElem? (i := 38) rfl)
theorem dL_law_783 : decode cL_law 783 = .ok (.iconst 2, 1) := dgL_law_11 (783, (.iconst 2, 1)) (List.mem_of_getElem? (i := 39) rfl)
theorem dgL_law_12 : ∀ r ∈ ([(784, (.iadd, 1)), (785, (.iaload, 1)), (786, (.invokevirtual 87, 3)), (789, (.pop, 1)), (790, (.aload_n 2, 1)), (791, (.aload_n 0, 1)), (792, (.iload_n 3, 1)), (793, (.iconst 1, 1)), (794, (.iadd, 1)), (795, (.iaload, 1)), (796, (.aload_n 0, 1)), (797, (.iload_n 3, 1)), (798, (.iconst 2, 1)), (799, (.iadd, 1)), (800, (.iaload, 1)), (801, (.invokevirtual 90, 3)), (804, (.pop, 1)), (805, (.goto 843, 3)), (808, (.aload_n 1, 1)), (809, (.aload_n 0, 1)), (810, (.iload_n 3, 1)), (811, (.iconst 1, 1)), (812, (.iadd, 1)), (813, (.iaload, 1)), (814, (.aload_n 0, 1)), (815, (.iload_n 3, 1)), (816, (.iconst 2, 1)), (817, (.iadd, 1)), (818, (.iaload, 1)), (819, (.aload_n 0, 1)), (820, (.iload_n 3, 1)), (821, (.iconst 3, 1)), (822, (.iadd, 1)), (823, (.iaload, 1)), (824, (.invokevirtual 91, 3)), (827, (.pop, 1)), (828, (.aload_n 2, 1)), (829, (.aload_n 0, 1)), (830, (.iload_n 3, 1)), (831, (.iconst 1, 1))] : List (Nat × (Instr × Nat))), decode cL_law r.1 = .ok r.2 := by decide +kernel
theorem dL_law_784 : decode cL_law 784 = .ok (.iadd, 1) := dgL_law_12 (784, (.iadd, 1)) (List.mem_of_getElem? (i := 0) rfl)
theorem dL_law_785 : decode cL_law 785 = .ok (.iaload, 1) := dgL_law_12 (785, (.iaload, 1)) (List.mem_of_getElem? (i := 1) rfl)
theorem dL_law_786 : decode cL_law 786 = .ok (.invokevirtual 87, 3) := dgL_law_12 (786, (.invokevirtual 87, 3)) (List.mem_of_getElem? (i := 2) rfl)
theorem dL_law_789 : decode cL_law 789 = .ok (.pop, 1) := dgL_law_12 (789, (.pop, 1)) (List.mem_of_getElem? (i := 3) rfl)
theorem dL_law_790 : decode cL_law 790 = .ok (.aload_n 2, 1) := dgL_law_12 (790, (.aload_n 2, 1)) (List.mem_of_getElem? (i := 4) rfl)
theorem dL_law_791 : decode cL_law 791 = .ok (.aload_n 0, 1) := dgL_law_12 (791, (.aload_n 0, 1)) (List.mem_of_getElem? (i := 5) rfl)
theorem dL_law_792 : decode cL_law 792 = .ok (.iload_n 3, 1) := dgL_law_12 (792, (.iload_n 3, 1)) (List.mem_of_getElem? (i := 6) rfl)
theorem dL_law_793 : decode cL_law 793 = .ok (.iconst 1, 1) := dgL_law_12 (793, (.iconst 1, 1)) (List.mem_of_getElem? (i := 7) rfl)
theorem dL_law_794 : decode cL_law 794 = .ok (.iadd, 1) := dgL_law_12 (794, (.iadd, 1)) (List.mem_of_getElem? (i := 8) rfl)
theorem dL_law_795 : decode cL_law 795 = .ok (.iaload, 1) := dgL_law_12 (795, (.iaload, 1)) (List.mem_of_getElem? (i := 9) rfl)
theorem dL_law_796 : decode cL_law 796 = .ok (.aload_n 0, 1) := dgL_law_12 (796, (.aload_n 0, 1)) (List.mem_of_getElem? (i := 10) rfl)
theorem dL_law_797 : decode cL_law 797 = .ok (.iload_n 3, 1) := dgL_law_12 (797, (.iload_n 3, 1)) (List.mem_of_getElem? (i := 11) rfl)
theorem dL_law_798 : decode cL_law 798 = .ok (.iconst 2, 1) := dgL_law_12 (798, (.iconst 2, 1)) (List.mem_of_getElem? (i := 12) rfl)
theorem dL_law_799 : decode cL_law 799 = .ok (.iadd, 1) := dgL_law_12 (799, (.iadd, 1)) (List.mem_of_getElem? (i := 13) rfl)
theorem dL_law_800 : decode cL_law 800 = .ok (.iaload, 1) := dgL_law_12 (800, (.iaload, 1)) (List.mem_of_getElem? (i := 14) rfl)
theorem dL_law_801 : decode cL_law 801 = .ok (.invokevirtual 90, 3) := dgL_law_12 (801, (.invokevirtual 90, 3)) (List.mem_of_getElem? (i := 15) rfl)
theorem dL_law_804 : decode cL_law 804 = .ok (.pop, 1) := dgL_law_12 (804, (.pop, 1)) (List.mem_of_getElem? (i := 16) rfl)
theorem dL_law_805 : decode cL_law 805 = .ok (.goto 843, 3) := dgL_law_12 (805, (.goto 843, 3)) (List.mem_of_getElem? (i := 17) rfl)
theorem dL_law_808 : decode cL_law 808 = .ok (.aload_n 1, 1) := dgL_law_12 (808, (.aload_n 1, 1)) (List.mem_of_getElem? (i := 18) rfl)
theorem dL_law_809 : decode cL_law 809 = .ok (.aload_n 0, 1) := dgL_law_12 (809, (.aload_n 0, 1)) (List.mem_of_getElem? (i := 19) rfl)
theorem dL_law_810 : decode cL_law 810 = .ok (.iload_n 3, 1) := dgL_law_12 (810, (.iload_n 3, 1)) (List.mem_of_getElem? (i := 20) rfl)
theorem dL_law_811 : decode cL_law 811 = .ok (.iconst 1, 1) := dgL_law_12 (811, (.iconst 1, 1)) (List.mem_of_getElem? (i := 21) rfl)
theorem dL_law_812 : decode cL_law 812 = .ok (.iadd, 1) := dgL_law_12 (812, (.iadd, 1)) (List.mem_of_getElem? (i := 22) rfl)
theorem dL_law_813 : decode cL_law 813 = .ok (.iaload, 1) := dgL_law_12 (813, (.iaload, 1)) (List.mem_of_getElem? (i := 23) rfl)
theorem dL_law_814 : decode cL_law 814 = .ok (.aload_n 0, 1) := dgL_law_12 (814, (.aload_n 0, 1)) (List.mem_of_getElem? (i := 24) rfl)
theorem dL_law_815 : decode cL_law 815 = .ok (.iload_n 3, 1) := dgL_law_12 (815, (.iload_n 3, 1)) (List.mem_of_getElem? (i := 25) rfl)
theorem dL_law_816 : decode cL_law 816 = .ok (.iconst 2, 1) := dgL_law_12 (816, (.iconst 2, 1)) (List.mem_of_getElem? (i := 26) rfl)
theorem dL_law_817 : decode cL_law 817 = .ok (.iadd, 1) := dgL_law_12 (817, (.iadd, 1)) (List.mem_of_getElem? (i := 27) rfl)
theorem dL_law_818 : decode cL_law 818 = .ok (.iaload, 1) := dgL_law_12 (818, (.iaload, 1)) (List.mem_of_getElem? (i := 28) rfl)
theorem dL_law_819 : decode cL_law 819 = .ok (.aload_n 0, 1) := dgL_law_12 (819, (.aload_n 0, 1)) (List.mem_of_getElem? (i := 29) rfl)
theorem dL_law_820 : decode cL_law 820 = .ok (.iload_n 3, 1) := dgL_law_12 (820, (.iload_n 3, 1)) (List.mem_of_getElem? (i := 30) rfl)
theorem dL_law_821 : decode cL_law 821 = .ok (.iconst 3, 1) := dgL_law_12 (821, (.iconst 3, 1)) (List.mem_of_getElem? (i := 31) rfl)
theorem dL_law_822 : decode cL_law 822 = .ok (.iadd, 1) := dgL_law_12 (822, (.iadd, 1)) (List.mem_of_getElem? (i := 32) rfl)
theorem dL_law_823 : decode cL_law 823 = .ok (.iaload, 1) := dgL_law_12 (823, (.iaload, 1)) (List.mem_of_getElem? (i := 33) rfl)
theorem dL_law_824 : decode cL_law 824 = .ok (.invokevirtual 91, 3) := dgL_law_12 (824, (.invokevirtual 91, 3)) (List.mem_of_getElem? (i := 34) rfl)
theorem dL_law_827 : decode cL_law 827 = .ok (.pop, 1) := dgL_law_12 (827, (.pop, 1)) (List.mem_of_getElem? (i := 35) rfl)
theorem dL_law_828 : decode cL_law 828 = .ok (.aload_n 2, 1) := dgL_law_12 (828, (.aload_n 2, 1)) (List.mem_of_getElem? (i := 36) rfl)
theorem dL_law_829 : decode cL_law 829 = .ok (.aload_n 0, 1) := dgL_law_12 (829, (.aload_n 0, 1)) (List.mem_of_getElem? (i := 37) rfl)
theorem dL_law_830 : decode cL_law 830 = .ok (.iload_n 3, 1) := dgL_law_12 (830, (.iload_n 3, 1)) (List.mem_of_getElem? (i := 38) rfl)
theorem dL_law_831 : decode cL_law 831 = .ok (.iconst 1, 1) := dgL_law_12 (831, (.iconst 1, 1)) (List.mem_of_getElem? (i := 39) rfl)
theorem dgL_law_13 : ∀ r ∈ ([(832, (.iadd, 1)), (833, (.iaload, 1)), (834, (.aload_n 0, 1)), (835, (.iload_n 3, 1)), (836, (.iconst 2, 1)), (837, (.iadd, 1)), (838, (.iaload, 1)), (839, (.aload_n 0, 1)), (840, (.iload_n 3, 1)), (841, (.iconst 3, 1)), (842, (.iadd, 1)), (843, (.iaload, 1)), (844, (.invokevirtual 94, 3)), (847, (.pop, 1)), (848, (.goto 800, 3)), (851, (.aload_n 1, 1)), (852, (.aload_n 0, 1)), (853, (.iload_n 3, 1)), (854, (.iconst 1, 1)), (855, (.iadd, 1)), (856, (.iaload, 1)), (857, (.aload_n 0, 1)), (858, (.iload_n 3, 1)), (859, (.iconst 2, 1)), (860, (.iadd, 1)), (861, (.iaload, 1)), (862, (.invokevirtual 95, 3)), (865, (.pop, 1)), (866, (.aload_n 2, 1)), (867, (.aload_n 0, 1)), (868, (.iload_n 3, 1)), (869, (.iconst 1, 1)), (870, (.iadd, 1)), (871, (.iaload, 1)), (872, (.aload_n 0, 1)), (873, (.iload_n 3, 1)), (874, (.iconst 2, 1)), (875, (.iadd, 1)), (876, (.iaload, 1)), (877, (.invokevirtual 98, 3))] : List (Nat × (Instr × Nat))), decode cL_law r.1 = .ok r.2 := by decide +kernel
theorem dL_law_832 : decode cL_law 832 = .ok (.iadd, 1) := dgL_law_13 (832, (.iadd, 1)) (List.mem_of_getElem? (i := 0) rfl)
theorem dL_law_833 : decode cL_law 833 = .ok (.iaload, 1) := dgL_law_13 (833, (.iaload, 1)) (List.mem_of_getElem? (i := 1) rfl)
theorem dL_law_834 : decode cL_law 834 = .ok (.aload_n 0, 1) := dgL_law_13 (834, (.aload_n 0, 1)) (List.mem_of_getElem? (i := 2) rfl)
theorem dL_law_835 : decode cL_law 835 = .ok (.iload_n 3, 1) := dgL_law_13 (835, (.iload_n 3, 1)) (List.mem_of_getElem? (i := 3) rfl)
theorem dL_law_836 : decode cL_law 836 = .ok (.iconst 2, 1) := dgL_law_13 (836, (.iconst 2, 1)) (List.mem_of_getElem? (i := 4) rfl)
theorem dL_law_837 : decode cL_law 837 = .ok (.iadd, 1) := dgL_law_13 (837, (.iadd, 1)) (List.mem_of_getElem? (i := 5) rfl)
theorem dL_law_838 : decode cL_law 838 = .ok (.iaload, 1) := dgL_law_13 (838, (.iaload, 1)) (List.mem_of_getElem? (i := 6) rfl)
theorem dL_law_839 : decode cL_law 839 = .ok (.aload_n 0, 1) := dgL_law_13 (839, (.aload_n 0, 1)) (List.mem_of_getElem? (i := 7) rfl)
theorem dL_law_840 : decode cL_law 840 = .ok (.iload_n 3, 1) := dgL_law_13 (840, (.iload_n 3, 1)) (List.mem_of_getElem? (i := 8) rfl)
theorem dL_law_841 : decode cL_law 841 = .ok (.iconst 3, 1) := dgL_law_13 (841, (.iconst 3, 1)) (List.mem_of_getElem? (i := 9) rfl)
theorem dL_law_842 : decode cL_law 842 = .ok (.iadd, 1) := dgL_law_13 (842, (.iadd, 1)) (List.mem_of_getElem? (i := 10) rfl)
theorem dL_law_843 : decode cL_law 843 = .ok (.iaload, 1) := dgL_law_13 (843, (.iaload, 1)) (List.mem_of_getElem? (i := 11) rfl)
theorem dL_law_844 : decode cL_law 844 = .ok (.invokevirtual 94, 3) := dgL_law_13 (844, (.invokevirtual 94, 3)) (List.mem_of_getElem? (i := 12) rfl)
theorem dL_law_847 : decode cL_law 847 = .ok (.pop, 1) := dgL_law_13 (847, (.pop, 1)) (List.mem_of_getElem? (i := 13) rfl)
theorem dL_law_848 : decode cL_law 848 = .ok (.goto 800, 3) := dgL_law_13 (848, (.goto 800, 3)) (List.mem_of_getElem? (i := 14) rfl)
theorem dL_law_851 : decode cL_law 851 = .ok (.aload_n 1, 1) := dgL_law_13 (851, (.aload_n 1, 1)) (List.mem_of_getElem? (i := 15) rfl)
theorem dL_law_852 : decode cL_law 852 = .ok (.aload_n 0, 1) := dgL_law_13 (852, (.aload_n 0, 1)) (List.mem_of_getElem? (i := 16) rfl)
theorem dL_law_853 : decode cL_law 853 = .ok (.iload_n 3, 1) := dgL_law_13 (853, (.iload_n 3, 1)) (List.mem_of_getElem? (i := 17) rfl)
theorem dL_law_854 : decode cL_law 854 = .ok (.iconst 1, 1) := dgL_law_13 (854, (.iconst 1, 1)) (List.mem_of_getElem? (i := 18) rfl)
theorem dL_law_855 : decode cL_law 855 = .ok (.iadd, 1) := dgL_law_13 (855, (.iadd, 1)) (List.mem_of_getElem? (i := 19) rfl)
theorem dL_law_856 : decode cL_law 856 = .ok (.iaload, 1) := dgL_law_13 (856, (.iaload, 1)) (List.mem_of_getElem? (i := 20) rfl)
theorem dL_law_857 : decode cL_law 857 = .ok (.aload_n 0, 1) := dgL_law_13 (857, (.aload_n 0, 1)) (List.mem_of_getElem? (i := 21) rfl)
theorem dL_law_858 : decode cL_law 858 = .ok (.iload_n 3, 1) := dgL_law_13 (858, (.iload_n 3, 1)) (List.mem_of_getElem? (i := 22) rfl)
theorem dL_law_859 : decode cL_law 859 = .ok (.iconst 2, 1) := dgL_law_13 (859, (.iconst 2, 1)) (List.mem_of_getElem? (i := 23) rfl)
theorem dL_law_860 : decode cL_law 860 = .ok (.iadd, 1) := dgL_law_13 (860, (.iadd, 1)) (List.mem_of_getElem? (i := 24) rfl)
theorem dL_law_861 : decode cL_law 861 = .ok (.iaload, 1) := dgL_law_13 (861, (.iaload, 1)) (List.mem_of_getElem? (i := 25) rfl)
theorem dL_law_862 : decode cL_law 862 = .ok (.invokevirtual 95, 3) := dgL_law_13 (862, (.invokevirtual 95, 3)) (List.mem_of_getElem? (i := 26) rfl)
theorem dL_law_865 : decode cL_law 865 = .ok (.pop, 1) := dgL_law_13 (865, (.pop, 1)) (List.mem_of_getElem? (i := 27) rfl)
theorem dL_law_866 : decode cL_law 866 = .ok (.aload_n 2, 1) := dgL_law_13 (866, (.aload_n 2, 1)) (List.mem_of_getElem? (i := 28) rfl)
theorem dL_law_867 : decode cL_law 867 = .ok (.aload_n 0, 1) := dgL_law_13 (867, (.aload_n 0, 1)) (List.mem_of_getElem? (i := 29) rfl)
theorem dL_law_868 : decode cL_law 868 = .ok (.iload_n 3, 1) := dgL_law_13 (868, (.iload_n 3, 1)) (List.mem_of_getElem? (i := 30) rfl)
theorem dL_law_869 : decode cL_law 869 = .ok (.iconst 1, 1) := dgL_law_13 (869, (.iconst 1, 1)) (List.mem_of_getElem? (i := 31) rfl)
theorem dL_law_870 : decode cL_law 870 = .ok (.iadd, 1) := dgL_law_13 (870, (.iadd, 1)) (List.mem_of_getElem? (i := 32) rfl)
theorem dL_law_871 : decode cL_law 871 = .ok (.iaload, 1) := dgL_law_13 (871, (.iaload, 1)) (List.mem_of_getElem? (i := 33) rfl)
theorem dL_law_872 : decode cL_law 872 = .ok (.aload_n 0, 1) := dgL_law_13 (872, (.aload_n 0, 1)) (List.mem_of_getElem? (i := 34) rfl)
theorem dL_law_873 : decode cL_law 873 = .ok (.iload_n 3, 1) := dgL_law_13 (873, (.iload_n 3, 1)) (List.mem_of_getElem? (i := 35) rfl)
theorem dL_law_874 : decode cL_law 874 = .ok (.iconst 2, 1) := dgL_law_13 (874, (.iconst 2, 1)) (List.mem_of_getElem? (i := 36) rfl)
theorem dL_law_875 : decode cL_law 875 = .ok (.iadd, 1) := dgL_law_13 (875, (.iadd, 1)) (List.mem_of_getElem? (i := 37) rfl)
theorem dL_law_876 : decode cL_law 876 = .ok (.iaload, 1) := dgL_law_13 (876, (.iaload, 1)) (List.mem_of_getElem? (i := 38) rfl)
theorem dL_law_877 : decode cL_law 877 = .ok (.invokevirtual 98, 3) := dgL_law_13 (877, (.invokevirtual 98, 3)) (List.mem_of_getElem? (i := 39) rfl)
theorem dgL_law_14 : ∀ r ∈ ([(880, (.pop, 1)), (881, (.goto 767, 3)), (884, (.aload_n 1, 1)), (885, (.aload_n 0, 1)), (886, (.iload_n 3, 1)), (887, (.iconst 1, 1)), (888, (.iadd, 1)), (889, (.iaload, 1)), (890, (.aload_n 0, 1)), (891, (.iload_n 3, 1)), (892, (.iconst 2, 1)), (893, (.iadd, 1)), (894, (.iaload, 1)), (895, (.aload_n 0, 1)), (896, (.iload_n 3, 1)), (897, (.iconst 3, 1)), (898, (.iadd, 1)), (899, (.iaload, 1)), (900, (.invokevirtual 99, 3)), (903, (.pop, 1)), (904, (.aload_n 2, 1)), (905, (.aload_n 0, 1)), (906, (.iload_n 3, 1)), (907, (.iconst 1, 1)), (908, (.iadd, 1)), (909, (.iaload, 1)), (910, (.aload_n 0, 1)), (911, (.iload_n 3, 1)), (912, (.iconst 2, 1)), (913, (.iadd, 1)), (914, (.iaload, 1)), (915, (.aload_n 0, 1)), (916, (.iload_n 3, 1)), (917, (.iconst 3, 1)), (918, (.iadd, 1)), (919, (.iaload, 1)), (920, (.invokevirtual 102, 3)), (923, (.pop, 1)), (924, (.goto 724, 3)), (927, (.aload_n 1, 1))] : List (Nat × (Instr × Nat))), decode cL_law r.1 = .ok r.2 := by decide +kernel
theorem dL_law_880 : decode cL_law 880 = .ok (.pop, 1) := dgL_law_14 (880, (.pop, 1)) (List.mem_of_getElem? (i := 0) rfl)
theorem dL_law_881 : decode cL_law 881 = .ok (.goto 767, 3) := dgL_law_14 (881, (.goto 767, 3)) (List.mem_of_getElem? (i := 1) rfl)
theorem dL_law_884 : decode cL_law 884 = .ok (.aload_n 1, 1) := dgL_law_14 (884, (.aload_n 1, 1)) (List.mem_of_getElem? (i := 2) rfl)
theorem dL_law_885 : decode cL_law 885 = .ok (.aload_n 0, 1) := dgL_law_14 (885, (.aload_n 0, 1)) (List.mem_of_getElem? (i := 3) rfl)
theorem dL_law_886 : decode cL_law 886 = .ok (.iload_n 3, 1) := dgL_law_14 (886, (.iload_n 3, 1)) (List.mem_of_getElem? (i := 4) rfl)
theorem dL_law_887 : decode cL_law 887 = .ok (.iconst 1, 1) := dgL_law_14 (887, (.iconst 1, 1)) (List.mem_of_getElem? (i := 5) rfl)
theorem dL_law_888 : decode cL_law 888 = .ok (.iadd, 1) := dgL_law_14 (888, (.iadd, 1)) (List.mem_of_getElem? (i := 6) rfl)
theorem dL_law_889 : decode cL_law 889 = .ok (.iaload, 1) := dgL_law_14 (889, (.iaload, 1)) (List.mem_of_getElem? (i := 7) rfl)
theorem dL_law_890 : decode cL_law 890 = .ok (.aload_n 0, 1) := dgL_law_14 (890, (.aload_n 0, 1)) (List.mem_of_getElem? (i := 8) rfl)
theorem dL_law_891 : decode cL_law 891 = .ok (.iload_n 3, 1) := dgL_law_14 (891, (.iload_n 3, 1)) (List.mem_of_getElem? (i := 9) rfl)
theorem dL_law_892 : decode cL_law 892 = .ok (.iconst 2, 1) := dgL_law_14 (892, (.iconst 2, 1)) (List.mem_of_getElem? (i := 10) rfl)
theorem dL_law_893 : decode cL_law 893 = .ok (.iadd, 1) := dgL_law_14 (893, (.iadd, 1)) (List.mem_of_getElem? (i := 11) rfl)
theorem dL_law_894 : decode cL_law 894 = .ok (.iaload, 1) := dgL_law_14 (894, (.iaload, 1)) (List.mem_of_getElem? (i := 12) rfl)
theorem dL_law_895 : decode cL_law 895 = .ok (.aload_n 0, 1) := dgL_law_14 (895, (.aload_n 0, 1)) (List.mem_of_getElem? (i := 13) rfl)
theorem dL_law_896 : decode cL_law 896 = .ok (.iload_n 3, 1) := dgL_law_14 (896, (.iload_n 3, 1)) (List.mem_of_getElem? (i := 14) rfl)
theorem dL_law_897 : decode cL_law 897 = .ok (.iconst 3, 1) := dgL_law_14 (897, (.iconst 3, 1)) (List.mem_of_getElem? (i := 15) rfl)
theorem dL_law_898 : decode cL_law 898 = .ok (.iadd, 1) := dgL_law_14 (898, (.iadd, 1)) (List.mem_of_getElem? (i := 16) rfl)
theorem dL_law_899 : decode cL_law 899 = .ok (.iaload, 1) := dgL_law_14 (899, (.iaload, 1)) (List.mem_of_getElem? (i := 17) rfl)
theorem dL_law_900 : decode cL_law 900 = .ok (.invokevirtual 99, 3) := dgL_law_14 (900, (.invokevirtual 99, 3)) (List.mem_of_getElem? (i := 18) rfl)
theorem dL_law_903 : decode cL_law 903 = .ok (.pop, 1) := dgL_law_14 (903, (.pop, 1)) (List.mem_of_getElem? (i := 19) rfl)
theorem dL_law_904 : decode cL_law 904 = .ok (.aload_n 2, 1) := dgL_law_14 (904, (.aload_n 2, 1)) (List.mem_of_getElem? (i := 20) rfl)
theorem dL_law_905 : decode cL_law 905 = .ok (.aload_n 0, 1) := dgL_law_14 (905, (.aload_n 0, 1)) (List.mem_of_getElem? (i := 21) rfl)
theorem dL_law_906 : decode cL_law 906 = .ok (.iload_n 3, 1) := dgL_law_14 (906, (.iload_n 3, 1)) (List.mem_of_getElem? (i := 22) rfl)
theorem dL_law_907 : decode cL_law 907 = .ok (.iconst 1, 1) := dgL_law_14 (907, (.iconst 1, 1)) (List.mem_of_getElem? (i := 23) rfl)
theorem dL_law_908 : decode cL_law 908 = .ok (.iadd, 1) := dgL_law_14 (908, (.iadd, 1)) (List.mem_of_getElem? (i := 24) rfl)
theorem dL_law_909 : decode cL_law 909 = .ok (.iaload, 1) := dgL_law_14 (909, (.iaload, 1)) (List.mem_of_getElem? (i := 25) rfl)
theorem dL_law_910 : decode cL_law 910 = .ok (.aload_n 0, 1) := dgL_law_14 (910, (.aload_n 0, 1)) (List.mem_of_getElem? (i := 26) rfl)
theorem dL_law_911 : decode cL_law 911 = .ok (.iload_n 3, 1) := dgL_law_14 (911, (.iload_n 3, 1)) (List.mem_of_getElem? (i := 27) rfl)
theorem dL_law_912 : decode cL_law 912 = .ok (.iconst 2, 1) := dgL_law_14 (912, (.iconst 2, 1)) (List.mem_of_getElem? (i := 28) rfl)
theorem dL_law_913 : decode cL_law 913 = .ok (.iadd, 1) := dgL_law_14 (913, (.iadd, 1)) (List.mem_of_getElem? (i := 29) rfl)
theorem dL_law_914 : decode cL_law 914 = .ok (.iaload, 1) := dgL_law_14 (914, (.iaload, 1)) (List.mem_of_getElem? (i := 30) rfl)
theorem dL_law_915 : decode cL_law 915 = .ok (.aload_n 0, 1) := dgL_law_14 (915, (.aload_n 0, 1)) (List.mem_of_getElem? (i := 31) rfl)
theorem dL_law_916 : decode cL_law 916 = .ok (.iload_n 3, 1) := dgL_law_14 (916, (.iload_n 3, 1)) (List.mem_of_getElem? (i := 32) rfl)
theorem dL_law_917 : decode cL_law 917 = .ok (.iconst 3, 1) := dgL_law_14 (917, (.iconst 3, 1)) (List.mem_of_getElem? (i := 33) rfl)
theorem dL_law_918 : decode cL_law 918 = .ok (.iadd, 1) := dgL_law_14 (918, (.iadd, 1)) (List.mem_of_getElem? (i := 34) rfl)
theorem dL_law_919 : decode cL_law 919 = .ok (.iaload, 1) := dgL_law_14 (919, (.iaload, 1)) (List.mem_of_getElem? (i := 35) rfl)
theorem dL_law_920 : decode cL_law 920 = .ok (.invokevirtual 102, 3) := dgL_law_14 (920, (.invokevirtual 102, 3)) (List.mem_of_getElem? (i := 36) rfl)
theorem dL_law_923 : decode cL_law 923 = .ok (.pop, 1) := dgL_law_14 (923, (.pop, 1)) (List.mem_of_getElem? (i := 37) rfl)
theorem dL_law_924 : decode cL_law 924 = .ok (.goto 724, 3) := dgL_law_14 (924, (.goto 724, 3)) (List.mem_of_getElem? (i := 38) rfl)
theorem dL_law_927 : decode cL_law 927 = .ok (.aload_n 1, 1) := dgL_law_14 (927, (.aload_n 1, 1)) (List.mem_of_getElem? (i := 39) rfl)
theorem dgL_law_15 : ∀ r ∈ ([(928, (.aload_n 0, 1)), (929, (.iload_n 3, 1)), (930, (.iconst 1, 1)), (931, (.iadd, 1)), (932, (.iaload, 1)), (933, (.invokevirtual 103, 3)), (936, (.pop, 1)), (937, (.aload_n 2, 1)), (938, (.aload_n 0, 1)), (939, (.iload_n 3, 1)), (940, (.iconst 1, 1)), (941, (.iadd, 1)), (942, (.iaload, 1)), (943, (.invokevirtual 106, 3)), (946, (.pop, 1)), (947, (.goto 701, 3)), (950, (.aload_n 1, 1)), (951, (.aload_n 0, 1)), (952, (.iload_n 3, 1)), (953, (.iconst 1, 1)), (954, (.iadd, 1)), (955, (.iaload, 1)), (956, (.aload_n 0, 1)), (957, (.iload_n 3, 1)), (958, (.iconst 2, 1)), (959, (.iadd, 1)), (960, (.iaload, 1)), (961, (.aload_n 0, 1)), (962, (.iload_n 3, 1)), (963, (.iconst 3, 1)), (964, (.iadd, 1)), (965, (.iaload, 1)), (966, (.aload_n 0, 1)), (967, (.iload_n 3, 1)), (968, (.iconst 4, 1)), (969, (.iadd, 1)), (970, (.iaload, 1)), (971, (.invokevirtual 107, 3)), (974, (.pop, 1)), (975, (.aload_n 2, 1))] : List (Nat × (Instr × Nat))), decode cL_law r.1 = .ok r.2 := by decide +kernel
theorem dL_law_928 : decode cL_law 928 = .ok (.aload_n 0, 1) := dgL_law_15 (928, (.aload_n 0, 1)) (List.mem_of_getElem? (i := 0) rfl)
theorem dL_law_929 : decode cL_law 929 = .ok (.iload_n 3, 1) := dgL_law_15 (929, (.iload_n 3, 1)) (List.mem_of_getElem? (i := 1) rfl)
theorem dL_law_930 : decode cL_law 930 = .ok (.iconst 1, 1) := dgL_law_15 (930, (.iconst 1, 1)) (List.mem_of_getElem? (i := 2) rfl)
theorem dL_law_931 : decode cL_law 931 = .ok (.iadd, 1) := dgL_law_15 (931, (.iadd, 1)) (List.mem_of_getElem? (i := 3) rfl)
theorem dL_law_932 : decode cL_law 932 = .ok (.iaload, 1) := dgL_law_15 (932, (.iaload, 1)) (List.mem_of_getElem? (i := 4) rfl)
theorem dL_law_933 : decode cL_law 933 = .ok (.invokevirtual 103, 3) := dgL_law_15 (933, (.invokevirtual 103, 3)) (List.mem_of_getElem? (i := 5) rfl)
theorem dL_law_936 : decode cL_law 936 = .ok (.pop, 1) := dgL_law_15 (936, (.pop, 1)) (List.mem_of_getElem? (i := 6) rfl)
theorem dL_law_937 : decode cL_law 937 = .ok (.aload_n 2, 1) := dgL_law_15 (937, (.aload_n 2, 1)) (List.mem_of_getElem? (i := 7) rfl)
theorem dL_law_938 : decode cL_law 938 = .ok (.aload_n 0, 1) := dgL_law_15 (938, (.aload_n 0, 1)) (List.mem_of_getElem? (i := 8) rfl)
theorem dL_law_939 : decode cL_law 939 = .ok (.iload_n 3, 1) := dgL_law_15 (939, (.iload_n 3, 1)) (List.mem_of_getElem? (i := 9) rfl)
theorem dL_law_940 : decode cL_law 940 = .ok (.iconst 1, 1) := dgL_law_15 (940, (.iconst 1, 1)) (List.mem_of_getElem? (i := 10) rfl)
theorem dL_law_941 : decode cL_law 941 = .ok (.iadd, 1) := dgL_law_15 (941, (.iadd, 1)) (List.mem_of_getElem? (i := 11) rfl)
theorem dL_law_942 : decode cL_law 942 = .ok (.iaload, 1) := dgL_law_15 (942, (.iaload, 1)) (List.mem_of_getElem? (i := 12) rfl)
theorem dL_law_943 : decode cL_law 943 = .ok (.invokevirtual 106, 3) := dgL_law_15 (943, (.invokevirtual 106, 3)) (List.mem_of_getElem? (i := 13) rfl)
theorem dL_law_946 : decode cL_law 946 = .ok (.pop, 1) := dgL_law_15 (946, (.pop, 1)) (List.mem_of_getElem? (i := 14) rfl)
theorem dL_law_947 : decode cL_law 947 = .ok (.goto 701, 3) := dgL_law_15 (947, (.goto 701, 3)) (List.mem_of_getElem? (i := 15) rfl)
theorem dL_law_950 : decode cL_law 950 = .ok (.aload_n 1, 1) := dgL_law_15 (950, (.aload_n 1, 1)) (List.mem_of_getElem? (i := 16) rfl)
theorem dL_law_951 : decode cL_law 951 = .ok (.aload_n 0, 1) := dgL_law_15 (951, (.aload_n 0, 1)) (List.mem_of_getElem? (i := 17) rfl)
theorem dL_law_952 : decode cL_law 952 = .ok (.iload_n 3, 1) := dgL_law_15 (952, (.iload_n 3, 1)) (List.mem_of_getElem? (i := 18) rfl)
theorem dL_law_953 : decode cL_law 953 = .ok (.iconst 1, 1) := dgL_law_15 (953, (.iconst 1, 1)) (List.mem_of_getElem? (i := 19) rfl)
theorem dL_law_954 : decode cL_law 954 = .ok (.iadd, 1) := dgL_law_15 (954, (.iadd, 1)) (List.mem_of_getElem? (i := 20) rfl)
theorem dL_law_955 : decode cL_law 955 = .ok (.iaload, 1) := dgL_law_15 (955, (.iaload, 1)) (List.mem_of_getElem? (i := 21) rfl)
theorem dL_law_956 : decode cL_law 956 = .ok (.aload_n 0, 1) := dgL_law_15 (956, (.aload_n 0, 1)) (List.mem_of_getElem? (i := 22) rfl)
theorem dL_law_957 : decode cL_law 957 = .ok (.iload_n 3, 1) := dgL_law_15 (957, (.iload_n 3, 1)) (List.mem_of_getElem? (i := 23) rfl)
theorem dL_law_958 : decode cL_law 958 = .ok (.iconst 2, 1) := dgL_law_15 (958, (.iconst 2, 1)) (List.mem_of_getElem? (i := 24) rfl)
theorem dL_law_959 : decode cL_law 959 = .ok (.iadd, 1) := dgL_law_15 (959, (.iadd, 1)) (List.mem_of_getElem? (i := 25) rfl)
theorem dL_law_960 : decode cL_law 960 = .ok (.iaload, 1) := dgL_law_15 (960, (.iaload, 1)) (List.mem_of_getElem? (i := 26) rfl)
theorem dL_law_961 : decode cL_law 961 = .ok (.aload_n 0, 1) := dgL_law_15 (961, (.aload_n 0, 1)) (List.mem_of_getElem? (i := 27) rfl)
theorem dL_law_962 : decode cL_law 962 = .ok (.iload_n 3, 1) := dgL_law_15 (962, (.iload_n 3, 1)) (List.mem_of_getElem? (i := 28) rfl)
theorem dL_law_963 : decode cL_law 963 = .ok (.iconst 3, 1) := dgL_law_15 (963, (.iconst 3, 1)) (List.mem_of_getElem? (i := 29) rfl)
theorem dL_law_964 : decode cL_law 964 = .ok (.iadd, 1) := dgL_law_15 (964, (.iadd, 1)) (List.mem_of_getElem? (i := 30) rfl)
theorem dL_law_965 : decode cL_law 965 = .ok (.iaload, 1) := dgL_law_15 (965, (.iaload, 1)) (List.mem_of_getElem? (i := 31) rfl)
theorem dL_law_966 : decode cL_law 966 = .ok (.aload_n 0, 1) := dgL_law_15 (966, (.aload_n 0, 1)) (List.mem_of_getElem? (i := 32) rfl)
theorem dL_law_967 : decode cL_law 967 = .ok (.iload_n 3, 1) := dgL_law_15 (967, (.iload_n 3, 1)) (List.mem_of_getElem? (i := 33) rfl)
theorem dL_law_968 : decode cL_law 968 = .ok (.iconst 4, 1) := dgL_law_15 (968, (.iconst 4, 1)) (List.mem_of_getElem? (i := 34) rfl)
theorem dL_law_969 : decode cL_law 969 = .ok (.iadd, 1) := dgL_law_15 (969, (.iadd, 1)) (List.mem_of_getElem? (i := 35) rfl)
theorem dL_law_970 : decode cL_law 970 = .ok (.iaload, 1) := dgL_law_15 (970, (.iaload, 1)) (List.mem_of_getElem? (i := 36) rfl)
theorem dL_law_971 : decode cL_law 971 = .ok (.invokevirtual 107, 3) := dgL_law_15 (971, (.invokevirtual 107, 3)) (List.mem_of_getElem? (i := 37) rfl)
theorem dL_law_974 : decode cL_law 974 = .ok (.pop, 1) := dgL_law_15 (974, (.pop, 1)) (List.mem_of_getElem? (i := 38) rfl)
theorem dL_law_975 : decode cL_law 975 = .ok (.aload_n 2, 1) := dgL_law_15 (975, (.aload_n 2, 1)) (List.mem_of_getElem? (i := 39) rfl)
theorem dgL_law_16 : ∀ r ∈ ([(976, (.aload_n 0, 1)), (977, (.iload_n 3, 1)), (978, (.iconst 1, 1)), (979, (.iadd, 1)), (980, (.iaload, 1)), (981, (.aload_n 0, 1)), (982, (.iload_n 3, 1)), (983, (.iconst 2, 1)), (984, (.iadd, 1)), (985, (.iaload, 1)), (986, (.aload_n 0, 1)), (987, (.iload_n 3, 1)), (988, (.iconst 3, 1)), (989, (.iadd, 1)), (990, (.iaload, 1)), (991, (.aload_n 0, 1)), (992, (.iload_n 3, 1)), (993, (.iconst 4, 1)), (994, (.iadd, 1)), (995, (.iaload, 1)), (996, (.invokevirtual 110, 3)), (999, (.pop, 1)), (1000, (.goto 648, 3)), (1003, (.aload_n 1, 1)), (1004, (.aload_n 0, 1)), (1005, (.iload_n 3, 1)), (1006, (.iconst 1, 1)), (1007, (.iadd, 1)), (1008, (.iaload, 1)), (1009, (.invokevirtual 111, 3)), (1012, (.pop, 1)), (1013, (.aload_n 2, 1)), (1014, (.aload_n 0, 1)), (1015, (.iload_n 3, 1)), (1016, (.iconst 1, 1)), (1017, (.iadd, 1)), (1018, (.iaload, 1)), (1019, (.invokevirtual 114, 3)), (1022, (.pop, 1)), (1023, (.goto 625, 3))] : List (Nat × (Instr × Nat))), decode cL_law r.1 = .ok r.2 := by decide +kernel
theorem dL_law_976 : decode cL_law 976 = .ok (.aload_n 0, 1) := dgL_law_16 (976, (.aload_n 0, 1)) (List.mem_of_getElem? (i := 0) rfl)
theorem dL_law_977 : decode cL_law 977 = .ok (.iload_n 3, 1) := dgL_law_16 (977, (.iload_n 3, 1)) (List.mem_of_getElem? (i := 1) rfl)
theorem dL_law_978 : decode cL_law 978 = .ok (.iconst 1, 1) := dgL_law_16 (978, (.iconst 1, 1)) (List.mem_of_getElem? (i := 2) rfl)
theorem dL_law_979 : decode cL_law 979 = .ok (.iadd, 1) := dgL_law_16 (979, (.iadd, 1)) (List.mem_of_getElem? (i := 3) rfl)
theorem dL_law_980 : decode cL_law 980 = .ok (.iaload, 1) := dgL_law_16 (980, (.iaload, 1)) (List.mem_of_getElem? (i := 4) rfl)
theorem dL_law_981 : decode cL_law 981 = .ok (.aload_n 0, 1) := dgL_law_16 (981, (.aload_n 0, 1)) (List.mem_of_getElem? (i := 5) rfl)
theorem dL_law_982 : decode cL_law 982 = .ok (.iload_n 3, 1) := dgL_law_16 (982, (.iload_n 3, 1)) (List.mem_of_getElem? (i := 6) rfl)
theorem dL_law_983 : decode cL_law 983 = .ok (.iconst 2, 1) := dgL_law_16 (983, (.iconst 2, 1)) (List.mem_of_getElem? (i := 7) rfl)
theorem dL_law_984 : decode cL_law 984 = .ok (.iadd, 1) := dgL_law_16 (984, (.iadd, 1)) (List.mem_of_getElem? (i := 8) rfl)
theorem dL_law_985 : decode cL_law 985 = .ok (.iaload, 1) := dgL_law_16 (985, (.iaload, 1)) (List.mem_of_getElem? (i := 9) rfl)
theorem dL_law_986 : decode cL_law 986 = .ok (.aload_n 0, 1) := dgL_law_16 (986, (.aload_n 0, 1)) (List.mem_of_getElem? (i := 10) rfl)
theorem dL_law_987 : decode cL_law 987 = .ok (.iload_n 3, 1) := dgL_law_16 (987, (.iload_n 3, 1)) (List.mem_of_getElem? (i := 11) rfl)
theorem dL_law_988 : decode cL_law 988 = .ok (.iconst 3, 1) := dgL_law_16 (988, (.iconst 3, 1)) (List.mem_of_getElem? (i := 12) rfl)
theorem dL_law_989 : decode cL_law 989 = .ok (.iadd, 1) := dgL_law_16 (989, (.iadd, 1)) (List.mem_of_getElem? (i := 13) rfl)
theorem dL_law_990 : decode cL_law 990 = .ok (.iaload, 1) := dgL_law_16 (990, (.iaload, 1)) (List.mem_of_getElem? (i := 14) rfl)
theorem dL_law_991 : decode cL_law 991 = .ok (.aload_n 0, 1) := dgL_law_16 (991, (.aload_n 0, 1)) (List.mem_of_getElem? (i := 15) rfl)
theorem dL_law_992 : decode cL_law 992 = .ok (.iload_n 3, 1) := dgL_law_16 (992, (.iload_n 3, 1)) (List.mem_of_getElem? (i := 16) rfl)
theorem dL_law_993 : decode cL_law 993 = .ok (.iconst 4, 1) := dgL_law_16 (993, (.iconst 4, 1)) (List.mem_of_getElem? (i := 17) rfl)
theorem dL_law_994 : decode cL_law 994 = .ok (.iadd, 1) := dgL_law_16 (994, (.iadd, 1)) (List.mem_of_getElem? (i := 18) rfl)
theorem dL_law_995 : decode cL_law 995 = .ok (.iaload, 1) := dgL_law_16 (995, (.iaload, 1)) (List.mem_of_getElem? (i := 19) rfl)
theorem dL_law_996 : decode cL_law 996 = .ok (.invokevirtual 110, 3) := dgL_law_16 (996, (.invokevirtual 110, 3)) (List.mem_of_getElem? (i := 20) rfl)
theorem dL_law_999 : decode cL_law 999 = .ok (.pop, 1) := dgL_law_16 (999, (.pop, 1)) (List.mem_of_getElem? (i := 21) rfl)
theorem dL_law_1000 : decode cL_law 1000 = .ok (.goto 648, 3) := dgL_law_16 (1000, (.goto 648, 3)) (List.mem_of_getElem? (i := 22) rfl)
theorem dL_law_1003 : decode cL_law 1003 = .ok (.aload_n 1, 1) := dgL_law_16 (1003, (.aload_n 1, 1)) (List.mem_of_getElem? (i := 23) rfl)
theorem dL_law_1004 : decode cL_law 1004 = .ok (.aload_n 0, 1) := dgL_law_16 (1004, (.aload_n 0, 1)) (List.mem_of_getElem? (i := 24) rfl)
theorem dL_law_1005 : decode cL_law 1005 = .ok (.iload_n 3, 1) := dgL_law_16 (1005, (.iload_n 3, 1)) (List.mem_of_getElem? (i := 25) rfl)
theorem dL_law_1006 : decode cL_law 1006 = .ok (.iconst 1, 1) := dgL_law_16 (1006, (.iconst 1, 1)) (List.mem_of_getElem? (i := 26) rfl)
theorem dL_law_1007 : decode cL_law 1007 = .ok (.iadd, 1) := dgL_law_16 (1007, (.iadd, 1)) (List.mem_of_getElem? (i := 27) rfl)
theorem dL_law_1008 : decode cL_law 1008 = .ok (.iaload, 1) := dgL_law_16 (1008, (.iaload, 1)) (List.mem_of_getElem? (i := 28) rfl)
theorem dL_law_1009 : decode cL_law 1009 = .ok (.invokevirtual 111, 3) := dgL_law_16 (1009, (.invokevirtual 111, 3)) (List.mem_of_getElem? (i := 29) rfl)
theorem dL_law_1012 : decode cL_law 1012 = .ok (.pop, 1) := dgL_law_16 (1012, (.pop, 1)) (List.mem_of_getElem? (i := 30) rfl)
theorem dL_law_1013 : decode cL_law 1013 = .ok (.aload_n 2, 1) := dgL_law_16 (1013, (.aload_n 2, 1)) (List.mem_of_getElem? (i := 31) rfl)
theorem dL_law_1014 : decode cL_law 1014 = .ok (.aload_n 0, 1) := dgL_law_16 (1014, (.aload_n 0, 1)) (List.mem_of_getElem? (i := 32) rfl)
theorem dL_law_1015 : decode cL_law 1015 = .ok (.iload_n 3, 1) := dgL_law_16 (1015, (.iload_n 3, 1)) (List.mem_of_getElem? (i := 33) rfl)
theorem dL_law_1016 : decode cL_law 1016 = .ok (.iconst 1, 1) := dgL_law_16 (1016, (.iconst 1, 1)) (List.mem_of_getElem? (i := 34) rfl)
theorem dL_law_1017 : decode cL_law 1017 = .ok (.iadd, 1) := dgL_law_16 (1017, (.iadd, 1)) (List.mem_of_getElem? (i := 35) rfl)
theorem dL_law_1018 : decode cL_law 1018 = .ok (.iaload, 1) := dgL_law_16 (1018, (.iaload, 1)) (List.mem_of_getElem? (i := 36) rfl)
theorem dL_law_1019 : decode cL_law 1019 = .ok (.invokevirtual 114, 3) := dgL_law_16 (1019, (.invokevirtual 114, 3)) (List.mem_of_getElem? (i := 37) rfl)
theorem dL_law_1022 : decode cL_law 1022 = .ok (.pop, 1) := dgL_law_16 (1022, (.pop, 1)) (List.mem_of_getElem? (i := 38) rfl)
theorem dL_law_1023 : decode cL_law 1023 = .ok (.goto 625, 3) := dgL_law_16 (1023, (.goto 625, 3)) (List.mem_of_getElem? (i := 39) rfl)
theorem dgL_law_17 : ∀ r ∈ ([(1026, (.aload_n 1, 1)), (1027, (.aload_n 0, 1)), (1028, (.iload_n 3, 1)), (1029, (.iconst 1, 1)), (1030, (.iadd, 1)), (1031, (.iaload, 1)), (1032, (.invokevirtual 115, 3)), (1035, (.pop, 1)), (1036, (.aload_n 2, 1)), (1037, (.aload_n 0, 1)), (1038, (.iload_n 3, 1)), (1039, (.iconst 1, 1)), (1040, (.iadd, 1)), (1041, (.iaload, 1)), (1042, (.invokevirtual 118, 3)), (1045, (.pop, 1)), (1046, (.goto 602, 3)), (1049, (.aload_n 1, 1)), (1050, (.invokevirtual 119, 3)), (1053, (.pop2, 1)), (1054, (.aload_n 2, 1)), (1055, (.invokevirtual 123, 3)), (1058, (.pop2, 1)), (1059, (.goto 589, 3)), (1062, (.aload_n 1, 1)), (1063, (.aload_n 0, 1)), (1064, (.iload_n 3, 1)), (1065, (.iconst 1, 1)), (1066, (.iadd, 1)), (1067, (.iaload, 1)), (1068, (.aload_n 0, 1)), (1069, (.iload_n 3, 1)), (1070, (.iconst 2, 1)), (1071, (.iadd, 1)), (1072, (.iaload, 1)), (1073, (.invokevirtual 124, 3)), (1076, (.pop2, 1)), (1077, (.aload_n 2, 1)), (1078, (.aload_n 0, 1)), (1079, (.iload_n 3, 1))] : List (Nat × (Instr × Nat))), decode cL_law r.1 = .ok r.2 := by decide +kernel
theorem dL_law_1026 : decode cL_law 1026 = .ok (.aload_n 1, 1) := dgL_law_17 (1026, (.aload_n 1, 1)) (List.mem_of_getElem? (i := 0) rfl)
theorem dL_law_1027 : decode cL_law 1027 = .ok (.aload_n 0, 1) := dgL_law_17 (1027, (.aload_n 0, 1)) (List.mem_of_getElem? (i := 1) rfl)
theorem dL_law_1028 : decode cL_law 1028 = .ok (.iload_n 3, 1) := dgL_law_17 (1028, (.iload_n 3, 1)) (List.mem_of_getElem? (i := 2) rfl)
theorem dL_law_1029 : decode cL_law 1029 = .ok (.iconst 1, 1) := dgL_law_17 (1029, (.iconst 1, 1)) (List.mem_of_getElem? (i := 3) rfl)
theorem dL_law_1030 : decode cL_law 1030 = .ok (.iadd, 1) := dgL_law_17 (1030, (.iadd, 1)) (List.mem_of_getElem? (i := 4) rfl)
theorem dL_law_1031 : decode cL_law 1031 = .ok (.iaload, 1) := dgL_law_17 (1031, (.iaload, 1)) (List.mem_of_getElem? (i := 5) rfl)
theorem dL_law_1032 : decode cL_law 1032 = .ok (.invokevirtual 115, 3) := dgL_law_17 (1032, (.invokevirtual 115, 3)) (List.mem_of_getElem? (i := 6) rfl)
theorem dL_law_1035 : decode cL_law 1035 = .ok (.pop, 1) := dgL_law_17 (1035, (.pop, 1)) (List.mem_of_getElem? (i := 7) rfl)
theorem dL_law_1036 : decode cL_law 1036 = .ok (.aload_n 2, 1) := dgL_law_17 (1036, (.aload_n 2, 1)) (List.mem_of_getElem? (i := 8) rfl)
theorem dL_law_1037 : decode cL_law 1037 = .ok (.aload_n 0, 1) := dgL_law_17 (1037, (.aload_n 0, 1)) (List.mem_of_getElem? (i := 9) rfl)
theorem dL_law_1038 : decode cL_law 1038 = .ok (.iload_n 3, 1) := dgL_law_17 (1038, (.iload_n 3, 1)) (List.mem_of_getElem? (i := 10) rfl)
theorem dL_law_1039 : decode cL_law 1039 = .ok (.iconst 1, 1) := dgL_law_17 (1039, (.iconst 1, 1)) (List.mem_of_getElem? (i := 11) rfl)
theorem dL_law_1040 : decode cL_law 1040 = .ok (.iadd, 1) := dgL_law_17 (1040, (.iadd, 1)) (List.mem_of_getElem? (i := 12) rfl)
theorem dL_law_1041 : decode cL_law 1041 = .ok (.iaload, 1) := dgL_law_17 (1041, (.iaload, 1)) (List.mem_of_getElem? (i := 13) rfl)
theorem dL_law_1042 : decode cL_law 1042 = .ok (.invokevirtual 118, 3) := dgL_law_17 (1042, (.invokevirtual 118, 3)) (List.mem_of_getElem? (i := 14) rfl)
theorem dL_law_1045 : decode cL_law 1045 = .ok (.pop, 1) := dgL_law_17 (1045, (.pop, 1)) (List.mem_of_getElem? (i := 15) rfl)
theorem dL_law_1046 : decode cL_law 1046 = .ok (.goto 602, 3) := dgL_law_17 (1046, (.goto 602, 3)) (List.mem_of_getElem? (i := 16) rfl)
theorem dL_law_1049 : decode cL_law 1049 = .ok (.aload_n 1, 1) := dgL_law_17 (1049, (.aload_n 1, 1)) (List.mem_of_getElem? (i := 17) rfl)
theorem dL_law_1050 : decode cL_law 1050 = .ok (.invokevirtual 119, 3) := dgL_law_17 (1050, (.invokevirtual 119, 3)) (List.mem_of_getElem? (i := 18) rfl)
theorem dL_law_1053 : decode cL_law 1053 = .ok (.pop2, 1) := dgL_law_17 (1053, (.pop2, 1)) (List.mem_of_getElem? (i := 19) rfl)
theorem dL_law_1054 : decode cL_law 1054 = .ok (.aload_n 2, 1) := dgL_law_17 (1054, (.aload_n 2, 1)) (List.mem_of_getElem? (i := 20) rfl)
theorem dL_law_1055 : decode cL_law 1055 = .ok (.invokevirtual 123, 3) := dgL_law_17 (1055, (.invokevirtual 123, 3)) (List.mem_of_getElem? (i := 21) rfl)
theorem dL_law_1058 : decode cL_law 1058 = .ok (.pop2, 1) := dgL_law_17 (1058, (.pop2, 1)) (List.mem_of_getElem? (i := 22) rfl)
theorem dL_law_1059 : decode cL_law 1059 = .ok (.goto 589, 3) := dgL_law_17 (1059, (.goto 589, 3)) (List.mem_of_getElem? (i := 23) rfl)
theorem dL_law_1062 : decode cL_law 1062 = .ok (.aload_n 1, 1) := dgL_law_17 (1062, (.aload_n 1, 1)) (List.mem_of_getElem? (i := 24) rfl)
theorem dL_law_1063 : decode cL_law 1063 = .ok (.aload_n 0, 1) := dgL_law_17 (1063, (.aload_n 0, 1)) (List.mem_of_getElem? (i := 25) rfl)
theorem dL_law_1064 : decode cL_law 1064 = .ok (.iload_n 3, 1) := dgL_law_17 (1064, (.iload_n 3, 1)) (List.mem_of_getElem? (i := 26) rfl)
theorem dL_law_1065 : decode cL_law 1065 = .ok (.iconst 1, 1) := dgL_law_17 (1065, (.iconst 1, 1)) (List.mem_of_getElem? (i := 27) rfl)
theorem dL_law_1066 : decode cL_law 1066 = .ok (.iadd, 1) := dgL_law_17 (1066, (.iadd, 1)) (List.mem_of_getElem? (i := 28) rfl)
theorem dL_law_1067 : decode cL_law 1067 = .ok (.iaload, 1) := dgL_law_17 (1067, (.iaload, 1)) (List.mem_of_getElem? (i := 29) rfl)
theorem dL_law_1068 : decode cL_law 1068 = .ok (.aload_n 0, 1) := dgL_law_17 (1068, (.aload_n 0, 1)) (List.mem_of_getElem? (i := 30) rfl)
theorem dL_law_1069 : decode cL_law 1069 = .ok (.iload_n 3, 1) := dgL_law_17 (1069, (.iload_n 3, 1)) (List.mem_of_getElem? (i := 31) rfl)
theorem dL_law_1070 : decode cL_law 1070 = .ok (.iconst 2, 1) := dgL_law_17 (1070, (.iconst 2, 1)) (List.mem_of_getElem? (i := 32) rfl)
theorem dL_law_1071 : decode cL_law 1071 = .ok (.iadd, 1) := dgL_law_17 (1071, (.iadd, 1)) (List.mem_of_getElem? (i := 33) rfl)
theorem dL_law_1072 : decode cL_law 1072 = .ok (.iaload, 1) := dgL_law_17 (1072, (.iaload, 1)) (List.mem_of_getElem? (i := 34) rfl)
theorem dL_law_1073 : decode cL_law 1073 = .ok (.invokevirtual 124, 3) := dgL_law_17 (1073, (.invokevirtual 124, 3)) (List.mem_of_getElem? (i := 35) rfl)
theorem dL_law_1076 : decode cL_law 1076 = .ok (.pop2, 1) := dgL_law_17 (1076, (.pop2, 1)) (List.mem_of_getElem? (i := 36) rfl)
theorem dL_law_1077 : decode cL_law 1077 = .ok (.aload_n 2, 1) := dgL_law_17 (1077, (.aload_n 2, 1)) (List.mem_of_getElem? (i := 37) rfl)
theorem dL_law_1078 : decode cL_law 1078 = .ok (.aload_n 0, 1) := dgL_law_17 (1078, (.aload_n 0, 1)) (List.mem_of_getElem? (i := 38) rfl)
theorem dL_law_1079 : decode cL_law 1079 = .ok (.iload_n 3, 1) := dgL_law_17 (1079, (.iload_n 3, 1)) (List.mem_of_getElem? (i := 39) rfl)
theorem dgL_law_18 : ∀ r ∈ ([(1080, (.iconst 1, 1)), (1081, (.iadd, 1)), (1082, (.iaload, 1)), (1083, (.aload_n 0, 1)), (1084, (.iload_n 3, 1)), (1085, (.iconst 2, 1)), (1086, (.iadd, 1)), (1087, (.iaload, 1)), (1088, (.invokevirtual 128, 3)), (1091, (.pop2, 1)), (1092, (.goto 556, 3)), (1095, (.aload_n 1, 1)), (1096, (.aload_n 0, 1)), (1097, (.iload_n 3, 1)), (1098, (.iconst 1, 1)), (1099, (.iadd, 1)), (1100, (.iaload, 1)), (1101, (.invokevirtual 129, 3)), (1104, (.pop, 1)), (1105, (.aload_n 2, 1)), (1106, (.aload_n 0, 1)), (1107, (.iload_n 3, 1)), (1108, (.iconst 1, 1)), (1109, (.iadd, 1)), (1110, (.iaload, 1)), (1111, (.invokevirtual 132, 3)), (1114, (.pop, 1)), (1115, (.goto 533, 3)), (1118, (.aload_n 1, 1)), (1119, (.invokevirtual 133, 3)), (1122, (.pop, 1)), (1123, (.aload_n 2, 1)), (1124, (.invokevirtual 136, 3)), (1127, (.pop, 1)), (1128, (.goto 520, 3)), (1131, (.aload_n 1, 1)), (1132, (.aload_n 0, 1)), (1133, (.iload_n 3, 1)), (1134, (.iconst 1, 1)), (1135, (.iadd, 1))] : List (Nat × (Instr × Nat))), decode cL_law r.1 = .ok r.2 := by decide +kernel
theorem dL_law_1080 : decode cL_law 1080 = .ok (.iconst 1, 1) := dgL_law_18 (1080, (.iconst 1, 1)) (List.mem_of_getElem? (i := 0) rfl)
theorem dL_law_1081 : decode cL_law 1081 = .ok (.iadd, 1) := dgL_law_18 (1081, (.iadd, 1)) (List.mem_of_getElem? (i := 1) rfl)
theorem dL_law_1082 : decode cL_law 1082 = .ok (.iaload, 1) := dgL_law_18 (1082, (.iaload, 1)) (List.mem_of_getElem? (i := 2) rfl)
theorem dL_law_1083 : decode cL_law 1083 = .ok (.aload_n 0, 1) := dgL_law_18 (1083, (.aload_n 0, 1)) (List.mem_of_getElem? (i := 3) rfl)
theorem dL_law_1084 : decode cL_law 1084 = .ok (.iload_n 3, 1) := dgL_law_18 (1084, (.iload_n 3, 1)) (List.mem_of_getElem? (i := 4) rfl)
theorem dL_law_1085 : decode cL_law 1085 = .ok (.iconst 2, 1) := dgL_law_18 (1085, (.iconst 2, 1)) (List.mem_of_getElem? (i := 5) rfl)
theorem dL_law_1086 : decode cL_law 1086 = .ok (.iadd, 1) := dgL_law_18 (1086, (.iadd, 1)) (List.mem_of_getElem? (i := 6) rfl)
theorem dL_law_1087 : decode cL_law 1087 = .ok (.iaload, 1) := dgL_law_18 (1087, (.iaload, 1)) (List.mem_of_getElem? (i := 7) rfl)
theorem dL_law_1088 : decode cL_law 1088 = .ok (.invokevirtual 128, 3) := dgL_law_18 (1088, (.invokevirtual 128, 3)) (List.mem_of_getElem? (i := 8) rfl)
theorem dL_law_1091 : decode cL_law 1091 = .ok (.pop2, 1) := dgL_law_18 (1091, (.pop2, 1)) (List.mem_of_getElem? (i := 9) rfl)
theorem dL_law_1092 : decode cL_law 1092 = .ok (.goto 556, 3) := dgL_law_18 (1092, (.goto 556, 3)) (List.mem_of_getElem? (i := 10) rfl)
theorem dL_law_1095 : decode cL_law 1095 = .ok (.aload_n 1, 1) := dgL_law_18 (1095, (.aload_n 1, 1)) (List.mem_of_getElem? (i := 11) rfl)
theorem dL_law_1096 : decode cL_law 1096 = .ok (.aload_n 0, 1) := dgL_law_18 (1096, (.aload_n 0, 1)) (List.mem_of_getElem? (i := 12) rfl)
theorem dL_law_1097 : decode cL_law 1097 = .ok (.iload_n 3, 1) := dgL_law_18 (1097, (.iload_n 3, 1)) (List.mem_of_getElem? (i := 13) rfl)
theorem dL_law_1098 : decode cL_law 1098 = .ok (.iconst 1, 1) := dgL_law_18 (1098, (.iconst 1, 1)) (List.mem_of_getElem? (i := 14) rfl)
theorem dL_law_1099 : decode cL_law 1099 = .ok (.iadd, 1) := dgL_law_18 (1099, (.iadd, 1)) (List.mem_of_getElem? (i := 15) rfl)
theorem dL_law_1100 : decode cL_law 1100 = .ok (.iaload, 1) := dgL_law_18 (1100, (.iaload, 1)) (List.mem_of_getElem? (i := 16) rfl)
theorem dL_law_1101 : decode cL_law 1101 = .ok (.invokevirtual 129, 3) := dgL_law_18 (1101, (.invokevirtual 129, 3)) (List.mem_of_getElem? (i := 17) rfl)
theorem dL_law_1104 : decode cL_law 1104 = .ok (.pop, 1) := dgL_law_18 (1104, (.pop, 1)) (List.mem_of_getElem? (i := 18) rfl)
theorem dL_law_1105 : decode cL_law 1105 = .ok (.aload_n 2, 1) := dgL_law_18 (1105, (.aload_n 2, 1)) (List.mem_of_getElem? (i := 19) rfl)
theorem dL_law_1106 : decode cL_law 1106 = .ok (.aload_n 0, 1) := dgL_law_18 (1106, (.aload_n 0, 1)) (List.mem_of_getElem? (i := 20) rfl)
theorem dL_law_1107 : decode cL_law 1107 = .ok (.iload_n 3, 1) := dgL_law_18 (1107, (.iload_n 3, 1)) (List.mem_of_getElem? (i := 21) rfl)
theorem dL_law_1108 : decode cL_law 1108 = .ok (.iconst 1, 1) := dgL_law_18 (1108, (.iconst 1, 1)) (List.mem_of_getElem? (i := 22) rfl)
theorem dL_law_1109 : decode cL_law 1109 = .ok (.iadd, 1) := dgL_law_18 (1109, (.iadd, 1)) (List.mem_of_getElem? (i := 23) rfl)
theorem dL_law_1110 : decode cL_law 1110 = .ok (.iaload, 1) := dgL_law_18 (1110, (.iaload, 1)) (List.mem_of_getElem? (i := 24) rfl)
theorem dL_law_1111 : decode cL_law 1111 = .ok (.invokevirtual 132, 3) := dgL_law_18 (1111, (.invokevirtual 132, 3)) (List.mem_of_getElem? (i := 25) rfl)
theorem dL_law_1114 : decode cL_law 1114 = .ok (.pop, 1) := dgL_law_18 (1114, (.pop, 1)) (List.mem_of_getElem? (i := 26) rfl)
theorem dL_law_1115 : decode cL_law 1115 = .ok (.goto 533, 3) := dgL_law_18 (1115, (.goto 533, 3)) (List.mem_of_getElem? (i := 27) rfl)
theorem dL_law_1118 : decode cL_law 1118 = .ok (.aload_n 1, 1) := dgL_law_18 (1118, (.aload_n 1, 1)) (List.mem_of_getElem? (i := 28) rfl)
theorem dL_law_1119 : decode cL_law 1119 = .ok (.invokevirtual 133, 3) := dgL_law_18 (1119, (.invokevirtual 133, 3)) (List.mem_of_getElem? (i := 29) rfl)
theorem dL_law_1122 : decode cL_law 1122 = .ok (.pop, 1) := dgL_law_18 (1122, (.pop, 1)) (List.mem_of_getElem? (i := 30) rfl)
theorem dL_law_1123 : decode cL_law 1123 = .ok (.aload_n 2, 1) := dgL_law_18 (1123, (.aload_n 2, 1)) (List.mem_of_getElem? (i := 31) rfl)
theorem dL_law_1124 : decode cL_law 1124 = .ok (.invokevirtual 136, 3) := dgL_law_18 (1124, (.invokevirtual 136, 3)) (List.mem_of_getElem? (i := 32) rfl)
theorem dL_law_1127 : decode cL_law 1127 = .ok (.pop, 1) := dgL_law_18 (1127, (.pop, 1)) (List.mem_of_getElem? (i := 33) rfl)
theorem dL_law_1128 : decode cL_law 1128 = .ok (.goto 520, 3) := dgL_law_18 (1128, (.goto 520, 3)) (List.mem_of_getElem? (i := 34) rfl)
theorem dL_law_1131 : decode cL_law 1131 = .ok (.aload_n 1, 1) := dgL_law_18 (1131, (.aload_n 1, 1)) (List.mem_of_getElem? (i := 35) rfl)
theorem dL_law_1132 : decode cL_law 1132 = .ok (.aload_n 0, 1) := dgL_law_18 (1132, (.aload_n 0, 1)) (List.mem_of_getElem? (i := 36) rfl)
theorem dL_law_1133 : decode cL_law 1133 = .ok (.iload_n 3, 1) := dgL_law_18 (1133, (.iload_n 3, 1)) (List.mem_of_getElem? (i := 37) rfl)
theorem dL_law_1134 : decode cL_law 1134 = .ok (.iconst 1, 1) := dgL_law_18 (1134, (.iconst 1, 1)) (List.mem_of_getElem? (i := 38) rfl)
theorem dL_law_1135 : decode cL_law 1135 = .ok (.iadd, 1) := dgL_law_18 (1135, (.iadd, 1)) (List.mem_of_getElem? (i := 39) rfl)
theorem dgL_law_19 : ∀ r ∈ ([(1136, (.iaload, 1)), (1137, (.aload_n 0, 1)), (1138, (.iload_n 3, 1)), (1139, (.iconst 2, 1)), (1140, (.iadd, 1)), (1141, (.iaload, 1)), (1142, (.aload_n 0, 1)), (1143, (.iload_n 3, 1)), (1144, (.iconst 3, 1)), (1145, (.iadd, 1)), (1146, (.iaload, 1)), (1147, (.invokevirtual 137, 3)), (1150, (.pop2, 1)), (1151, (.aload_n 2, 1)), (1152, (.aload_n 0, 1)), (1153, (.iload_n 3, 1)), (1154, (.iconst 1, 1)), (1155, (.iadd, 1)), (1156, (.iaload, 1)), (1157, (.aload_n 0, 1)), (1158, (.iload_n 3, 1)), (1159, (.iconst 2, 1)), (1160, (.iadd, 1)), (1161, (.iaload, 1)), (1162, (.aload_n 0, 1)), (1163, (.iload_n 3, 1)), (1164, (.iconst 3, 1)), (1165, (.iadd, 1)), (1166, (.iaload, 1)), (1167, (.invokevirtual 141, 3)), (1170, (.pop2, 1)), (1171, (.goto 477, 3)), (1174, (.aload_n 1, 1)), (1175, (.aload_n 0, 1)), (1176, (.iload_n 3, 1)), (1177, (.iconst 1, 1)), (1178, (.iadd, 1)), (1179, (.iaload, 1)), (1180, (.invokevirtual 142, 3)), (1183, (.pop, 1))] : List (Nat × (Instr × Nat))), decode cL_law r.1 = .ok r.2 := by decide +kernel
theorem dL_law_1136 : decode cL_law 1136 = .ok (.iaload, 1) := dgL_law_19 (1136, (.iaload, 1)) (List.mem_of_getElem? (i := 0) rfl)
theorem dL_law_1137 : decode cL_law 1137 = .ok (.aload_n 0, 1) := dgL_law_19 (1137, (.aload_n 0, 1)) (List.mem_of_getElem? (i := 1) rfl)
theorem dL_law_1138 : decode cL_law 1138 = .ok (.iload_n 3, 1) := dgL_law_19 (1138, (.iload_n 3, 1)) (List.mem_of_getElem? (i := 2) rfl)
theorem dL_law_1139 : decode cL_law 1139 = .ok (.iconst 2, 1) := dgL_law_19 (1139, (.iconst 2, 1)) (List.mem_of_getElem? (i := 3) rfl)
theorem dL_law_1140 : decode cL_law 1140 = .ok (.iadd, 1) := dgL_law_19 (1140, (.iadd, 1)) (List.mem_of_getElem? (i := 4) rfl)
theorem dL_law_1141 : decode cL_law 1141 = .ok (.iaload, 1) := dgL_law_19 (1141, (.iaload, 1)) (List.mem_of_getElem? (i := 5) rfl)
theorem dL_law_1142 : decode cL_law 1142 = .ok (.aload_n 0, 1) := dgL_law_19 (1142, (.aload_n 0, 1)) (List.mem_of_getElem? (i := 6) rfl)
theorem dL_law_1143 : decode cL_law 1143 = .ok (.iload_n 3, 1) := dgL_law_19 (1143, (.iload_n 3, 1)) (List.mem_of_getElem? (i := 7) rfl)
theorem dL_law_1144 : decode cL_law 1144 = .ok (.iconst 3, 1) := dgL_law_19 (1144, (.iconst 3, 1)) (List.mem_of_getElem? (i := 8) rfl)
theorem dL_law_1145 : decode cL_law 1145 = .ok (.iadd, 1) := dgL_law_19 (1145, (.iadd, 1)) (List.mem_of_getElem? (i := 9) rfl)
theorem dL_law_1146 : decode cL_law 1146 = .ok (.iaload, 1) := dgL_law_19 (1146, (.iaload, 1)) (List.mem_of_getElem? (i := 10) rfl)
theorem dL_law_1147 : decode cL_law 1147 = .ok (.invokevirtual 137, 3) := dgL_law_19 (1147, (.invokevirtual 137, 3)) (List.mem_of_getElem? (i := 11) rfl)
theorem dL_law_1150 : decode cL_law 1150 = .ok (.pop2, 1) := dgL_law_19 (1150, (.pop2, 1)) (List.mem_of_getElem? (i := 12) rfl)
theorem dL_law_1151 : decode cL_law 1151 = .ok (.aload_n 2, 1) := dgL_law_19 (1151, (.aload_n 2, 1)) (List.mem_of_getElem? (i := 13) rfl)
theorem dL_law_1152 : decode cL_law 1152 = .ok (.aload_n 0, 1) := dgL_law_19 (1152, (.aload_n 0, 1)) (List.mem_of_getElem? (i := 14) rfl)
theorem dL_law_1153 : decode cL_law 1153 = .ok (.iload_n 3, 1) := dgL_law_19 (1153, (.iload_n 3, 1)) (List.mem_of_getElem? (i := 15) rfl)
theorem dL_law_1154 : decode cL_law 1154 = .ok (.iconst 1, 1) := dgL_law_19 (1154, (.iconst 1, 1)) (List.mem_of_getElem? (i := 16) rfl)
theorem dL_law_1155 : decode cL_law 1155 = .ok (.iadd, 1) := dgL_law_19 (1155, (.iadd, 1)) (List.mem_of_getElem? (i := 17) rfl)
theorem dL_law_1156 : decode cL_law 1156 = .ok (.iaload, 1) := dgL_law_19 (1156, (.iaload, 1)) (List.mem_of_getElem? (i := 18) rfl)
theorem dL_law_1157 : decode cL_law 1157 = .ok (.aload_n 0, 1) := dgL_law_19 (1157, (.aload_n 0, 1)) (List.mem_of_getElem? (i := 19) rfl)
theorem dL_law_1158 : decode cL_law 1158 = .ok (.iload_n 3, 1) := dgL_law_19 (1158, (.iload_n 3, 1)) (List.mem_of_getElem? (i := 20) rfl)
theorem dL_law_1159 : decode cL_law 1159 = .ok (.iconst 2, 1) := dgL_law_19 (1159, (.iconst 2, 1)) (List.mem_of_getElem? (i := 21) rfl)
theorem dL_law_1160 : decode cL_law 1160 = .ok (.iadd, 1) := dgL_law_19 (1160, (.iadd, 1)) (List.mem_of_getElem? (i := 22) rfl)
theorem dL_law_1161 : decode cL_law 1161 = .ok (.iaload, 1) := dgL_law_19 (1161, (.iaload, 1)) (List.mem_of_getElem? (i := 23) rfl)
theorem dL_law_1162 : decode cL_law 1162 = .ok (.aload_n 0, 1) := dgL_law_19 (1162, (.aload_n 0, 1)) (List.mem_of_getElem? (i := 24) rfl)
theorem dL_law_1163 : decode cL_law 1163 = .ok (.iload_n 3, 1) := dgL_law_19 (1163, (.iload_n 3, 1)) (List.mem_of_getElem? (i := 25) rfl)
theorem dL_law_1164 : decode cL_law 1164 = .ok (.iconst 3, 1) := dgL_law_19 (1164, (.iconst 3, 1)) (List.mem_of_getElem? (i := 26) rfl)
theorem dL_law_1165 : decode cL_law 1165 = .ok (.iadd, 1) := dgL_law_19 (1165, (.iadd, 1)) (List.mem_of_getElem? (i := 27) rfl)
theorem dL_law_1166 : decode cL_law 1166 = .ok (.iaload, 1) := dgL_law_19 (1166, (.iaload, 1)) (List.mem_of_getElem? (i := 28) rfl)
theorem dL_law_1167 : decode cL_law 1167 = .ok (.invokevirtual 141, 3) := dgL_law_19 (1167, (.invokevirtual 141, 3)) (List.mem_of_getElem? (i := 29) rfl)
theorem dL_law_1170 : decode cL_law 1170 = .ok (.pop2, 1) := dgL_law_19 (1170, (.pop2, 1)) (List.mem_of_getElem? (i := 30) rfl)
theorem dL_law_1171 : decode cL_law 1171 = .ok (.goto 477, 3) := dgL_law_19 (1171, (.goto 477, 3)) (List.mem_of_getElem? (i := 31) rfl)
theorem dL_law_1174 : decode cL_law 1174 = .ok (.aload_n 1, 1) := dgL_law_19 (1174, (.aload_n 1, 1)) (List.mem_of_getElem? (i := 32) rfl)
theorem dL_law_1175 : decode cL_law 1175 = .ok (.aload_n 0, 1) := dgL_law_19 (1175, (.aload_n 0, 1)) (List.mem_of_getElem? (i := 33) rfl)
theorem dL_law_1176 : decode cL_law 1176 = .ok (.iload_n 3, 1) := dgL_law_19 (1176, (.iload_n 3, 1)) (List.mem_of_getElem? (i := 34) rfl)
theorem dL_law_1177 : decode cL_law 1177 = .ok (.iconst 1, 1) := dgL_law_19 (1177, (.iconst 1, 1)) (List.mem_of_getElem? (i := 35) rfl)
theorem dL_law_1178 : decode cL_law 1178 = .ok (.iadd, 1) := dgL_law_19 (1178, (.iadd, 1)) (List.mem_of_getElem? (i := 36) rfl)
theorem dL_law_1179 : decode cL_law 1179 = .ok (.iaload, 1) := dgL_law_19 (1179, (.iaload, 1)) (List.mem_of_getElem? (i := 37) rfl)
theorem dL_law_1180 : decode cL_law 1180 = .ok (.invokevirtual 142, 3) := dgL_law_19 (1180, (.invokevirtual 142, 3)) (List.mem_of_getElem? (i := 38) rfl)
theorem dL_law_1183 : decode cL_law 1183 = .ok (.pop, 1) := dgL_law_19 (1183, (.pop, 1)) (List.mem_of_getElem? (i := 39) rfl)
theorem dgL_law_20 : ∀ r ∈ ([(1184, (.aload_n 2, 1)), (1185, (.aload_n 0, 1)), (1186, (.iload_n 3, 1)), (1187, (.iconst 1, 1)), (1188, (.iadd, 1)), (1189, (.iaload, 1)), (1190, (.invokevirtual 145, 3)), (1193, (.pop, 1)), (1194, (.goto 454, 3)), (1197, (.aload_n 1, 1)), (1198, (.aload_n 0, 1)), (1199, (.iload_n 3, 1)), (1200, (.iconst 1, 1)), (1201, (.iadd, 1)), (1202, (.iaload, 1)), (1203, (.aload_n 0, 1)), (1204, (.iload_n 3, 1)), (1205, (.iconst 2, 1)), (1206, (.iadd, 1)), (1207, (.iaload, 1)), (1208, (.aload_n 0, 1)), (1209, (.iload_n 3, 1)), (1210, (.iconst 3, 1)), (1211, (.iadd, 1)), (1212, (.iaload, 1)), (1213, (.invokevirtual 146, 3)), (1216, (.pop, 1)), (1217, (.aload_n 2, 1)), (1218, (.aload_n 0, 1)), (1219, (.iload_n 3, 1)), (1220, (.iconst 1, 1)), (1221, (.iadd, 1)), (1222, (.iaload, 1)), (1223, (.aload_n 0, 1)), (1224, (.iload_n 3, 1)), (1225, (.iconst 2, 1)), (1226, (.iadd, 1)), (1227, (.iaload, 1)), (1228, (.aload_n 0, 1)), (1229, (.iload_n 3, 1))] : List (Nat × (Instr × Nat))), decode cL_law r.1 = .ok r.2 := by decide +kernel
theorem dL_law_1184 : decode cL_law 1184 = .ok (.aload_n 2, 1) := dgL_law_20 (1184, (.aload_n 2, 1)) (List.mem_of_getElem? (i := 0) rfl)
theorem dL_law_1185 : decode cL_law 1185 = .ok (.aload_n 0, 1) := dgL_law_20 (1185, (.aload_n 0, 1)) (List.mem_of_getElem? (i := 1) rfl)
theorem dL_law_1186 : decode cL_law 1186 = .ok (.iload_n 3, 1) := dgL_law_20 (1186, (.iload_n 3, 1)) (List.mem_of_getElem? (i := 2) rfl)
theorem dL_law_1187 : decode cL_law 1187 = .ok (.iconst 1, 1) := dgL_law_20 (1187, (.iconst 1, 1)) (List.mem_of_getElem? (i := 3) rfl)
theorem dL_law_1188 : decode cL_law 1188 = .ok (.iadd, 1) := dgL_law_20 (1188, (.iadd, 1)) (List.mem_of_getElem? (i := 4) rfl)
theorem dL_law_1189 : decode cL_law 1189 = .ok (.iaload, 1) := dgL_law_20 (1189, (.iaload, 1)) (List.mem_of_getElem? (i := 5) rfl)
theorem dL_law_1190 : decode cL_law 1190 = .ok (.invokevirtual 145, 3) := dgL_law_20 (1190, (.invokevirtual 145, 3)) (List.mem_of_getElem? (i := 6) rfl)
theorem dL_law_1193 : decode cL_law 1193 = .ok (.pop, 1) := dgL_law_20 (1193, (.pop, 1)) (List.mem_of_getElem? (i := 7) rfl)
theorem dL_law_1194 : decode cL_law 1194 = .ok (.goto 454, 3) := dgL_law_20 (1194, (.goto 454, 3)) (List.mem_of_getElem? (i := 8) rfl)
theorem dL_law_1197 : decode cL_law 1197 = .ok (.aload_n 1, 1) := dgL_law_20 (1197, (.aload_n 1, 1)) (List.mem_of_getElem? (i := 9) rfl)
theorem dL_law_1198 : decode cL_law 1198 = .ok (.aload_n 0, 1) := dgL_law_20 (1198, (.aload_n 0, 1)) (List.mem_of_getElem? (i := 10) rfl)
theorem dL_law_1199 : decode cL_law 1199 = .ok (.iload_n 3, 1) := dgL_law_20 (1199, (.iload_n 3, 1)) (List.mem_of_getElem? (i := 11) rfl)
theorem dL_law_1200 : decode cL_law 1200 = .ok (.iconst 1, 1) := dgL_law_20 (1200, (.iconst 1, 1)) (List.mem_of_getElem? (i := 12) rfl)
theorem dL_law_1201 : decode cL_law 1201 = .ok (.iadd, 1) := dgL_law_20 (1201, (.iadd, 1)) (List.mem_of_getElem? (i := 13) rfl)
theorem dL_law_1202 : decode cL_law 1202 = .ok (.iaload, 1) := dgL_law_20 (1202, (.iaload, 1)) (List.mem_of_getElem? (i := 14) rfl)
theorem dL_law_1203 : decode cL_law 1203 = .ok (.aload_n 0, 1) := dgL_law_20 (1203, (.aload_n 0, 1)) (List.mem_of_getElem? (i := 15) rfl)
theorem dL_law_1204 : decode cL_law 1204 = .ok (.iload_n 3, 1) := dgL_law_20 (1204, (.iload_n 3, 1)) (List.mem_of_getElem? (i := 16) rfl)
theorem dL_law_1205 : decode cL_law 1205 = .ok (.iconst 2, 1) := dgL_law_20 (1205, (.iconst 2, 1)) (List.mem_of_getElem? (i := 17) rfl)
theorem dL_law_1206 : decode cL_law 1206 = .ok (.iadd, 1) := dgL_law_20 (1206, (.iadd, 1)) (List.mem_of_getElem? (i := 18) rfl)
theorem dL_law_1207 : decode cL_law 1207 = .ok (.iaload, 1) := dgL_law_20 (1207, (.iaload, 1)) (List.mem_of_getElem? (i := 19) rfl)
theorem dL_law_1208 : decode cL_law 1208 = .ok (.aload_n 0, 1) := dgL_law_20 (1208, (.aload_n 0, 1)) (List.mem_of_getElem? (i := 20) rfl)
theorem dL_law_1209 : decode cL_law 1209 = .ok (.iload_n 3, 1) := dgL_law_20 (1209, (.iload_n 3, 1)) (List.mem_of_getElem? (i := 21) rfl)
theorem dL_law_1210 : decode cL_law 1210 = .ok (.iconst 3, 1) := dgL_law_20 (1210, (.iconst 3, 1)) (List.mem_of_getElem? (i := 22) rfl)
theorem dL_law_1211 : decode cL_law 1211 = .ok (.iadd, 1) := dgL_law_20 (1211, (.iadd, 1)) (List.mem_of_getElem? (i := 23) rfl)
theorem dL_law_1212 : decode cL_law 1212 = .ok (.iaload, 1) := dgL_law_20 (1212, (.iaload, 1)) (List.mem_of_getElem? (i := 24) rfl)
theorem dL_law_1213 : decode cL_law 1213 = .ok (.invokevirtual 146, 3) := dgL_law_20 (1213, (.invokevirtual 146, 3)) (List.mem_of_getElem? (i := 25) rfl)
theorem dL_law_1216 : decode cL_law 1216 = .ok (.pop, 1) := dgL_law_20 (1216, (.pop, 1)) (List.mem_of_getElem? (i := 26) rfl)
theorem dL_law_1217 : decode cL_law 1217 = .ok (.aload_n 2, 1) := dgL_law_20 (1217, (.aload_n 2, 1)) (List.mem_of_getElem? (i := 27) rfl)
theorem dL_law_1218 : decode cL_law 1218 = .ok (.aload_n 0, 1) := dgL_law_20 (1218, (.aload_n 0, 1)) (List.mem_of_getElem? (i := 28) rfl)
theorem dL_law_1219 : decode cL_law 1219 = .ok (.iload_n 3, 1) := dgL_law_20 (1219, (.iload_n 3, 1)) (List.mem_of_getElem? (i := 29) rfl)
theorem dL_law_1220 : decode cL_law 1220 = .ok (.iconst 1, 1) := dgL_law_20 (1220, (.iconst 1, 1)) (List.mem_of_getElem? (i := 30) rfl)
theorem dL_law_1221 : decode cL_law 1221 = .ok (.iadd, 1) := dgL_law_20 (1221, (.iadd, 1)) (List.mem_of_getElem? (i := 31) rfl)
theorem dL_law_1222 : decode cL_law 1222 = .ok (.iaload, 1) := dgL_law_20 (1222, (.iaload, 1)) (List.mem_of_getElem? (i := 32) rfl)
theorem dL_law_1223 : decode cL_law 1223 = .ok (.aload_n 0, 1) := dgL_law_20 (1223, (.aload_n 0, 1)) (List.mem_of_getElem? (i := 33) rfl)
theorem dL_law_1224 : decode cL_law 1224 = .ok (.iload_n 3, 1) := dgL_law_20 (1224, (.iload_n 3, 1)) (List.mem_of_getElem? (i := 34) rfl)
theorem dL_law_1225 : decode cL_law 1225 = .ok (.iconst 2, 1) := dgL_law_20 (1225, (.iconst 2, 1)) (List.mem_of_getElem? (i := 35) rfl)
theorem dL_law_1226 : decode cL_law 1226 = .ok (.iadd, 1) := dgL_law_20 (1226, (.iadd, 1)) (List.mem_of_getElem? (i := 36) rfl)
theorem dL_law_1227 : decode cL_law 1227 = .ok (.iaload, 1) := dgL_law_20 (1227, (.iaload, 1)) (List.mem_of_getElem? (i := 37) rfl)
theorem dL_law_1228 : decode cL_law 1228 = .ok (.aload_n 0, 1) := dgL_law_20 (1228, (.aload_n 0, 1)) (List.mem_of_getElem? (i := 38) rfl)
theorem dL_law_1229 : decode cL_law 1229 = .ok (.iload_n 3, 1) := dgL_law_20 (1229, (.iload_n 3, 1)) (List.mem_of_getElem? (i := 39) rfl)
theorem dgL_law_21 : ∀ r ∈ ([(1230, (.iconst 3, 1)), (1231, (.iadd, 1)), (1232, (.iaload, 1)), (1233, (.invokevirtual 149, 3)), (1236, (.pop, 1)), (1237, (.goto 411, 3)), (1240, (.aload_n 1, 1)), (1241, (.aload_n 0, 1)), (1242, (.iload_n 3, 1)), (1243, (.iconst 1, 1)), (1244, (.iadd, 1)), (1245, (.iaload, 1)), (1246, (.aload_n 0, 1)), (1247, (.iload_n 3, 1)), (1248, (.iconst 2, 1)), (1249, (.iadd, 1)), (1250, (.iaload, 1)), (1251, (.aload_n 0, 1)), (1252, (.iload_n 3, 1)), (1253, (.iconst 3, 1)), (1254, (.iadd, 1)), (1255, (.iaload, 1)), (1256, (.aload_n 0, 1)), (1257, (.iload_n 3, 1)), (1258, (.iconst 4, 1)), (1259, (.iadd, 1)), (1260, (.iaload, 1)), (1261, (.aload_n 0, 1)), (1262, (.iload_n 3, 1)), (1263, (.iconst 5, 1)), (1264, (.iadd, 1)), (1265, (.iaload, 1)), (1266, (.aload_n 0, 1)), (1267, (.iload_n 3, 1)), (1268, (.bipush 6, 2)), (1270, (.iadd, 1)), (1271, (.iaload, 1)), (1272, (.invokevirtual 150, 3)), (1275, (.pop, 1)), (1276, (.aload_n 2, 1))] : List (Nat × (Instr × Nat))), decode cL_law r.1 = .ok r.2 := by decide +kernel
theorem dL_law_1230 : decode cL_law 1230 = .ok (.iconst 3, 1) := dgL_law_21 (1230, (.iconst 3, 1)) (List.mem_of_getElem? (i := 0) rfl)
theorem dL_law_1231 : decode cL_law 1231 = .ok (.iadd, 1) := dgL_law_21 (1231, (.iadd, 1)) (List.mem_of_getElem? (i := 1) rfl)
theorem dL_law_1232 : decode cL_law 1232 = .ok (.iaload, 1) := dgL_law_21 (1232, (.iaload, 1)) (List.mem_of_getElem? (i := 2) rfl)
theorem dL_law_1233 : decode cL_law 1233 = .ok (.invokevirtual 149, 3) := dgL_law_21 (1233, (.invokevirtual 149, 3)) (List.mem_of_getElem? (i := 3) rfl)
theorem dL_law_1236 : decode cL_law 1236 = .ok (.pop, 1) := dgL_law_21 (1236, (.pop, 1)) (List.mem_of_getElem? (i := 4) rfl)
theorem dL_law_1237 : decode cL_law 1237 = .ok (.goto 411, 3) := dgL_law_21 (1237, (.goto 411, 3)) (List.mem_of_getElem? (i := 5) rfl)
theorem dL_law_1240 : decode cL_law 1240 = .ok (.aload_n 1, 1) := dgL_law_21 (1240, (.aload_n 1, 1)) (List.mem_of_getElem? (i := 6) rfl)
theorem dL_law_1241 : decode cL_law 1241 = .ok (.aload_n 0, 1) := dgL_law_21 (1241, (.aload_n 0, 1)) (List.mem_of_getElem? (i := 7) rfl)
theorem dL_law_1242 : decode cL_law 1242 = .ok (.iload_n 3, 1) := dgL_law_21 (1242, (.iload_n 3, 1)) (List.mem_of_getElem? (i := 8) rfl)
theorem dL_law_1243 : decode cL_law 1243 = .ok (.iconst 1, 1) := dgL_law_21 (1243, (.iconst 1, 1)) (List.mem_of_getElem? (i := 9) rfl)
theorem dL_law_1244 : decode cL_law 1244 = .ok (.iadd, 1) := dgL_law_21 (1244, (.iadd, 1)) (List.mem_of_getElem? (i := 10) rfl)
theorem dL_law_1245 : decode cL_law 1245 = .ok (.iaload, 1) := dgL_law_21 (1245, (.iaload, 1)) (List.mem_of_getElem? (i := 11) rfl)
theorem dL_law_1246 : decode cL_law 1246 = .ok (.aload_n 0, 1) := dgL_law_21 (1246, (.aload_n 0, 1)) (List.mem_of_getElem? (i := 12) rfl)
theorem dL_law_1247 : decode cL_law 1247 = .ok (.iload_n 3, 1) := dgL_law_21 (1247, (.iload_n 3, 1)) (List.mem_of_getElem? (i := 13) rfl)
theorem dL_law_1248 : decode cL_law 1248 = .ok (.iconst 2, 1) := dgL_law_21 (1248, (.iconst 2, 1)) (List.mem_of_getElem? (i := 14) rfl)
theorem dL_law_1249 : decode cL_law 1249 = .ok (.iadd, 1) := dgL_law_21 (1249, (.iadd, 1)) (List.mem_of_getElem? (i := 15) rfl)
theorem dL_law_1250 : decode cL_law 1250 = .ok (.iaload, 1) := dgL_law_21 (1250, (.iaload, 1)) (List.mem_of_getElem? (i := 16) rfl)
theorem dL_law_1251 : decode cL_law 1251 = .ok (.aload_n 0, 1) := dgL_law_21 (1251, (.aload_n 0, 1)) (List.mem_of_getElem? (i := 17) rfl)
theorem dL_law_1252 : decode cL_law 1252 = .ok (.iload_n 3, 1) := dgL_law_21 (1252, (.iload_n 3, 1)) (List.mem_of_getElem? (i := 18) rfl)
theorem dL_law_1253 : decode cL_law 1253 = .ok (.iconst 3, 1) := dgL_law_21 (1253, (.iconst 3, 1)) (List.mem_of_getElem? (i := 19) rfl)
theorem dL_law_1254 : decode cL_law 1254 = .ok (.iadd, 1) := dgL_law_21 (1254, (.iadd, 1)) (List.mem_of_getElem? (i := 20) rfl)
theorem dL_law_1255 : decode cL_law 1255 = .ok (.iaload, 1) := dgL_law_21 (1255, (.iaload, 1)) (List.mem_of_getElem? (i := 21) rfl)
theorem dL_law_1256 : decode cL_law 1256 = .ok (.aload_n 0, 1) := dgL_law_21 (1256, (.aload_n 0, 1)) (List.mem_of_getElem? (i := 22) rfl)
theorem dL_law_1257 : decode cL_law 1257 = .ok (.iload_n 3, 1) := dgL_law_21 (1257, (.iload_n 3, 1)) (List.mem_of_getElem? (i := 23) rfl)
theorem dL_law_1258 : decode cL_law 1258 = .ok (.iconst 4, 1) := dgL_law_21 (1258, (.iconst 4, 1)) (List.mem_of_getElem? (i := 24) rfl)
theorem dL_law_1259 : decode cL_law 1259 = .ok (.iadd, 1) := dgL_law_21 (1259, (.iadd, 1)) (List.mem_of_getElem? (i := 25) rfl)
theorem dL_law_1260 : decode cL_law 1260 = .ok (.iaload, 1) := dgL_law_21 (1260, (.iaload, 1)) (List.mem_of_getElem? (i := 26) rfl)
theorem dL_law_1261 : decode cL_law 1261 = .ok (.aload_n 0, 1) := dgL_law_21 (1261, (.aload_n 0, 1)) (List.mem_of_getElem? (i := 27) rfl)
theorem dL_law_1262 : decode cL_law 1262 = .ok (.iload_n 3, 1) := dgL_law_21 (1262, (.iload_n 3, 1)) (List.mem_of_getElem? (i := 28) rfl)
theorem dL_law_1263 : decode cL_law 1263 = .ok (.iconst 5, 1) := dgL_law_21 (1263, (.iconst 5, 1)) (List.mem_of_getElem? (i := 29) rfl)
theorem dL_law_1264 : decode cL_law 1264 = .ok (.iadd, 1) := dgL_law_21 (1264, (.iadd, 1)) (List.mem_of_getElem? (i := 30) rfl)
theorem dL_law_1265 : decode cL_law 1265 = .ok (.iaload, 1) := dgL_law_21 (1265, (.iaload, 1)) (List.mem_of_getElem? (i := 31) rfl)
theorem dL_law_1266 : decode cL_law 1266 = .ok (.aload_n 0, 1) := dgL_law_21 (1266, (.aload_n 0, 1)) (List.mem_of_getElem? (i := 32) rfl)
theorem dL_law_1267 : decode cL_law 1267 = .ok (.iload_n 3, 1) := dgL_law_21 (1267, (.iload_n 3, 1)) (List.mem_of_getElem? (i := 33) rfl)
theorem dL_law_1268 : decode cL_law 1268 = .ok (.bipush 6, 2) := dgL_law_21 (1268, (.bipush 6, 2)) (List.mem_of_getElem? (i := 34) rfl)
theorem dL_law_1270 : decode cL_law 1270 = .ok (.iadd, 1) := dgL_law_21 (1270, (.iadd, 1)) (List.mem_of_getElem? (i := 35) rfl)
theorem dL_law_1271 : decode cL_law 1271 = .ok (.iaload, 1) := dgL_law_21 (1271, (.iaload, 1)) (List.mem_of_getElem? (i := 36) rfl)
theorem dL_law_1272 : decode cL_law 1272 = .ok (.invokevirtual 150, 3) := dgL_law_21 (1272, (.invokevirtual 150, 3)) (List.mem_of_getElem? (i := 37) rfl)
theorem dL_law_1275 : decode cL_law 1275 = .ok (.pop, 1) := dgL_law_21 (1275, (.pop, 1)) (List.mem_of_getElem? (i := 38) rfl)
theorem dL_law_1276 : decode cL_law 1276 = .ok (.aload_n 2, 1) := dgL_law_21 (1276, (.aload_n 2, 1)) (List.mem_of_getElem? (i := 39) rfl)
theorem dgL_law_22 : ∀ r ∈ ([(1277, (.aload_n 0, 1)), (1278, (.iload_n 3, 1)), (1279, (.iconst 1, 1)), (1280, (.iadd, 1)), (1281, (.iaload, 1)), (1282, (.aload_n 0, 1)), (1283, (.iload_n 3, 1)), (1284, (.iconst 2, 1)), (1285, (.iadd, 1)), (1286, (.iaload, 1)), (1287, (.aload_n 0, 1)), (1288, (.iload_n 3, 1)), (1289, (.iconst 3, 1)), (1290, (.iadd, 1)), (1291, (.iaload, 1)), (1292, (.aload_n 0, 1)), (1293, (.iload_n 3, 1)), (1294, (.iconst 4, 1)), (1295, (.iadd, 1)), (1296, (.iaload, 1)), (1297, (.aload_n 0, 1)), (1298, (.iload_n 3, 1)), (1299, (.iconst 5, 1)), (1300, (.iadd, 1)), (1301, (.iaload, 1)), (1302, (.aload_n 0, 1)), (1303, (.iload_n 3, 1)), (1304, (.bipush 6, 2)), (1306, (.iadd, 1)), (1307, (.iaload, 1)), (1308, (.invokevirtual 154, 3)), (1311, (.pop, 1)), (1312, (.goto 336, 3)), (1315, (.aload_n 1, 1)), (1316, (.aload_n 0, 1)), (1317, (.iload_n 3, 1)), (1318, (.iconst 1, 1)), (1319, (.iadd, 1)), (1320, (.iaload, 1)), (1321, (.invokevirtual 155, 3))] : List (Nat × (Instr × Nat))), decode cL_law r.1 = .ok r.2 := by decide +kernel
theorem dL_law_1277 : decode cL_law 1277 = .ok (.aload_n 0, 1) := dgL_law_22 (1277, (.aload_n 0, 1)) (List.mem_of_getElem? (i := 0) rfl)
theorem dL_law_1278 : decode cL_law 1278 = .ok (.iload_n 3, 1) := dgL_law_22 (1278, (.iload_n 3, 1)) (List.mem_of_getElem? (i := 1) rfl)
theorem dL_law_1279 : decode cL_law 1279 = .ok (.iconst 1, 1) := dgL_law_22 (1279, (.iconst 1, 1)) (List.mem_of_getElem? (i := 2) rfl)
theorem dL_law_1280 : decode cL_law 1280 = .ok (.iadd, 1) := dgL_law_22 (1280, (.iadd, 1)) (List.mem_of_getElem? (i := 3) rfl)
theorem dL_law_1281 : decode cL_law 1281 = .ok (.iaload, 1) := dgL_law_22 (1281, (.iaload, 1)) (List.mem_of_getElem? (i := 4) rfl)
theorem dL_law_1282 : decode cL_law 1282 = .ok (.aload_n 0, 1) := dgL_law_22 (1282, (.aload_n 0, 1)) (List.mem_of_getElem? (i := 5) rfl)
theorem dL_law_1283 : decode cL_law 1283 = .ok (.iload_n 3, 1) := dgL_law_22 (1283, (.iload_n 3, 1)) (List.mem_of_getElem? (i := 6) rfl)
theorem dL_law_1284 : decode cL_law 1284 = .ok (.iconst 2, 1) := dgL_law_22 (1284, (.iconst 2, 1)) (List.mem_of_getElem? (i := 7) rfl)
theorem dL_law_1285 : decode cL_law 1285 = .ok (.iadd, 1) := dgL_law_22 (1285, (.iadd, 1)) (List.mem_of_getElem? (i := 8) rfl)
theorem dL_law_1286 : decode cL_law 1286 = .ok (.iaload, 1) := dgL_law_22 (1286, (.iaload, 1)) (List.mem_of_getElem? (i := 9) rfl)
theorem dL_law_1287 : decode cL_law 1287 = .ok (.aload_n 0, 1) := dgL_law_22 (1287, (.aload_n 0, 1)) (List.mem_of_getElem? (i := 10) rfl)
theorem dL_law_1288 : decode cL_law 1288 = .ok (.iload_n 3, 1) := dgL_law_22 (1288, (.iload_n 3, 1)) (List.mem_of_getElem? (i := 11) rfl)
theorem dL_law_1289 : decode cL_law 1289 = .ok (.iconst 3, 1) := dgL_law_22 (1289, (.iconst 3, 1)) (List.mem_of_getElem? (i := 12) rfl)
theorem dL_law_1290 : decode cL_law 1290 = .ok (.iadd, 1) := dgL_law_22 (1290, (.iadd, 1)) (List.mem_of_getElem? (i := 13) rfl)
theorem dL_law_1291 : decode cL_law 1291 = .ok (.iaload, 1) := dgL_law_22 (1291, (.iaload, 1)) (List.mem_of_getElem? (i := 14) rfl)
theorem dL_law_1292 : decode cL_law 1292 = .ok (.aload_n 0, 1) := dgL_law_22 (1292, (.aload_n 0, 1)) (List.mem_of_getElem? (i := 15) rfl)
theorem dL_law_1293 : decode cL_law 1293 = .ok (.iload_n 3, 1) := dgL_law_22 (1293, (.iload_n 3, 1)) (List.mem_of_getElem? (i := 16) rfl)
theorem dL_law_1294 : decode cL_law 1294 = .ok (.iconst 4, 1) := dgL_law_22 (1294, (.iconst 4, 1)) (List.mem_of_getElem? (i := 17) rfl)
theorem dL_law_1295 : decode cL_law 1295 = .ok (.iadd, 1) := dgL_law_22 (1295, (.iadd, 1)) (List.mem_of_getElem? (i := 18) rfl)
theorem dL_law_1296 : decode cL_law 1296 = .ok (.iaload, 1) := dgL_law_22 (1296, (.iaload, 1)) (List.mem_of_getElem? (i := 19) rfl)
theorem dL_law_1297 : decode cL_law 1297 = .ok (.aload_n 0, 1) := dgL_law_22 (1297, (.aload_n 0, 1)) (List.mem_of_getElem? (i := 20) rfl)
theorem dL_law_1298 : decode cL_law 1298 = .ok (.iload_n 3, 1) := dgL_law_22 (1298, (.iload_n 3, 1)) (List.mem_of_getElem? (i := 21) rfl)
theorem dL_law_1299 : decode cL_law 1299 = .ok (.iconst 5, 1) := dgL_law_22 (1299, (.iconst 5, 1)) (List.mem_of_getElem? (i := 22) rfl)
theorem dL_law_1300 : decode cL_law 1300 = .ok (.iadd, 1) := dgL_law_22 (1300, (.iadd, 1)) (List.mem_of_getElem? (i := 23) rfl)
theorem dL_law_1301 : decode cL_law 1301 = .ok (.iaload, 1) := dgL_law_22 (1301, (.iaload, 1)) (List.mem_of_getElem? (i := 24) rfl)
theorem dL_law_1302 : decode cL_law 1302 = .ok (.aload_n 0, 1) := dgL_law_22 (1302, (.aload_n 0, 1)) (List.mem_of_getElem? (i := 25) rfl)
theorem dL_law_1303 : decode cL_law 1303 = .ok (.iload_n 3, 1) := dgL_law_22 (1303, (.iload_n 3, 1)) (List.mem_of_getElem? (i := 26) rfl)
theorem dL_law_1304 : decode cL_law 1304 = .ok (.bipush 6, 2) := dgL_law_22 (1304, (.bipush 6, 2)) (List.mem_of_getElem? (i := 27) rfl)
theorem dL_law_1306 : decode cL_law 1306 = .ok (.iadd, 1) := dgL_law_22 (1306, (.iadd, 1)) (List.mem_of_getElem? (i := 28) rfl)
theorem dL_law_1307 : decode cL_law 1307 = .ok (.iaload, 1) := dgL_law_22 (1307, (.iaload, 1)) (List.mem_of_getElem? (i := 29) rfl)
theorem dL_law_1308 : decode cL_law 1308 = .ok (.invokevirtual 154, 3) := dgL_law_22 (1308, (.invokevirtual 154, 3)) (List.mem_of_getElem? (i := 30) rfl)
theorem dL_law_1311 : decode cL_law 1311 = .ok (.pop, 1) := dgL_law_22 (1311, (.pop, 1)) (List.mem_of_getElem? (i := 31) rfl)
theorem dL_law_1312 : decode cL_law 1312 = .ok (.goto 336, 3) := dgL_law_22 (1312, (.goto 336, 3)) (List.mem_of_getElem? (i := 32) rfl)
theorem dL_law_1315 : decode cL_law 1315 = .ok (.aload_n 1, 1) := dgL_law_22 (1315, (.aload_n 1, 1)) (List.mem_of_getElem? (i := 33) rfl)
theorem dL_law_1316 : decode cL_law 1316 = .ok (.aload_n 0, 1) := dgL_law_22 (1316, (.aload_n 0, 1)) (List.mem_of_getElem? (i := 34) rfl)
theorem dL_law_1317 : decode cL_law 1317 = .ok (.iload_n 3, 1) := dgL_law_22 (1317, (.iload_n 3, 1)) (List.mem_of_getElem? (i := 35) rfl)
theorem dL_law_1318 : decode cL_law 1318 = .ok (.iconst 1, 1) := dgL_law_22 (1318, (.iconst 1, 1)) (List.mem_of_getElem? (i := 36) rfl)
theorem dL_law_1319 : decode cL_law 1319 = .ok (.iadd, 1) := dgL_law_22 (1319, (.iadd, 1)) (List.mem_of_getElem? (i := 37) rfl)
theorem dL_law_1320 : decode cL_law 1320 = .ok (.iaload, 1) := dgL_law_22 (1320, (.iaload, 1)) (List.mem_of_getElem? (i := 38) rfl)
theorem dL_law_1321 : decode cL_law 1321 = .ok (.invokevirtual 155, 3) := dgL_law_22 (1321, (.invokevirtual 155, 3)) (List.mem_of_getElem? (i := 39) rfl)
theorem dgL_law_23 : ∀ r ∈ ([(1324, (.aload_n 2, 1)), (1325, (.aload_n 0, 1)), (1326, (.iload_n 3, 1)), (1327, (.iconst 1, 1)), (1328, (.iadd, 1)), (1329, (.iaload, 1)), (1330, (.invokevirtual 158, 3)), (1333, (.if_icmp .eq 315, 3)), (1336, (.iconst 0, 1)), (1337, (.ireturn, 1)), (1338, (.aload_n 1, 1)), (1339, (.aload_n 0, 1)), (1340, (.iload_n 3, 1)), (1341, (.iconst 1, 1)), (1342, (.iadd, 1)), (1343, (.iaload, 1)), (1344, (.invokevirtual 159, 3)), (1347, (.pop, 1)), (1348, (.aload_n 2, 1)), (1349, (.aload_n 0, 1)), (1350, (.iload_n 3, 1)), (1351, (.iconst 1, 1)), (1352, (.iadd, 1)), (1353, (.iaload, 1)), (1354, (.invokevirtual 162, 3)), (1357, (.pop, 1)), (1358, (.goto 290, 3)), (1361, (.aload_n 1, 1)), (1362, (.aload_n 0, 1)), (1363, (.iload_n 3, 1)), (1364, (.iconst 1, 1)), (1365, (.iadd, 1)), (1366, (.iaload, 1)), (1367, (.aload_n 0, 1)), (1368, (.iload_n 3, 1)), (1369, (.iconst 2, 1)), (1370, (.iadd, 1)), (1371, (.iaload, 1)), (1372, (.aload_n 0, 1)), (1373, (.iload_n 3, 1))] : List (Nat × (Instr × Nat))), decode cL_law r.1 = .ok r.2 := by decide +kernel
theorem dL_law_1324 : decode cL_law 1324 = .ok (.aload_n 2, 1) := dgL_law_23 (1324, (.aload_n 2, 1)) (List.mem_of_getElem? (i := 0) rfl)
theorem dL_law_1325 : decode cL_law 1325 = .ok (.aload_n 0, 1) := dgL_law_23 (1325, (.aload_n 0, 1)) (List.mem_of_getElem? (i := 1) rfl)
theorem dL_law_1326 : decode cL_law 1326 = .ok (.iload_n 3, 1) := dgL_law_23 (1326, (.iload_n 3, 1)) (List.mem_of_getElem? (i := 2) rfl)
theorem dL_law_1327 : decode cL_law 1327 = .ok (.iconst 1, 1) := dgL_law_23 (1327, (.iconst 1, 1)) (List.mem_of_getElem? (i := 3) rfl)
theorem dL_law_1328 : decode cL_law 1328 = .ok (.iadd, 1) := dgL_law_23 (1328, (.iadd, 1)) (List.mem_of_getElem? (i := 4) rfl)
theorem dL_law_1329 : decode cL_law 1329 = .ok (.iaload, 1) := dgL_law_23 (1329, (.iaload, 1)) (List.mem_of_getElem? (i := 5) rfl)
theorem dL_law_1330 : decode cL_law 1330 = .ok (.invokevirtual 158, 3) := dgL_law_23 (1330, (.invokevirtual 158, 3)) (List.mem_of_getElem? (i := 6) rfl)
theorem dL_law_1333 : decode cL_law 1333 = .ok (.if_icmp .eq 315, 3) := dgL_law_23 (1333, (.if_icmp .eq 315, 3)) (List.mem_of_getElem? (i := 7) rfl)
theorem dL_law_1336 : decode cL_law 1336 = .ok (.iconst 0, 1) := dgL_law_23 (1336, (.iconst 0, 1)) (List.mem_of_getElem? (i := 8) rfl)
theorem dL_law_1337 : decode cL_law 1337 = .ok (.ireturn, 1) := dgL_law_23 (1337, (.ireturn, 1)) (List.mem_of_getElem? (i := 9) rfl)
theorem dL_law_1338 : decode cL_law 1338 = .ok (.aload_n 1, 1) := dgL_law_23 (1338, (.aload_n 1, 1)) (List.mem_of_getElem? (i := 10) rfl)
theorem dL_law_1339 : decode cL_law 1339 = .ok (.aload_n 0, 1) := dgL_law_23 (1339, (.aload_n 0, 1)) (List.mem_of_getElem? (i := 11) rfl)
theorem dL_law_1340 : decode cL_law 1340 = .ok (.iload_n 3, 1) := dgL_law_23 (1340, (.iload_n 3, 1)) (List.mem_of_getElem? (i := 12) rfl)
theorem dL_law_1341 : decode cL_law 1341 = .ok (.iconst 1, 1) := dgL_law_23 (1341, (.iconst 1, 1)) (List.mem_of_getElem? (i := 13) rfl)
theorem dL_law_1342 : decode cL_law 1342 = .ok (.iadd, 1) := dgL_law_23 (1342, (.iadd, 1)) (List.mem_of_getElem? (i := 14) rfl)
theorem dL_law_1343 : decode cL_law 1343 = .ok (.iaload, 1) := dgL_law_23 (1343, (.iaload, 1)) (List.mem_of_getElem? (i := 15) rfl)
theorem dL_law_1344 : decode cL_law 1344 = .ok (.invokevirtual 159, 3) := dgL_law_23 (1344, (.invokevirtual 159, 3)) (List.mem_of_getElem? (i := 16) rfl)
theorem dL_law_1347 : decode cL_law 1347 = .ok (.pop, 1) := dgL_law_23 (1347, (.pop, 1)) (List.mem_of_getElem? (i := 17) rfl)
theorem dL_law_1348 : decode cL_law 1348 = .ok (.aload_n 2, 1) := dgL_law_23 (1348, (.aload_n 2, 1)) (List.mem_of_getElem? (i := 18) rfl)
theorem dL_law_1349 : decode cL_law 1349 = .ok (.aload_n 0, 1) := dgL_law_23 (1349, (.aload_n 0, 1)) (List.mem_of_getElem? (i := 19) rfl)
theorem dL_law_1350 : decode cL_law 1350 = .ok (.iload_n 3, 1) := dgL_law_23 (1350, (.iload_n 3, 1)) (List.mem_of_getElem? (i := 20) rfl)
theorem dL_law_1351 : decode cL_law 1351 = .ok (.iconst 1, 1) := dgL_law_23 (1351, (.iconst 1, 1)) (List.mem_of_getElem? (i := 21) rfl)
theorem dL_law_1352 : decode cL_law 1352 = .ok (.iadd, 1) := dgL_law_23 (1352, (.iadd, 1)) (List.mem_of_getElem? (i := 22) rfl)
theorem dL_law_1353 : decode cL_law 1353 = .ok (.iaload, 1) := dgL_law_23 (1353, (.iaload, 1)) (List.mem_of_getElem? (i := 23) rfl)
theorem dL_law_1354 : decode cL_law 1354 = .ok (.invokevirtual 162, 3) := dgL_law_23 (1354, (.invokevirtual 162, 3)) (List.mem_of_getElem? (i := 24) rfl)
theorem dL_law_1357 : decode cL_law 1357 = .ok (.pop, 1) := dgL_law_23 (1357, (.pop, 1)) (List.mem_of_getElem? (i := 25) rfl)
theorem dL_law_1358 : decode cL_law 1358 = .ok (.goto 290, 3) := dgL_law_23 (1358, (.goto 290, 3)) (List.mem_of_getElem? (i := 26) rfl)
theorem dL_law_1361 : decode cL_law 1361 = .ok (.aload_n 1, 1) := dgL_law_23 (1361, (.aload_n 1, 1)) (List.mem_of_getElem? (i := 27) rfl)
theorem dL_law_1362 : decode cL_law 1362 = .ok (.aload_n 0, 1) := dgL_law_23 (1362, (.aload_n 0, 1)) (List.mem_of_getElem? (i := 28) rfl)
theorem dL_law_1363 : decode cL_law 1363 = .ok (.iload_n 3, 1) := dgL_law_23 (1363, (.iload_n 3, 1)) (List.mem_of_getElem? (i := 29) rfl)
theorem dL_law_1364 : decode cL_law 1364 = .ok (.iconst 1, 1) := dgL_law_23 (1364, (.iconst 1, 1)) (List.mem_of_getElem? (i := 30) rfl)
theorem dL_law_1365 : decode cL_law 1365 = .ok (.iadd, 1) := dgL_law_23 (1365, (.iadd, 1)) (List.mem_of_getElem? (i := 31) rfl)
theorem dL_law_1366 : decode cL_law 1366 = .ok (.iaload, 1) := dgL_law_23 (1366, (.iaload, 1)) (List.mem_of_getElem? (i := 32) rfl)
theorem dL_law_1367 : decode cL_law 1367 = .ok (.aload_n 0, 1) := dgL_law_23 (1367, (.aload_n 0, 1)) (List.mem_of_getElem? (i := 33) rfl)
theorem dL_law_1368 : decode cL_law 1368 = .ok (.iload_n 3, 1) := dgL_law_23 (1368, (.iload_n 3, 1)) (List.mem_of_getElem? (i := 34) rfl)
theorem dL_law_1369 : decode cL_law 1369 = .ok (.iconst 2, 1) := dgL_law_23 (1369, (.iconst 2, 1)) (List.mem_of_getElem? (i := 35) rfl)
theorem dL_law_1370 : decode cL_law 1370 = .ok (.iadd, 1) := dgL_law_23 (1370, (.iadd, 1)) (List.mem_of_getElem? (i := 36) rfl)
theorem dL_law_1371 : decode cL_law 1371 = .ok (.iaload, 1) := dgL_law_23 (1371, (.iaload, 1)) (List.mem_of_getElem? (i := 37) rfl)
theorem dL_law_1372 : decode cL_law 1372 = .ok (.aload_n 0, 1) := dgL_law_23 (1372, (.aload_n 0, 1)) (List.mem_of_getElem? (i := 38) rfl)
theorem dL_law_1373 : decode cL_law 1373 = .ok (.iload_n 3, 1) := dgL_law_23 (1373, (.iload_n 3, 1)) (List.mem_of_getElem? (i := 39) rfl)
theorem dgL_law_24 : ∀ r ∈ ([(1374, (.iconst 3, 1)), (1375, (.iadd, 1)), (1376, (.iaload, 1)), (1377, (.invokevirtual 163, 3)), (1380, (.pop, 1)), (1381, (.aload_n 2, 1)), (1382, (.aload_n 0, 1)), (1383, (.iload_n 3, 1)), (1384, (.iconst 1, 1)), (1385, (.iadd, 1)), (1386, (.iaload, 1)), (1387, (.aload_n 0, 1)), (1388, (.iload_n 3, 1)), (1389, (.iconst 2, 1)), (1390, (.iadd, 1)), (1391, (.iaload, 1)), (1392, (.aload_n 0, 1)), (1393, (.iload_n 3, 1)), (1394, (.iconst 3, 1)), (1395, (.iadd, 1)), (1396, (.iaload, 1)), (1397, (.invokevirtual 166, 3)), (1400, (.pop, 1)), (1401, (.goto 247, 3)), (1404, (.aload_n 1, 1)), (1405, (.aload_n 0, 1)), (1406, (.iload_n 3, 1)), (1407, (.iconst 1, 1)), (1408, (.iadd, 1)), (1409, (.iaload, 1)), (1410, (.aload_n 0, 1)), (1411, (.iload_n 3, 1)), (1412, (.iconst 2, 1)), (1413, (.iadd, 1)), (1414, (.iaload, 1)), (1415, (.aload_n 0, 1)), (1416, (.iload_n 3, 1)), (1417, (.iconst 3, 1)), (1418, (.iadd, 1)), (1419, (.iaload, 1))] : List (Nat × (Instr × Nat))), decode cL_law r.1 = .ok r.2 := by decide +kernel
theorem dL_law_1374 : decode cL_law 1374 = .ok (.iconst 3, 1) := dgL_law_24 (1374, (.iconst 3, 1)) (List.mem_of_getElem? (i := 0) rfl)
theorem dL_law_1375 : decode cL_law 1375 = .ok (.iadd, 1) := dgL_law_24 (1375, (.iadd, 1)) (List.mem_of_getElem? (i := 1) rfl)
theorem dL_law_1376 : decode cL_law 1376 = .ok (.iaload, 1) := dgL_law_24 (1376, (.iaload, 1)) (List.mem_of_getElem? (i := 2) rfl)
theorem dL_law_1377 : decode cL_law 1377 = .ok (.invokevirtual 163, 3) := dgL_law_24 (1377, (.invokevirtual 163, 3)) (List.mem_of_getElem? (i := 3) rfl)
theorem dL_law_1380 : decode cL_law 1380 = .ok (.pop, 1) := dgL_law_24 (1380, (.pop, 1)) (List.mem_of_getElem? (i := 4) rfl)
theorem dL_law_1381 : decode cL_law 1381 = .ok (.aload_n 2, 1) := dgL_law_24 (1381, (.aload_n 2, 1)) (List.mem_of_getElem? (i := 5) rfl)
theorem dL_law_1382 : decode cL_law 1382 = .ok (.aload_n 0, 1) := dgL_law_24 (1382, (.aload_n 0, 1)) (List.mem_of_getElem? (i := 6) rfl)
theorem dL_law_1383 : decode cL_law 1383 = .ok (.iload_n 3, 1) := dgL_law_24 (1383, (.iload_n 3, 1)) (List.mem_of_getElem? (i := 7) rfl)
theorem dL_law_1384 : decode cL_law 1384 = .ok (.iconst 1, 1) := dgL_law_24 (1384, (.iconst 1, 1)) (List.mem_of_getElem? (i := 8) rfl)
theorem dL_law_1385 : decode cL_law 1385 = .ok (.iadd, 1) := dgL_law_24 (1385, (.iadd, 1)) (List.mem_of_getElem? (i := 9) rfl)
theorem dL_law_1386 : decode cL_law 1386 = .ok (.iaload, 1) := dgL_law_24 (1386, (.iaload, 1)) (List.mem_of_getElem? (i := 10) rfl)
theorem dL_law_1387 : decode cL_law 1387 = .ok (.aload_n 0, 1) := dgL_law_24 (1387, (.aload_n 0, 1)) (List.mem_of_getElem? (i := 11) rfl)
theorem dL_law_1388 : decode cL_law 1388 = .ok (.iload_n 3, 1) := dgL_law_24 (1388, (.iload_n 3, 1)) (List.mem_of_getElem? (i := 12) rfl)
theorem dL_law_1389 : decode cL_law 1389 = .ok (.iconst 2, 1) := dgL_law_24 (1389, (.iconst 2, 1)) (List.mem_of_getElem? (i := 13) rfl)
theorem dL_law_1390 : decode cL_law 1390 = .ok (.iadd, 1) := dgL_law_24 (1390, (.iadd, 1)) (List.mem_of_getElem? (i := 14) rfl)
theorem dL_law_1391 : decode cL_law 1391 = .ok (.iaload, 1) := dgL_law_24 (1391, (.iaload, 1)) (List.mem_of_getElem? (i := 15) rfl)
theorem dL_law_1392 : decode cL_law 1392 = .ok (.aload_n 0, 1) := dgL_law_24 (1392, (.aload_n 0, 1)) (List.mem_of_getElem? (i := 16) rfl)
theorem dL_law_1393 : decode cL_law 1393 = .ok (.iload_n 3, 1) := dgL_law_24 (1393, (.iload_n 3, 1)) (List.mem_of_getElem? (i := 17) rfl)
theorem dL_law_1394 : decode cL_law 1394 = .ok (.iconst 3, 1) := dgL_law_24 (1394, (.iconst 3, 1)) (List.mem_of_getElem? (i := 18) rfl)
theorem dL_law_1395 : decode cL_law 1395 = .ok (.iadd, 1) := dgL_law_24 (1395, (.iadd, 1)) (List.mem_of_getElem? (i := 19) rfl)
theorem dL_law_1396 : decode cL_law 1396 = .ok (.iaload, 1) := dgL_law_24 (1396, (.iaload, 1)) (List.mem_of_getElem? (i := 20) rfl)
theorem dL_law_1397 : decode cL_law 1397 = .ok (.invokevirtual 166, 3) := dgL_law_24 (1397, (.invokevirtual 166, 3)) (List.mem_of_getElem? (i := 21) rfl)
theorem dL_law_1400 : decode cL_law 1400 = .ok (.pop, 1) := dgL_law_24 (1400, (.pop, 1)) (List.mem_of_getElem? (i := 22) rfl)
theorem dL_law_1401 : decode cL_law 1401 = .ok (.goto 247, 3) := dgL_law_24 (1401, (.goto 247, 3)) (List.mem_of_getElem? (i := 23) rfl)
theorem dL_law_1404 : decode cL_law 1404 = .ok (.aload_n 1, 1) := dgL_law_24 (1404, (.aload_n 1, 1)) (List.mem_of_getElem? (i := 24) rfl)
theorem dL_law_1405 : decode cL_law 1405 = .ok (.aload_n 0, 1) := dgL_law_24 (1405, (.aload_n 0, 1)) (List.mem_of_getElem? (i := 25) rfl)
theorem dL_law_1406 : decode cL_law 1406 = .ok (.iload_n 3, 1) := dgL_law_24 (1406, (.iload_n 3, 1)) (List.mem_of_getElem? (i := 26) rfl)
theorem dL_law_1407 : decode cL_law 1407 = .ok (.iconst 1, 1) := dgL_law_24 (1407, (.iconst 1, 1)) (List.mem_of_getElem? (i := 27) rfl)
theorem dL_law_1408 : decode cL_law 1408 = .ok (.iadd, 1) := dgL_law_24 (1408, (.iadd, 1)) (List.mem_of_getElem? (i := 28) rfl)
theorem dL_law_1409 : decode cL_law 1409 = .ok (.iaload, 1) := dgL_law_24 (1409, (.iaload, 1)) (List.mem_of_getElem? (i := 29) rfl)
theorem dL_law_1410 : decode cL_law 1410 = .ok (.aload_n 0, 1) := dgL_law_24 (1410, (.aload_n 0, 1)) (List.mem_of_getElem? (i := 30) rfl)
theorem dL_law_1411 : decode cL_law 1411 = .ok (.iload_n 3, 1) := dgL_law_24 (1411, (.iload_n 3, 1)) (List.mem_of_getElem? (i := 31) rfl)
theorem dL_law_1412 : decode cL_law 1412 = .ok (.iconst 2, 1) := dgL_law_24 (1412, (.iconst 2, 1)) (List.mem_of_getElem? (i := 32) rfl)
theorem dL_law_1413 : decode cL_law 1413 = .ok (.iadd, 1) := dgL_law_24 (1413, (.iadd, 1)) (List.mem_of_getElem? (i := 33) rfl)
theorem dL_law_1414 : decode cL_law 1414 = .ok (.iaload, 1) := dgL_law_24 (1414, (.iaload, 1)) (List.mem_of_getElem? (i := 34) rfl)
theorem dL_law_1415 : decode cL_law 1415 = .ok (.aload_n 0, 1) := dgL_law_24 (1415, (.aload_n 0, 1)) (List.mem_of_getElem? (i := 35) rfl)
theorem dL_law_1416 : decode cL_law 1416 = .ok (.iload_n 3, 1) := dgL_law_24 (1416, (.iload_n 3, 1)) (List.mem_of_getElem? (i := 36) rfl)
theorem dL_law_1417 : decode cL_law 1417 = .ok (.iconst 3, 1) := dgL_law_24 (1417, (.iconst 3, 1)) (List.mem_of_getElem? (i := 37) rfl)
theorem dL_law_1418 : decode cL_law 1418 = .ok (.iadd, 1) := dgL_law_24 (1418, (.iadd, 1)) (List.mem_of_getElem? (i := 38) rfl)
theorem dL_law_1419 : decode cL_law 1419 = .ok (.iaload, 1) := dgL_law_24 (1419, (.iaload, 1)) (List.mem_of_getElem? (i := 39) rfl)
theorem dgL_law_25 : ∀ r ∈ ([(1420, (.aload_n 0, 1)), (1421, (.iload_n 3, 1)), (1422, (.iconst 4, 1)), (1423, (.iadd, 1)), (1424, (.iaload, 1)), (1425, (.invokevirtual 167, 3)), (1428, (.pop, 1)), (1429, (.aload_n 2, 1)), (1430, (.aload_n 0, 1)), (1431, (.iload_n 3, 1)), (1432, (.iconst 1, 1)), (1433, (.iadd, 1)), (1434, (.iaload, 1)), (1435, (.aload_n 0, 1)), (1436, (.iload_n 3, 1)), (1437, (.iconst 2, 1)), (1438, (.iadd, 1)), (1439, (.iaload, 1)), (1440, (.aload_n 0, 1)), (1441, (.iload_n 3, 1)), (1442, (.iconst 3, 1)), (1443, (.iadd, 1)), (1444, (.iaload, 1)), (1445, (.aload_n 0, 1)), (1446, (.iload_n 3, 1)), (1447, (.iconst 4, 1)), (1448, (.iadd, 1)), (1449, (.iaload, 1)), (1450, (.invokevirtual 170, 3)), (1453, (.pop, 1)), (1454, (.goto 194, 3)), (1457, (.aload_n 1, 1)), (1458, (.aload_n 0, 1)), (1459, (.iload_n 3, 1)), (1460, (.iconst 1, 1)), (1461, (.iadd, 1)), (1462, (.iaload, 1)), (1463, (.aload_n 0, 1)), (1464, (.iload_n 3, 1)), (1465, (.iconst 2, 1))] : List (Nat × (Instr × Nat))), decode cL_law r.1 = .ok r.2 := by decide +kernel
theorem dL_law_1420 : decode cL_law 1420 = .ok (.aload_n 0, 1) := dgL_law_25 (1420, (.aload_n 0, 1)) (List.mem_of_getElem? (i := 0) rfl)
theorem dL_law_1421 : decode cL_law 1421 = .ok (.iload_n 3, 1) := dgL_law_25 (1421, (.iload_n 3, 1)) (List.mem_of_getElem? (i := 1) rfl)
theorem dL_law_1422 : decode cL_law 1422 = .ok (.iconst 4, 1) := dgL_law_25 (1422, (.iconst 4, 1)) (List.mem_of_getElem? (i := 2) rfl)
theorem dL_law_1423 : decode cL_law 1423 = .ok (.iadd, 1) := dgL_law_25 (1423, (.iadd, 1)) (List.mem_of_getElem? (i := 3) rfl)
theorem dL_law_1424 : decode cL_law 1424 = .ok (.iaload, 1) := dgL_law_25 (1424, (.iaload, 1)) (List.mem_of_getElem? (i := 4) rfl)
theorem dL_law_1425 : decode cL_law 1425 = .ok (.invokevirtual 167, 3) := dgL_law_25 (1425, (.invokevirtual 167, 3)) (List.mem_of_getElem? (i := 5) rfl)
theorem dL_law_1428 : decode cL_law 1428 = .ok (.pop, 1) := dgL_law_25 (1428, (.pop, 1)) (List.mem_of_getElem? (i := 6) rfl)
theorem dL_law_1429 : decode cL_law 1429 = .ok (.aload_n 2, 1) := dgL_law_25 (1429, (.aload_n 2, 1)) (List.mem_of_getElem? (i := 7) rfl)
theorem dL_law_1430 : decode cL_law 1430 = .ok (.aload_n 0, 1) := dgL_law_25 (1430, (.aload_n 0, 1)) (List.mem_of_getElem? (i := 8) rfl)
theorem dL_law_1431 : decode cL_law 1431 = .ok (.iload_n 3, 1) := dgL_law_25 (1431, (.iload_n 3, 1)) (List.mem_of_getElem? (i := 9) rfl)
theorem dL_law_1432 : decode cL_law 1432 = .ok (.iconst 1, 1) := dgL_law_25 (1432, (.iconst 1, 1)) (List.mem_of_getElem? (i := 10) rfl)
theorem dL_law_1433 : decode cL_law 1433 = .ok (.iadd, 1) := dgL_law_25 (1433, (.iadd, 1)) (List.mem_of_getElem? (i := 11) rfl)
theorem dL_law_1434 : decode cL_law 1434 = .ok (.iaload, 1) := dgL_law_25 (1434, (.iaload, 1)) (List.mem_of_getElem? (i := 12) rfl)
theorem dL_law_1435 : decode cL_law 1435 = .ok (.aload_n 0, 1) := dgL_law_25 (1435, (.aload_n 0, 1)) (List.mem_of_getElem? (i := 13) rfl)
theorem dL_law_1436 : decode cL_law 1436 = .ok (.iload_n 3, 1) := dgL_law_25 (1436, (.iload_n 3, 1)) (List.mem_of_getElem? (i := 14) rfl)
theorem dL_law_1437 : decode cL_law 1437 = .ok (.iconst 2, 1) := dgL_law_25 (1437, (.iconst 2, 1)) (List.mem_of_getElem? (i := 15) rfl)
theorem dL_law_1438 : decode cL_law 1438 = .ok (.iadd, 1) := dgL_law_25 (1438, (.iadd, 1)) (List.mem_of_getElem? (i := 16) rfl)
theorem dL_law_1439 : decode cL_law 1439 = .ok (.iaload, 1) := dgL_law_25 (1439, (.iaload, 1)) (List.mem_of_getElem? (i := 17) rfl)
theorem dL_law_1440 : decode cL_law 1440 = .ok (.aload_n 0, 1) := dgL_law_25 (1440, (.aload_n 0, 1)) (List.mem_of_getElem? (i := 18) rfl)
theorem dL_law_1441 : decode cL_law 1441 = .ok (.iload_n 3, 1) := dgL_law_25 (1441, (.iload_n 3, 1)) (List.mem_of_getElem? (i := 19) rfl)
theorem dL_law_1442 : decode cL_law 1442 = .ok (.iconst 3, 1) := dgL_law_25 (1442, (.iconst 3, 1)) (List.mem_of_getElem? (i := 20) rfl)
theorem dL_law_1443 : decode cL_law 1443 = .ok (.iadd, 1) := dgL_law_25 (1443, (.iadd, 1)) (List.mem_of_getElem? (i := 21) rfl)
theorem dL_law_1444 : decode cL_law 1444 = .ok (.iaload, 1) := dgL_law_25 (1444, (.iaload, 1)) (List.mem_of_getElem? (i := 22) rfl)
theorem dL_law_1445 : decode cL_law 1445 = .ok (.aload_n 0, 1) := dgL_law_25 (1445, (.aload_n 0, 1)) (List.mem_of_getElem? (i := 23) rfl)
theorem dL_law_1446 : decode cL_law 1446 = .ok (.iload_n 3, 1) := dgL_law_25 (1446, (.iload_n 3, 1)) (List.mem_of_getElem? (i := 24) rfl)
theorem dL_law_1447 : decode cL_law 1447 = .ok (.iconst 4, 1) := dgL_law_25 (1447, (.iconst 4, 1)) (List.mem_of_getElem? (i := 25) rfl)
theorem dL_law_1448 : decode cL_law 1448 = .ok (.iadd, 1) := dgL_law_25 (1448, (.iadd, 1)) (List.mem_of_getElem? (i := 26) rfl)
theorem dL_law_1449 : decode cL_law 1449 = .ok (.iaload, 1) := dgL_law_25 (1449, (.iaload, 1)) (List.mem_of_getElem? (i := 27) rfl)
theorem dL_law_1450 : decode cL_law 1450 = .ok (.invokevirtual 170, 3) := dgL_law_25 (1450, (.invokevirtual 170, 3)) (List.mem_of_getElem? (i := 28) rfl)
theorem dL_law_1453 : decode cL_law 1453 = .ok (.pop, 1) := dgL_law_25 (1453, (.pop, 1)) (List.mem_of_getElem? (i := 29) rfl)
theorem dL_law_1454 : decode cL_law 1454 = .ok (.goto 194, 3) := dgL_law_25 (1454, (.goto 194, 3)) (List.mem_of_getElem? (i := 30) rfl)
theorem dL_law_1457 : decode cL_law 1457 = .ok (.aload_n 1, 1) := dgL_law_25 (1457, (.aload_n 1, 1)) (List.mem_of_getElem? (i := 31) rfl)
theorem dL_law_1458 : decode cL_law 1458 = .ok (.aload_n 0, 1) := dgL_law_25 (1458, (.aload_n 0, 1)) (List.mem_of_getElem? (i := 32) rfl)
theorem dL_law_1459 : decode cL_law 1459 = .ok (.iload_n 3, 1) := dgL_law_25 (1459, (.iload_n 3, 1)) (List.mem_of_getElem? (i := 33) rfl)
theorem dL_law_1460 : decode cL_law 1460 = .ok (.iconst 1, 1) := dgL_law_25 (1460, (.iconst 1, 1)) (List.mem_of_getElem? (i := 34) rfl)
theorem dL_law_1461 : decode cL_law 1461 = .ok (.iadd, 1) := dgL_law_25 (1461, (.iadd, 1)) (List.mem_of_getElem? (i := 35) rfl)
theorem dL_law_1462 : decode cL_law 1462 = .ok (.iaload, 1) := dgL_law_25 (1462, (.iaload, 1)) (List.mem_of_getElem? (i := 36) rfl)
theorem dL_law_1463 : decode cL_law 1463 = .ok (.aload_n 0, 1) := dgL_law_25 (1463, (.aload_n 0, 1)) (List.mem_of_getElem? (i := 37) rfl)
theorem dL_law_1464 : decode cL_law 1464 = .ok (.iload_n 3, 1) := dgL_law_25 (1464, (.iload_n 3, 1)) (List.mem_of_getElem? (i := 38) rfl)
theorem dL_law_1465 : decode cL_law 1465 = .ok (.iconst 2, 1) := dgL_law_25 (1465, (.iconst 2, 1)) (List.mem_of_getElem? (i := 39) rfl)
theorem dgL_law_26 : ∀ r ∈ ([(1466, (.iadd, 1)), (1467, (.iaload, 1)), (1468, (.aload_n 0, 1)), (1469, (.iload_n 3, 1)), (1470, (.iconst 3, 1)), (1471, (.iadd, 1)), (1472, (.iaload, 1)), (1473, (.aload_n 0, 1)), (1474, (.iload_n 3, 1)), (1475, (.iconst 4, 1)), (1476, (.iadd, 1)), (1477, (.iaload, 1)), (1478, (.invokevirtual 171, 3)), (1481, (.pop, 1)), (1482, (.aload_n 2, 1)), (1483, (.aload_n 0, 1)), (1484, (.iload_n 3, 1)), (1485, (.iconst 1, 1)), (1486, (.iadd, 1)), (1487, (.iaload, 1)), (1488, (.aload_n 0, 1)), (1489, (.iload_n 3, 1)), (1490, (.iconst 2, 1)), (1491, (.iadd, 1)), (1492, (.iaload, 1)), (1493, (.aload_n 0, 1)), (1494, (.iload_n 3, 1)), (1495, (.iconst 3, 1)), (1496, (.iadd, 1)), (1497, (.iaload, 1)), (1498, (.aload_n 0, 1)), (1499, (.iload_n 3, 1)), (1500, (.iconst 4, 1)), (1501, (.iadd, 1)), (1502, (.iaload, 1)), (1503, (.invokevirtual 174, 3)), (1506, (.pop, 1)), (1507, (.goto 141, 3)), (1510, (.aload_n 1, 1)), (1511, (.aload_n 0, 1))] : List (Nat × (Instr × Nat))), decode cL_law r.1 = .ok r.2 := by decide +kernel
theorem dL_law_1466 : decode cL_law 1466 = .ok (.iadd, 1) := dgL_law_26 (1466, (.iadd, 1)) (List.mem_of_getElem? (i := 0) rfl)
theorem dL_law_1467 : decode cL_law 1467 = .ok (.iaload, 1) := dgL_law_26 (1467, (.iaload, 1)) (List.mem_of_getElem? (i := 1) rfl)
theorem dL_law_1468 : decode cL_law 1468 = .ok (.aload_n 0, 1) := dgL_law_26 (1468, (.aload_n 0, 1)) (List.mem_of_getElem? (i := 2) rfl)
theorem dL_law_1469 : decode cL_law 1469 = .ok (.iload_n 3, 1) := dgL_law_26 (1469, (.iload_n 3, 1)) (List.mem_of_getElem? (i := 3) rfl)
theorem dL_law_1470 : decode cL_law 1470 = .ok (.iconst 3, 1) := dgL_law_26 (1470, (.iconst 3, 1)) (List.mem_of_getElem? (i := 4) rfl)
theorem dL_law_1471 : decode cL_law 1471 = .ok (.iadd, 1) := dgL_law_26 (1471, (.iadd, 1)) (List.mem_of_getElem? (i := 5) rfl)
theorem dL_law_1472 : decode cL_law 1472 = .ok (.iaload, 1) := dgL_law_26 (1472, (.iaload, 1)) (List.mem_of_getElem? (i := 6) rfl)
theorem dL_law_1473 : decode cL_law 1473 = .ok (.aload_n 0, 1) := dgL_law_26 (1473, (.aload_n 0, 1)) (List.mem_of_getElem? (i := 7) rfl)
theorem dL_law_1474 : decode cL_law 1474 = .ok (.iload_n 3, 1) := dgL_law_26 (1474, (.iload_n 3, 1)) (List.mem_of_getElem? (i := 8) rfl)
theorem dL_law_1475 : decode cL_law 1475 = .ok (.iconst 4, 1) := dgL_law_26 (1475, (.iconst 4, 1)) (List.mem_of_getElem? (i := 9) rfl)
theorem dL_law_1476 : decode cL_law 1476 = .ok (.iadd, 1) := dgL_law_26 (1476, (.iadd, 1)) (List.mem_of_getElem? (i := 10) rfl)
theorem dL_law_1477 : decode cL_law 1477 = .ok (.iaload, 1) := dgL_law_26 (1477, (.iaload, 1)) (List.mem_of_getElem? (i := 11) rfl)
theorem dL_law_1478 : decode cL_law 1478 = .ok (.invokevirtual 171, 3) := dgL_law_26 (1478, (.invokevirtual 171, 3)) (List.mem_of_getElem? (i := 12) rfl)
theorem dL_law_1481 : decode cL_law 1481 = .ok (.pop, 1) := dgL_law_26 (1481, (.pop, 1)) (List.mem_of_getElem? (i := 13) rfl)
theorem dL_law_1482 : decode cL_law 1482 = .ok (.aload_n 2, 1) := dgL_law_26 (1482, (.aload_n 2, 1)) (List.mem_of_getElem? (i := 14) rfl)
theorem dL_law_1483 : decode cL_law 1483 = .ok (.aload_n 0, 1) := dgL_law_26 (1483, (.aload_n 0, 1)) (List.mem_of_getElem? (i := 15) rfl)
theorem dL_law_1484 : decode cL_law 1484 = .ok (.iload_n 3, 1) := dgL_law_26 (1484, (.iload_n 3, 1)) (List.mem_of_getElem? (i := 16) rfl)
theorem dL_law_1485 : decode cL_law 1485 = .ok (.iconst 1, 1) := dgL_law_26 (1485, (.iconst 1, 1)) (List.mem_of_getElem? (i := 17) rfl)
theorem dL_law_1486 : decode cL_law 1486 = .ok (.iadd, 1) := dgL_law_26 (1486, (.iadd, 1)) (List.mem_of_getElem? (i := 18) rfl)
theorem dL_law_1487 : decode cL_law 1487 = .ok (.iaload, 1) := dgL_law_26 (1487, (.iaload, 1)) (List.mem_of_getElem? (i := 19) rfl)
theorem dL_law_1488 : decode cL_law 1488 = .ok (.aload_n 0, 1) := dgL_law_26 (1488, (.aload_n 0, 1)) (List.mem_of_getElem? (i := 20) rfl)
theorem dL_law_1489 : decode cL_law 1489 = .ok (.iload_n 3, 1) := dgL_law_26 (1489, (.iload_n 3, 1)) (List.mem_of_getElem? (i := 21) rfl)
theorem dL_law_1490 : decode cL_law 1490 = .ok (.iconst 2, 1) := dgL_law_26 (1490, (.iconst 2, 1)) (List.mem_of_getElem? (i := 22) rfl)
theorem dL_law_1491 : decode cL_law 1491 = .ok (.iadd, 1) := dgL_law_26 (1491, (.iadd, 1)) (List.mem_of_getElem? (i := 23) rfl)
theorem dL_law_1492 : decode cL_law 1492 = .ok (.iaload, 1) := dgL_law_26 (1492, (.iaload, 1)) (List.mem_of_getElem? (i := 24) rfl)
theorem dL_law_1493 : decode cL_law 1493 = .ok (.aload_n 0, 1) := dgL_law_26 (1493, (.aload_n 0, 1)) (List.mem_of_getElem? (i := 25) rfl)
theorem dL_law_1494 : decode cL_law 1494 = .ok (.iload_n 3, 1) := dgL_law_26 (1494, (.iload_n 3, 1)) (List.mem_of_getElem? (i := 26) rfl)
theorem dL_law_1495 : decode cL_law 1495 = .ok (.iconst 3, 1) := dgL_law_26 (1495, (.iconst 3, 1)) (List.mem_of_getElem? (i := 27) rfl)
theorem dL_law_1496 : decode cL_law 1496 = .ok (.iadd, 1) := dgL_law_26 (1496, (.iadd, 1)) (List.mem_of_getElem? (i := 28) rfl)
theorem dL_law_1497 : decode cL_law 1497 = .ok (.iaload, 1) := dgL_law_26 (1497, (.iaload, 1)) (List.mem_of_getElem? (i := 29) rfl)
theorem dL_law_1498 : decode cL_law 1498 = .ok (.aload_n 0, 1) := dgL_law_26 (1498, (.aload_n 0, 1)) (List.mem_of_getElem? (i := 30) rfl)
theorem dL_law_1499 : decode cL_law 1499 = .ok (.iload_n 3, 1) := dgL_law_26 (1499, (.iload_n 3, 1)) (List.mem_of_getElem? (i := 31) rfl)
theorem dL_law_1500 : decode cL_law 1500 = .ok (.iconst 4, 1) := dgL_law_26 (1500, (.iconst 4, 1)) (List.mem_of_getElem? (i := 32) rfl)
theorem dL_law_1501 : decode cL_law 1501 = .ok (.iadd, 1) := dgL_law_26 (1501, (.iadd, 1)) (List.mem_of_getElem? (i := 33) rfl)
theorem dL_law_1502 : decode cL_law 1502 = .ok (.iaload, 1) := dgL_law_26 (1502, (.iaload, 1)) (List.mem_of_getElem? (i := 34) rfl)
theorem dL_law_1503 : decode cL_law 1503 = .ok (.invokevirtual 174, 3) := dgL_law_26 (1503, (.invokevirtual 174, 3)) (List.mem_of_getElem? (i := 35) rfl)
theorem dL_law_1506 : decode cL_law 1506 = .ok (.pop, 1) := dgL_law_26 (1506, (.pop, 1)) (List.mem_of_getElem? (i := 36) rfl)
theorem dL_law_1507 : decode cL_law 1507 = .ok (.goto 141, 3) := dgL_law_26 (1507, (.goto 141, 3)) (List.mem_of_getElem? (i := 37) rfl)
theorem dL_law_1510 : decode cL_law 1510 = .ok (.aload_n 1, 1) := dgL_law_26 (1510, (.aload_n 1, 1)) (List.mem_of_getElem? (i := 38) rfl)
theorem dL_law_1511 : decode cL_law 1511 = .ok (.aload_n 0, 1) := dgL_law_26 (1511, (.aload_n 0, 1)) (List.mem_of_getElem? (i := 39) rfl)
theorem dgL_law_27 : ∀ r ∈ ([(1512, (.iload_n 3, 1)), (1513, (.iconst 1, 1)), (1514, (.iadd, 1)), (1515, (.iaload, 1)), (1516, (.aload_n 0, 1)), (1517, (.iload_n 3, 1)), (1518, (.iconst 2, 1)), (1519, (.iadd, 1)), (1520, (.iaload, 1)), (1521, (.invokevirtual 175, 3)), (1524, (.pop, 1)), (1525, (.aload_n 2, 1)), (1526, (.aload_n 0, 1)), (1527, (.iload_n 3, 1)), (1528, (.iconst 1, 1)), (1529, (.iadd, 1)), (1530, (.iaload, 1)), (1531, (.aload_n 0, 1)), (1532, (.iload_n 3, 1)), (1533, (.iconst 2, 1)), (1534, (.iadd, 1)), (1535, (.iaload, 1)), (1536, (.invokevirtual 178, 3)), (1539, (.pop, 1)), (1540, (.goto 108, 3)), (1543, (.aload_n 1, 1)), (1544, (.aload_n 0, 1)), (1545, (.iload_n 3, 1)), (1546, (.iconst 1, 1)), (1547, (.iadd, 1)), (1548, (.iaload, 1)), (1549, (.invokevirtual 179, 3)), (1552, (.pop, 1)), (1553, (.aload_n 2, 1)), (1554, (.aload_n 0, 1)), (1555, (.iload_n 3, 1)), (1556, (.iconst 1, 1)), (1557, (.iadd, 1)), (1558, (.iaload, 1)), (1559, (.invokevirtual 182, 3))] : List (Nat × (Instr × Nat))), decode cL_law r.1 = .ok r.2 := by decide +kernel
theorem dL_law_1512 : decode cL_law 1512 = .ok (.iload_n 3, 1) := dgL_law_27 (1512, (.iload_n 3, 1)) (List.mem_of_getElem? (i := 0) rfl)
theorem dL_law_1513 : decode cL_law 1513 = .ok (.iconst 1, 1) := dgL_law_27 (1513, (.iconst 1, 1)) (List.mem_of_getElem? (i := 1) rfl)
theorem dL_law_1514 : decode cL_law 1514 = .ok (.iadd, 1) := dgL_law_27 (1514, (.iadd, 1)) (List.mem_of_getElem? (i := 2) rfl)
theorem dL_law_1515 : decode cL_law 1515 = .ok (.iaload, 1) := dgL_law_27 (1515, (.iaload, 1)) (List.mem_of_getElem? (i := 3) rfl)
theorem dL_law_1516 : decode cL_law 1516 = .ok (.aload_n 0, 1) := dgL_law_27 (1516, (.aload_n 0, 1)) (List.mem_of_getElem? (i := 4) rfl)
theorem dL_law_1517 : decode cL_law 1517 = .ok (.iload_n 3, 1) := dgL_law_27 (1517, (.iload_n 3, 1)) (List.mem_of_getElem? (i := 5) rfl)
theorem dL_law_1518 : decode cL_law 1518 = .ok (.iconst 2, 1) := dgL_law_27 (1518, (.iconst 2, 1)) (List.mem_of_getElem? (i := 6) rfl)
theorem dL_law_1519 : decode cL_law 1519 = .ok (.iadd, 1) := dgL_law_27 (1519, (.iadd, 1)) (List.mem_of_getElem? (i := 7) rfl)
theorem dL_law_1520 : decode cL_law 1520 = .ok (.iaload, 1) := dgL_law_27 (1520, (.iaload, 1)) (List.mem_of_getElem? (i := 8) rfl)
theorem dL_law_1521 : decode cL_law 1521 = .ok (.invokevirtual 175, 3) := dgL_law_27 (1521, (.invokevirtual 175, 3)) (List.mem_of_getElem? (i := 9) rfl)
theorem dL_law_1524 : decode cL_law 1524 = .ok (.pop, 1) := dgL_law_27 (1524, (.pop, 1)) (List.mem_of_getElem? (i := 10) rfl)
theorem dL_law_1525 : decode cL_law 1525 = .ok (.aload_n 2, 1) := dgL_law_27 (1525, (.aload_n 2, 1)) (List.mem_of_getElem? (i := 11) rfl)
theorem dL_law_1526 : decode cL_law 1526 = .ok (.aload_n 0, 1) := dgL_law_27 (1526, (.aload_n 0, 1)) (List.mem_of_getElem? (i := 12) rfl)
theorem dL_law_1527 : decode cL_law 1527 = .ok (.iload_n 3, 1) := dgL_law_27 (1527, (.iload_n 3, 1)) (List.mem_of_getElem? (i := 13) rfl)
theorem dL_law_1528 : decode cL_law 1528 = .ok (.iconst 1, 1) := dgL_law_27 (1528, (.iconst 1, 1)) (List.mem_of_getElem? (i := 14) rfl)
theorem dL_law_1529 : decode cL_law 1529 = .ok (.iadd, 1) := dgL_law_27 (1529, (.iadd, 1)) (List.mem_of_getElem? (i := 15) rfl)
theorem dL_law_1530 : decode cL_law 1530 = .ok (.iaload, 1) := dgL_law_27 (1530, (.iaload, 1)) (List.mem_of_getElem? (i := 16) rfl)
theorem dL_law_1531 : decode cL_law 1531 = .ok (.aload_n 0, 1) := dgL_law_27 (1531, (.aload_n 0, 1)) (List.mem_of_getElem? (i := 17) rfl)
theorem dL_law_1532 : decode cL_law 1532 = .ok (.iload_n 3, 1) := dgL_law_27 (1532, (.iload_n 3, 1)) (List.mem_of_getElem? (i := 18) rfl)
theorem dL_law_1533 : decode cL_law 1533 = .ok (.iconst 2, 1) := dgL_law_27 (1533, (.iconst 2, 1)) (List.mem_of_getElem? (i := 19) rfl)
theorem dL_law_1534 : decode cL_law 1534 = .ok (.iadd, 1) := dgL_law_27 (1534, (.iadd, 1)) (List.mem_of_getElem? (i := 20) rfl)
theorem dL_law_1535 : decode cL_law 1535 = .ok (.iaload, 1) := dgL_law_27 (1535, (.iaload, 1)) (List.mem_of_getElem? (i := 21) rfl)
theorem dL_law_1536 : decode cL_law 1536 = .ok (.invokevirtual 178, 3) := dgL_law_27 (1536, (.invokevirtual 178, 3)) (List.mem_of_getElem? (i := 22) rfl)
theorem dL_law_1539 : decode cL_law 1539 = .ok (.pop, 1) := dgL_law_27 (1539, (.pop, 1)) (List.mem_of_getElem? (i := 23) rfl)
theorem dL_law_1540 : decode cL_law 1540 = .ok (.goto 108, 3) := dgL_law_27 (1540, (.goto 108, 3)) (List.mem_of_getElem? (i := 24) rfl)
theorem dL_law_1543 : decode cL_law 1543 = .ok (.aload_n 1, 1) := dgL_law_27 (1543, (.aload_n 1, 1)) (List.mem_of_getElem? (i := 25) rfl)
theorem dL_law_1544 : decode cL_law 1544 = .ok (.aload_n 0, 1) := dgL_law_27 (1544, (.aload_n 0, 1)) (List.mem_of_getElem? (i := 26) rfl)
theorem dL_law_1545 : decode cL_law 1545 = .ok (.iload_n 3, 1) := dgL_law_27 (1545, (.iload_n 3, 1)) (List.mem_of_getElem? (i := 27) rfl)
theorem dL_law_1546 : decode cL_law 1546 = .ok (.iconst 1, 1) := dgL_law_27 (1546, (.iconst 1, 1)) (List.mem_of_getElem? (i := 28) rfl)
theorem dL_law_1547 : decode cL_law 1547 = .ok (.iadd, 1) := dgL_law_27 (1547, (.iadd, 1)) (List.mem_of_getElem? (i := 29) rfl)
theorem dL_law_1548 : decode cL_law 1548 = .ok (.iaload, 1) := dgL_law_27 (1548, (.iaload, 1)) (List.mem_of_getElem? (i := 30) rfl)
theorem dL_law_1549 : decode cL_law 1549 = .ok (.invokevirtual 179, 3) := dgL_law_27 (1549, (.invokevirtual 179, 3)) (List.mem_of_getElem? (i := 31) rfl)
theorem dL_law_1552 : decode cL_law 1552 = .ok (.pop, 1) := dgL_law_27 (1552, (.pop, 1)) (List.mem_of_getElem? (i := 32) rfl)
theorem dL_law_1553 : decode cL_law 1553 = .ok (.aload_n 2, 1) := dgL_law_27 (1553, (.aload_n 2, 1)) (List.mem_of_getElem? (i := 33) rfl)
theorem dL_law_1554 : decode cL_law 1554 = .ok (.aload_n 0, 1) := dgL_law_27 (1554, (.aload_n 0, 1)) (List.mem_of_getElem? (i := 34) rfl)
theorem dL_law_1555 : decode cL_law 1555 = .ok (.iload_n 3, 1) := dgL_law_27 (1555, (.iload_n 3, 1)) (List.mem_of_getElem? (i := 35) rfl)
theorem dL_law_1556 : decode cL_law 1556 = .ok (.iconst 1, 1) := dgL_law_27 (1556, (.iconst 1, 1)) (List.mem_of_getElem? (i := 36) rfl)
theorem dL_law_1557 : decode cL_law 1557 = .ok (.iadd, 1) := dgL_law_27 (1557, (.iadd, 1)) (List.mem_of_getElem? (i := 37) rfl)
theorem dL_law_1558 : decode cL_law 1558 = .ok (.iaload, 1) := dgL_law_27 (1558, (.iaload, 1)) (List.mem_of_getElem? (i := 38) rfl)
theorem dL_law_1559 : decode cL_law 1559 = .ok (.invokevirtual 182, 3) := dgL_law_27 (1559, (.invokevirtual 182, 3)) (List.mem_of_getElem? (i := 39) rfl)
theorem dgL_law_28 : ∀ r ∈ ([(1562, (.pop, 1)), (1563, (.goto 85, 3)), (1566, (.aload_n 1, 1)), (1567, (.aload_n 0, 1)), (1568, (.iload_n 3, 1)), (1569, (.iconst 1, 1)), (1570, (.iadd, 1)), (1571, (.iaload, 1)), (1572, (.invokevirtual 183, 3)), (1575, (.pop, 1)), (1576, (.aload_n 2, 1)), (1577, (.aload_n 0, 1)), (1578, (.iload_n 3, 1)), (1579, (.iconst 1, 1)), (1580, (.iadd, 1)), (1581, (.iaload, 1)), (1582, (.invokevirtual 186, 3)), (1585, (.pop, 1)), (1586, (.goto 62, 3)), (1589, (.aload_n 1, 1)), (1590, (.aload_n 0, 1)), (1591, (.iload_n 3, 1)), (1592, (.iconst 1, 1)), (1593, (.iadd, 1)), (1594, (.iaload, 1)), (1595, (.invokevirtual 187, 3)), (1598, (.pop, 1)), (1599, (.aload_n 2, 1)), (1600, (.aload_n 0, 1)), (1601, (.iload_n 3, 1)), (1602, (.iconst 1, 1)), (1603, (.iadd, 1)), (1604, (.iaload, 1)), (1605, (.invokevirtual 190, 3)), (1608, (.pop, 1)), (1609, (.goto 39, 3)), (1612, (.aload_n 1, 1)), (1613, (.aload_n 0, 1)), (1614, (.iload_n 3, 1)), (1615, (.iconst 1, 1))] : List (Nat × (Instr × Nat))), decode cL_law r.1 = .ok r.2 := by decide +kernel
theorem dL_law_1562 : decode cL_law 1562 = .ok (.pop, 1) := dgL_law_28 (1562, (.pop, 1)) (List.mem_of_getElem? (i := 0) rfl)
theorem dL_law_1563 : decode cL_law 1563 = .ok (.goto 85, 3) := dgL_law_28 (1563, (.goto 85, 3)) (List.mem_of_getElem? (i := 1) rfl)
theorem dL_law_1566 : decode cL_law 1566 = .ok (.aload_n 1, 1) := dgL_law_28 (1566, (.aload_n 1, 1)) (List.mem_of_getElem? (i := 2) rfl)
theorem dL_law_1567 : decode cL_law 1567 = .ok (.aload_n 0, 1) := dgL_law_28 (1567, (.aload_n 0, 1)) (List.mem_of_getElem? (i := 3) rfl)
theorem dL_law_1568 : decode cL_law 1568 = .ok (.iload_n 3, 1) := dgL_law_28 (1568, (.iload_n 3, 1)) (List.mem_of_getElem? (i := 4) rfl)
theorem dL_law_1569 : decode cL_law 1569 = .ok (.iconst 1, 1) := dgL_law_28 (1569, (.iconst 1, 1)) (List.mem_of_getElem? (i := 5) rfl)
theorem dL_law_1570 : decode cL_law 1570 = .ok (.iadd, 1) := dgL_law_28 (1570, (.iadd, 1)) (List.mem_of_getElem? (i := 6) rfl)
theorem dL_law_1571 : decode cL_law 1571 = .ok (.iaload, 1) := dgL_law_28 (1571, (.iaload, 1)) (List.mem_of_getElem? (i := 7) rfl)
theorem dL_law_1572 : decode cL_law 1572 = .ok (.invokevirtual 183, 3) := dgL_law_28 (1572, (.invokevirtual 183, 3)) (List.mem_of_getElem? (i := 8) rfl)
theorem dL_law_1575 : decode cL_law 1575 = .ok (.pop, 1) := dgL_law_28 (1575, (.pop, 1)) (List.mem_of_getElem? (i := 9) rfl)
theorem dL_law_1576 : decode cL_law 1576 = .ok (.aload_n 2, 1) := dgL_law_28 (1576, (.aload_n 2, 1)) (List.mem_of_getElem? (i := 10) rfl)
theorem dL_law_1577 : decode cL_law 1577 = .ok (.aload_n 0, 1) := dgL_law_28 (1577, (.aload_n 0, 1)) (List.mem_of_getElem? (i := 11) rfl)
theorem dL_law_1578 : decode cL_law 1578 = .ok (.iload_n 3, 1) := dgL_law_28 (1578, (.iload_n 3, 1)) (List.mem_of_getElem? (i := 12) rfl)
theorem dL_law_1579 : decode cL_law 1579 = .ok (.iconst 1, 1) := dgL_law_28 (1579, (.iconst 1, 1)) (List.mem_of_getElem? (i := 13) rfl)
theorem dL_law_1580 : decode cL_law 1580 = .ok (.iadd, 1) := dgL_law_28 (1580, (.iadd, 1)) (List.mem_of_getElem? (i := 14) rfl)
theorem dL_law_1581 : decode cL_law 1581 = .ok (.iaload, 1) := dgL_law_28 (1581, (.iaload, 1)) (List.mem_of_getElem? (i := 15) rfl)
theorem dL_law_1582 : decode cL_law 1582 = .ok (.invokevirtual 186, 3) := dgL_law_28 (1582, (.invokevirtual 186, 3)) (List.mem_of_getElem? (i := 16) rfl)
theorem dL_law_1585 : decode cL_law 1585 = .ok (.pop, 1) := dgL_law_28 (1585, (.pop, 1)) (List.mem_of_getElem? (i := 17) rfl)
theorem dL_law_1586 : decode cL_law 1586 = .ok (.goto 62, 3) := dgL_law_28 (1586, (.goto 62, 3)) (List.mem_of_getElem? (i := 18) rfl)
theorem dL_law_1589 : decode cL_law 1589 = .ok (.aload_n 1, 1) := dgL_law_28 (1589, (.aload_n 1, 1)) (List.mem_of_getElem? (i := 19) rfl)
theorem dL_law_1590 : decode cL_law 1590 = .ok (.aload_n 0, 1) := dgL_law_28 (1590, (.aload_n 0, 1)) (List.mem_of_getElem? (i := 20) rfl)
theorem dL_law_1591 : decode cL_law 1591 = .ok (.iload_n 3, 1) := dgL_law_28 (1591, (.iload_n 3, 1)) (List.mem_of_getElem? (i := 21) rfl)
theorem dL_law_1592 : decode cL_law 1592 = .ok (.iconst 1, 1) := dgL_law_28 (1592, (.iconst 1, 1)) (List.mem_of_getElem? (i := 22) rfl)
theorem dL_law_1593 : decode cL_law 1593 = .ok (.iadd, 1) := dgL_law_28 (1593, (.iadd, 1)) (List.mem_of_getElem? (i := 23) rfl)
theorem dL_law_1594 : decode cL_law 1594 = .ok (.iaload, 1) := dgL_law_28 (1594, (.iaload, 1)) (List.mem_of_getElem? (i := 24) rfl)
theorem dL_law_1595 : decode cL_law 1595 = .ok (.invokevirtual 187, 3) := dgL_law_28 (1595, (.invokevirtual 187, 3)) (List.mem_of_getElem? (i := 25) rfl)
theorem dL_law_1598 : decode cL_law 1598 = .ok (.pop, 1) := dgL_law_28 (1598, (.pop, 1)) (List.mem_of_getElem? (i := 26) rfl)
theorem dL_law_1599 : decode cL_law 1599 = .ok (.aload_n 2, 1) := dgL_law_28 (1599, (.aload_n 2, 1)) (List.mem_of_getElem? (i := 27) rfl)
theorem dL_law_1600 : decode cL_law 1600 = .ok (.aload_n 0, 1) := dgL_law_28 (1600, (.aload_n 0, 1)) (List.mem_of_getElem? (i := 28) rfl)
theorem dL_law_1601 : decode cL_law 1601 = .ok (.iload_n 3, 1) := dgL_law_28 (1601, (.iload_n 3, 1)) (List.mem_of_getElem? (i := 29) rfl)
theorem dL_law_1602 : decode cL_law 1602 = .ok (.iconst 1, 1) := dgL_law_28 (1602, (.iconst 1, 1)) (List.mem_of_getElem? (i := 30) rfl)
theorem dL_law_1603 : decode cL_law 1603 = .ok (.iadd, 1) := dgL_law_28 (1603, (.iadd, 1)) (List.mem_of_getElem? (i := 31) rfl)
theorem dL_law_1604 : decode cL_law 1604 = .ok (.iaload, 1) := dgL_law_28 (1604, (.iaload, 1)) (List.mem_of_getElem? (i := 32) rfl)
theorem dL_law_1605 : decode cL_law 1605 = .ok (.invokevirtual 190, 3) := dgL_law_28 (1605, (.invokevirtual 190, 3)) (List.mem_of_getElem? (i := 33) rfl)
theorem dL_law_1608 : decode cL_law 1608 = .ok (.pop, 1) := dgL_law_28 (1608, (.pop, 1)) (List.mem_of_getElem? (i := 34) rfl)
theorem dL_law_1609 : decode cL_law 1609 = .ok (.goto 39, 3) := dgL_law_28 (1609, (.goto 39, 3)) (List.mem_of_getElem? (i := 35) rfl)
theorem dL_law_1612 : decode cL_law 1612 = .ok (.aload_n 1, 1) := dgL_law_28 (1612, (.aload_n 1, 1)) (List.mem_of_getElem? (i := 36) rfl)
theorem dL_law_1613 : decode cL_law 1613 = .ok (.aload_n 0, 1) := dgL_law_28 (1613, (.aload_n 0, 1)) (List.mem_of_getElem? (i := 37) rfl)
theorem dL_law_1614 : decode cL_law 1614 = .ok (.iload_n 3, 1) := dgL_law_28 (1614, (.iload_n 3, 1)) (List.mem_of_getElem? (i := 38) rfl)
theorem dL_law_1615 : decode cL_law 1615 = .ok (.iconst 1, 1) := dgL_law_28 (1615, (.iconst 1, 1)) (List.mem_of_getElem? (i := 39) rfl)
theorem dgL_law_29 : ∀ r ∈ ([(1616, (.iadd, 1)), (1617, (.iaload, 1)), (1618, (.invokevirtual 191, 3)), (1621, (.pop, 1)), (1622, (.aload_n 2, 1)), (1623, (.aload_n 0, 1)), (1624, (.iload_n 3, 1)), (1625, (.iconst 1, 1)), (1626, (.iadd, 1)), (1627, (.iaload, 1)), (1628, (.invokevirtual 194, 3)), (1631, (.pop, 1)), (1632, (.goto 16, 3)), (1635, (.aload_n 1, 1)), (1636, (.invokevirtual 195, 3)), (1639, (.pop, 1)), (1640, (.aload_n 2, 1)), (1641, (.invokevirtual 198, 3)), (1644, (.pop, 1)), (1645, (.goto 3, 3)), (1648, (.iinc 3 7, 3)), (1651, (.goto (-1633), 3)), (1654, (.iconst 1, 1)), (1655, (.ireturn, 1))] : List (Nat × (Instr × Nat))), decode cL_law r.1 = .ok r.2 := by decide +kernel
theorem dL_law_1616 : decode cL_law 1616 = .ok (.iadd, 1) := dgL_law_29 (1616, (.iadd, 1)) (List.mem_of_getElem? (i := 0) rfl)
theorem dL_law_1617 : decode cL_law 1617 = .ok (.iaload, 1) := dgL_law_29 (1617, (.iaload, 1)) (List.mem_of_getElem? (i := 1) rfl)
theorem dL_law_1618 : decode cL_law 1618 = .ok (.invokevirtual 191, 3) := dgL_law_29 (1618, (.invokevirtual 191, 3)) (List.mem_of_getElem? (i := 2) rfl)
theorem dL_law_1621 : decode cL_law 1621 = .ok (.pop, 1) := dgL_law_29 (1621, (.pop, 1)) (List.mem_of_getElem? (i := 3) rfl)
theorem dL_law_1622 : decode cL_law 1622 = .ok (.aload_n 2, 1) := dgL_law_29 (1622, (.aload_n 2, 1)) (List.mem_of_getElem? (i := 4) rfl)
theorem dL_law_1623 : decode cL_law 1623 = .ok (.aload_n 0, 1) := dgL_law_29 (1623, (.aload_n 0, 1)) (List.mem_of_getElem? (i := 5) rfl)
theorem dL_law_1624 : decode cL_law 1624 = .ok (.iload_n 3, 1) := dgL_law_29 (1624, (.iload_n 3, 1)) (List.mem_of_getElem? (i := 6) rfl)
theorem dL_law_1625 : decode cL_law 1625 = .ok (.iconst 1, 1) := dgL_law_29 (1625, (.iconst 1, 1)) (List.mem_of_getElem? (i := 7) rfl)
theorem dL_law_1626 : decode cL_law 1626 = .ok (.iadd, 1) := dgL_law_29 (1626, (.iadd, 1)) (List.mem_of_getElem? (i := 8) rfl)
theorem dL_law_1627 : decode cL_law 1627 = .ok (.iaload, 1) := dgL_law_29 (1627, (.iaload, 1)) (List.mem_of_getElem? (i := 9) rfl)
theorem dL_law_1628 : decode cL_law 1628 = .ok (.invokevirtual 194, 3) := dgL_law_29 (1628, (.invokevirtual 194, 3)) (List.mem_of_getElem? (i := 10) rfl)
theorem dL_law_1631 : decode cL_law 1631 = .ok (.pop, 1) := dgL_law_29 (1631, (.pop, 1)) (List.mem_of_getElem? (i := 11) rfl)
theorem dL_law_1632 : decode cL_law 1632 = .ok (.goto 16, 3) := dgL_law_29 (1632, (.goto 16, 3)) (List.mem_of_getElem? (i := 12) rfl)
theorem dL_law_1635 : decode cL_law 1635 = .ok (.aload_n 1, 1) := dgL_law_29 (1635, (.aload_n 1, 1)) (List.mem_of_getElem? (i := 13) rfl)
theorem dL_law_1636 : decode cL_law 1636 = .ok (.invokevirtual 195, 3) := dgL_law_29 (1636, (.invokevirtual 195, 3)) (List.mem_of_getElem? (i := 14) rfl)
theorem dL_law_1639 : decode cL_law 1639 = .ok (.pop, 1) := dgL_law_29 (1639, (.pop, 1)) (List.mem_of_getElem? (i := 15) rfl)
theorem dL_law_1640 : decode cL_law 1640 = .ok (.aload_n 2, 1) := dgL_law_29 (1640, (.aload_n 2, 1)) (List.mem_of_getElem? (i := 16) rfl)
theorem dL_law_1641 : decode cL_law 1641 = .ok (.invokevirtual 198, 3) := dgL_law_29 (1641, (.invokevirtual 198, 3)) (List.mem_of_getElem? (i := 17) rfl)
theorem dL_law_1644 : decode cL_law 1644 = .ok (.pop, 1) := dgL_law_29 (1644, (.pop, 1)) (List.mem_of_getElem? (i := 18) rfl)
theorem dL_law_1645 : decode cL_law 1645 = .ok (.goto 3, 3) := dgL_law_29 (1645, (.goto 3, 3)) (List.mem_of_getElem? (i := 19) rfl)
theorem dL_law_1648 : decode cL_law 1648 = .ok (.iinc 3 7, 3) := dgL_law_29 (1648, (.iinc 3 7, 3)) (List.mem_of_getElem? (i := 20) rfl)
theorem dL_law_1651 : decode cL_law 1651 = .ok (.goto (-1633), 3) := dgL_law_29 (1651, (.goto (-1633), 3)) (List.mem_of_getElem? (i := 21) rfl)
theorem dL_law_1654 : decode cL_law 1654 = .ok (.iconst 1, 1) := dgL_law_29 (1654, (.iconst 1, 1)) (List.mem_of_getElem? (i := 22) rfl)
theorem dL_law_1655 : decode cL_law 1655 = .ok (.ireturn, 1) := dgL_law_29 (1655, (.ireturn, 1)) (List.mem_of_getElem? (i := 23) rfl)
theorem ml_L_13 : Cond.methodLink RL 13 yX11_wall ∈ tblG := tg 496 (by decide +kernel) (by decide +kernel)
theorem im_X11_wall : Cond.instanceMethod yX11_wall ∈ tblG := tg 497 (by decide +kernel) (by decide +kernel)
theorem se_X11_wall : Cond.selects RX11 yX11_wall yX11_wall ∈ tblG := tg 498 (by decide +kernel) (by decide +kernel)
theorem cd_X11_wall : Cond.code yX11_wall cX11_wall 4 (some .int) ∈ tblG := tg 499 (by decide +kernel) (by decide +kernel)
theorem gW_X11_wall : GoodIn tblG (wsG yX11_wall cX11_wall 4 (some .int)) := tgi cd_X11_wall
theorem gV_L_13 : GoodIn tblG (wsV RL 13 RX11 yX11_wall (wsG yX11_wall cX11_wall 4 (some .int))) := tgV ml_L_13 im_X11_wall se_X11_wall ini_X11 gW_X11_wall
theorem hv_X11_wall : yX11_wall.cls = RX11 ∧ yX11_wall.cls ≠ "java/lang/invoke/MethodHandle" ∧ yX11_wall.cls ≠ "java/lang/invoke/VarHandle" ∧ (parseMethodDescriptor yX11_wall.desc).map (fun d => d.parameters.length) = some 2 := by decide +kernel
theorem ml_L_18 : Cond.methodLink RL 18 yX11_glass ∈ tblG := tg 531 (by decide +kernel) (by decide +kernel)
theorem im_X11_glass : Cond.instanceMethod yX11_glass ∈ tblG := tg 532 (by decide +kernel) (by decide +kernel)
theorem se_X11_glass : Cond.selects RX11 yX11_glass yX11_glass ∈ tblG := tg 533 (by decide +kernel) (by decide +kernel)
theorem cd_X11_glass : Cond.code yX11_glass cX11_glass 6 (some .int) ∈ tblG := tg 534 (by decide +kernel) (by decide +kernel)
theorem gW_X11_glass : GoodIn tblG (wsG yX11_glass cX11_glass 6 (some .int)) := tgi cd_X11_glass
theorem gV_L_18 : GoodIn tblG (wsV RL 18 RX11 yX11_glass (wsG yX11_glass cX11_glass 6 (some .int))) := tgV ml_L_18 im_X11_glass se_X11_glass ini_X11 gW_X11_glass
theorem hv_X11_glass : yX11_glass.cls = RX11 ∧ yX11_glass.cls ≠ "java/lang/invoke/MethodHandle" ∧ yX11_glass.cls ≠ "java/lang/invoke/VarHandle" ∧ (parseMethodDescriptor yX11_glass.desc).map (fun d => d.parameters.length) = some 4 := by decide +kernel
theorem ml_L_23 : Cond.methodLink RL 23 yX11_turn ∈ tblG := tg 566 (by decide +kernel) (by decide +kernel)
theorem im_X11_turn : Cond.instanceMethod yX11_turn ∈ tblG := tg 567 (by decide +kernel) (by decide +kernel)
theorem se_X11_turn : Cond.selects RX11 yX11_turn yX11_turn ∈ tblG := tg 568 (by decide +kernel) (by decide +kernel)
theorem cd_X11_turn : Cond.code yX11_turn cX11_turn 5 (some .int) ∈ tblG := tg 569 (by decide +kernel) (by decide +kernel)
theorem gW_X11_turn : GoodIn tblG (wsG yX11_turn cX11_turn 5 (some .int)) := tgi cd_X11_turn
theorem gV_L_23 : GoodIn tblG (wsV RL 23 RX11 yX11_turn (wsG yX11_turn cX11_turn 5 (some .int))) := tgV ml_L_23 im_X11_turn se_X11_turn ini_X11 gW_X11_turn
theorem hv_X11_turn : yX11_turn.cls = RX11 ∧ yX11_turn.cls ≠ "java/lang/invoke/MethodHandle" ∧ yX11_turn.cls ≠ "java/lang/invoke/VarHandle" ∧ (parseMethodDescriptor yX11_turn.desc).map (fun d => d.parameters.length) = some 3 := by decide +kernel
theorem ml_L_28 : Cond.methodLink RL 28 yX11_of ∈ tblG := tg 576 (by decide +kernel) (by decide +kernel)
theorem im_X11_of : Cond.instanceMethod yX11_of ∈ tblG := tg 577 (by decide +kernel) (by decide +kernel)
theorem se_X11_of : Cond.selects RX11 yX11_of yX11_of ∈ tblG := tg 578 (by decide +kernel) (by decide +kernel)
theorem cd_X11_of : Cond.code yX11_of cX11_of 3 (some .int) ∈ tblG := tg 579 (by decide +kernel) (by decide +kernel)
theorem gW_X11_of : GoodIn tblG (wsG yX11_of cX11_of 3 (some .int)) := tgi cd_X11_of
theorem gV_L_28 : GoodIn tblG (wsV RL 28 RX11 yX11_of (wsG yX11_of cX11_of 3 (some .int))) := tgV ml_L_28 im_X11_of se_X11_of ini_X11 gW_X11_of
theorem hv_X11_of : yX11_of.cls = RX11 ∧ yX11_of.cls ≠ "java/lang/invoke/MethodHandle" ∧ yX11_of.cls ≠ "java/lang/invoke/VarHandle" ∧ (parseMethodDescriptor yX11_of.desc).map (fun d => d.parameters.length) = some 2 := by decide +kernel
theorem ml_L_32 : Cond.methodLink RL 32 yX11_body ∈ tblG := tg 580 (by decide +kernel) (by decide +kernel)
theorem im_X11_body : Cond.instanceMethod yX11_body ∈ tblG := tg 581 (by decide +kernel) (by decide +kernel)
theorem se_X11_body : Cond.selects RX11 yX11_body yX11_body ∈ tblG := tg 582 (by decide +kernel) (by decide +kernel)
theorem cd_X11_body : Cond.code yX11_body cX11_body 1 (some .int) ∈ tblG := tg 583 (by decide +kernel) (by decide +kernel)
theorem gW_X11_body : GoodIn tblG (wsG yX11_body cX11_body 1 (some .int)) := tgi cd_X11_body
theorem gV_L_32 : GoodIn tblG (wsV RL 32 RX11 yX11_body (wsG yX11_body cX11_body 1 (some .int))) := tgV ml_L_32 im_X11_body se_X11_body ini_X11 gW_X11_body
theorem hv_X11_body : yX11_body.cls = RX11 ∧ yX11_body.cls ≠ "java/lang/invoke/MethodHandle" ∧ yX11_body.cls ≠ "java/lang/invoke/VarHandle" ∧ (parseMethodDescriptor yX11_body.desc).map (fun d => d.parameters.length) = some 0 := by decide +kernel
theorem ml_L_37 : Cond.methodLink RL 37 yX11_stay ∈ tblG := tg 584 (by decide +kernel) (by decide +kernel)
theorem im_X11_stay : Cond.instanceMethod yX11_stay ∈ tblG := tg 585 (by decide +kernel) (by decide +kernel)
theorem se_X11_stay : Cond.selects RX11 yX11_stay yX11_stay ∈ tblG := tg 586 (by decide +kernel) (by decide +kernel)
theorem cd_X11_stay : Cond.code yX11_stay cX11_stay 5 (some .int) ∈ tblG := tg 587 (by decide +kernel) (by decide +kernel)
theorem gW_X11_stay : GoodIn tblG (wsG yX11_stay cX11_stay 5 (some .int)) := tgi cd_X11_stay
theorem gV_L_37 : GoodIn tblG (wsV RL 37 RX11 yX11_stay (wsG yX11_stay cX11_stay 5 (some .int))) := tgV ml_L_37 im_X11_stay se_X11_stay ini_X11 gW_X11_stay
theorem hv_X11_stay : yX11_stay.cls = RX11 ∧ yX11_stay.cls ≠ "java/lang/invoke/MethodHandle" ∧ yX11_stay.cls ≠ "java/lang/invoke/VarHandle" ∧ (parseMethodDescriptor yX11_stay.desc).map (fun d => d.parameters.length) = some 4 := by decide +kernel
theorem ml_L_41 : Cond.methodLink RL 41 yX11_where ∈ tblG := tg 604 (by decide +kernel) (by decide +kernel)
theorem im_X11_where : Cond.instanceMethod yX11_where ∈ tblG := tg 605 (by decide +kernel) (by decide +kernel)
theorem se_X11_where : Cond.selects RX11 yX11_where yX11_where ∈ tblG := tg 606 (by decide +kernel) (by decide +kernel)
theorem cd_X11_where : Cond.code yX11_where cX11_where 3 (some .int) ∈ tblG := tg 607 (by decide +kernel) (by decide +kernel)
theorem gW_X11_where : GoodIn tblG (wsG yX11_where cX11_where 3 (some .int)) := tgi cd_X11_where
theorem gV_L_41 : GoodIn tblG (wsV RL 41 RX11 yX11_where (wsG yX11_where cX11_where 3 (some .int))) := tgV ml_L_41 im_X11_where se_X11_where ini_X11 gW_X11_where
theorem hv_X11_where : yX11_where.cls = RX11 ∧ yX11_where.cls ≠ "java/lang/invoke/MethodHandle" ∧ yX11_where.cls ≠ "java/lang/invoke/VarHandle" ∧ (parseMethodDescriptor yX11_where.desc).map (fun d => d.parameters.length) = some 2 := by decide +kernel
theorem ml_L_45 : Cond.methodLink RL 45 yX11_least ∈ tblG := tg 608 (by decide +kernel) (by decide +kernel)
theorem im_X11_least : Cond.instanceMethod yX11_least ∈ tblG := tg 609 (by decide +kernel) (by decide +kernel)
theorem se_X11_least : Cond.selects RX11 yX11_least yX11_least ∈ tblG := tg 610 (by decide +kernel) (by decide +kernel)
theorem cd_X11_least : Cond.code yX11_least cX11_least 3 (some .int) ∈ tblG := tg 611 (by decide +kernel) (by decide +kernel)
theorem gW_X11_least : GoodIn tblG (wsG yX11_least cX11_least 3 (some .int)) := tgi cd_X11_least
theorem gV_L_45 : GoodIn tblG (wsV RL 45 RX11 yX11_least (wsG yX11_least cX11_least 3 (some .int))) := tgV ml_L_45 im_X11_least se_X11_least ini_X11 gW_X11_least
theorem hv_X11_least : yX11_least.cls = RX11 ∧ yX11_least.cls ≠ "java/lang/invoke/MethodHandle" ∧ yX11_least.cls ≠ "java/lang/invoke/VarHandle" ∧ (parseMethodDescriptor yX11_least.desc).map (fun d => d.parameters.length) = some 1 := by decide +kernel
theorem ml_L_50 : Cond.methodLink RL 50 yX11_feed ∈ tblG := tg 613 (by decide +kernel) (by decide +kernel)
theorem im_X11_feed : Cond.instanceMethod yX11_feed ∈ tblG := tg 614 (by decide +kernel) (by decide +kernel)
theorem se_X11_feed : Cond.selects RX11 yX11_feed yX11_feed ∈ tblG := tg 615 (by decide +kernel) (by decide +kernel)
theorem cd_X11_feed : Cond.code yX11_feed cX11_feed 6 (some .int) ∈ tblG := tg 616 (by decide +kernel) (by decide +kernel)
theorem gW_X11_feed : GoodIn tblG (wsG yX11_feed cX11_feed 6 (some .int)) := tgi cd_X11_feed
theorem gV_L_50 : GoodIn tblG (wsV RL 50 RX11 yX11_feed (wsG yX11_feed cX11_feed 6 (some .int))) := tgV ml_L_50 im_X11_feed se_X11_feed ini_X11 gW_X11_feed
theorem hv_X11_feed : yX11_feed.cls = RX11 ∧ yX11_feed.cls ≠ "java/lang/invoke/MethodHandle" ∧ yX11_feed.cls ≠ "java/lang/invoke/VarHandle" ∧ (parseMethodDescriptor yX11_feed.desc).map (fun d => d.parameters.length) = some 5 := by decide +kernel
theorem ml_L_55 : Cond.methodLink RL 55 yX11_end ∈ tblG := tg 621 (by decide +kernel) (by decide +kernel)
theorem im_X11_end : Cond.instanceMethod yX11_end ∈ tblG := tg 622 (by decide +kernel) (by decide +kernel)
theorem se_X11_end : Cond.selects RX11 yX11_end yX11_end ∈ tblG := tg 623 (by decide +kernel) (by decide +kernel)
theorem cd_X11_end : Cond.code yX11_end cX11_end 2 (some .int) ∈ tblG := tg 624 (by decide +kernel) (by decide +kernel)
theorem gW_X11_end : GoodIn tblG (wsG yX11_end cX11_end 2 (some .int)) := tgi cd_X11_end
theorem gV_L_55 : GoodIn tblG (wsV RL 55 RX11 yX11_end (wsG yX11_end cX11_end 2 (some .int))) := tgV ml_L_55 im_X11_end se_X11_end ini_X11 gW_X11_end
theorem hv_X11_end : yX11_end.cls = RX11 ∧ yX11_end.cls ≠ "java/lang/invoke/MethodHandle" ∧ yX11_end.cls ≠ "java/lang/invoke/VarHandle" ∧ (parseMethodDescriptor yX11_end.desc).map (fun d => d.parameters.length) = some 1 := by decide +kernel
theorem ml_L_59 : Cond.methodLink RL 59 yX11_row ∈ tblG := tg 625 (by decide +kernel) (by decide +kernel)
theorem im_X11_row : Cond.instanceMethod yX11_row ∈ tblG := tg 626 (by decide +kernel) (by decide +kernel)
theorem se_X11_row : Cond.selects RX11 yX11_row yX11_row ∈ tblG := tg 627 (by decide +kernel) (by decide +kernel)
theorem cd_X11_row : Cond.code yX11_row cX11_row 4 (some .int) ∈ tblG := tg 628 (by decide +kernel) (by decide +kernel)
theorem gW_X11_row : GoodIn tblG (wsG yX11_row cX11_row 4 (some .int)) := tgi cd_X11_row
theorem gV_L_59 : GoodIn tblG (wsV RL 59 RX11 yX11_row (wsG yX11_row cX11_row 4 (some .int))) := tgV ml_L_59 im_X11_row se_X11_row ini_X11 gW_X11_row
theorem hv_X11_row : yX11_row.cls = RX11 ∧ yX11_row.cls ≠ "java/lang/invoke/MethodHandle" ∧ yX11_row.cls ≠ "java/lang/invoke/VarHandle" ∧ (parseMethodDescriptor yX11_row.desc).map (fun d => d.parameters.length) = some 0 := by decide +kernel
theorem ml_L_63 : Cond.methodLink RL 63 yX11_faded ∈ tblG := tg 633 (by decide +kernel) (by decide +kernel)
theorem im_X11_faded : Cond.instanceMethod yX11_faded ∈ tblG := tg 634 (by decide +kernel) (by decide +kernel)
theorem se_X11_faded : Cond.selects RX11 yX11_faded yX11_faded ∈ tblG := tg 635 (by decide +kernel) (by decide +kernel)
theorem cd_X11_faded : Cond.code yX11_faded cX11_faded 1 (some .int) ∈ tblG := tg 636 (by decide +kernel) (by decide +kernel)
theorem gW_X11_faded : GoodIn tblG (wsG yX11_faded cX11_faded 1 (some .int)) := tgi cd_X11_faded
theorem gV_L_63 : GoodIn tblG (wsV RL 63 RX11 yX11_faded (wsG yX11_faded cX11_faded 1 (some .int))) := tgV ml_L_63 im_X11_faded se_X11_faded ini_X11 gW_X11_faded
theorem hv_X11_faded : yX11_faded.cls = RX11 ∧ yX11_faded.cls ≠ "java/lang/invoke/MethodHandle" ∧ yX11_faded.cls ≠ "java/lang/invoke/VarHandle" ∧ (parseMethodDescriptor yX11_faded.desc).map (fun d => d.parameters.length) = some 0 := by decide +kernel
theorem ml_L_67 : Cond.methodLink RL 67 yX11_law ∈ tblG := tg 637 (by decide +kernel) (by decide +kernel)
theorem im_X11_law : Cond.instanceMethod yX11_law ∈ tblG := tg 638 (by decide +kernel) (by decide +kernel)
theorem se_X11_law : Cond.selects RX11 yX11_law yX11_law ∈ tblG := tg 639 (by decide +kernel) (by decide +kernel)
theorem cd_X11_law : Cond.code yX11_law cX11_law 3 (some .int) ∈ tblG := tg 640 (by decide +kernel) (by decide +kernel)
theorem gW_X11_law : GoodIn tblG (wsG yX11_law cX11_law 3 (some .int)) := tgi cd_X11_law
theorem gV_L_67 : GoodIn tblG (wsV RL 67 RX11 yX11_law (wsG yX11_law cX11_law 3 (some .int))) := tgV ml_L_67 im_X11_law se_X11_law ini_X11 gW_X11_law
theorem hv_X11_law : yX11_law.cls = RX11 ∧ yX11_law.cls ≠ "java/lang/invoke/MethodHandle" ∧ yX11_law.cls ≠ "java/lang/invoke/VarHandle" ∧ (parseMethodDescriptor yX11_law.desc).map (fun d => d.parameters.length) = some 0 := by decide +kernel
theorem ml_L_71 : Cond.methodLink RL 71 yX11_fault ∈ tblG := tg 796 (by decide +kernel) (by decide +kernel)
theorem im_X11_fault : Cond.instanceMethod yX11_fault ∈ tblG := tg 797 (by decide +kernel) (by decide +kernel)
theorem se_X11_fault : Cond.selects RX11 yX11_fault yX11_fault ∈ tblG := tg 798 (by decide +kernel) (by decide +kernel)
theorem cd_X11_fault : Cond.code yX11_fault cX11_fault 1 (some .int) ∈ tblG := tg 799 (by decide +kernel) (by decide +kernel)
theorem gW_X11_fault : GoodIn tblG (wsG yX11_fault cX11_fault 1 (some .int)) := tgi cd_X11_fault
theorem gV_L_71 : GoodIn tblG (wsV RL 71 RX11 yX11_fault (wsG yX11_fault cX11_fault 1 (some .int))) := tgV ml_L_71 im_X11_fault se_X11_fault ini_X11 gW_X11_fault
theorem hv_X11_fault : yX11_fault.cls = RX11 ∧ yX11_fault.cls ≠ "java/lang/invoke/MethodHandle" ∧ yX11_fault.cls ≠ "java/lang/invoke/VarHandle" ∧ (parseMethodDescriptor yX11_fault.desc).map (fun d => d.parameters.length) = some 0 := by decide +kernel
theorem ml_L_75 : Cond.methodLink RL 75 yX11_force ∈ tblG := tg 800 (by decide +kernel) (by decide +kernel)
theorem im_X11_force : Cond.instanceMethod yX11_force ∈ tblG := tg 801 (by decide +kernel) (by decide +kernel)
theorem se_X11_force : Cond.selects RX11 yX11_force yX11_force ∈ tblG := tg 802 (by decide +kernel) (by decide +kernel)
theorem cd_X11_force : Cond.code yX11_force cX11_force 3 (some .int) ∈ tblG := tg 803 (by decide +kernel) (by decide +kernel)
theorem gW_X11_force : GoodIn tblG (wsG yX11_force cX11_force 3 (some .int)) := tgi cd_X11_force
theorem gV_L_75 : GoodIn tblG (wsV RL 75 RX11 yX11_force (wsG yX11_force cX11_force 3 (some .int))) := tgV ml_L_75 im_X11_force se_X11_force ini_X11 gW_X11_force
theorem hv_X11_force : yX11_force.cls = RX11 ∧ yX11_force.cls ≠ "java/lang/invoke/MethodHandle" ∧ yX11_force.cls ≠ "java/lang/invoke/VarHandle" ∧ (parseMethodDescriptor yX11_force.desc).map (fun d => d.parameters.length) = some 1 := by decide +kernel
theorem ml_L_79 : Cond.methodLink RL 79 yX11_look ∈ tblG := tg 804 (by decide +kernel) (by decide +kernel)
theorem im_X11_look : Cond.instanceMethod yX11_look ∈ tblG := tg 805 (by decide +kernel) (by decide +kernel)
theorem se_X11_look : Cond.selects RX11 yX11_look yX11_look ∈ tblG := tg 806 (by decide +kernel) (by decide +kernel)
theorem cd_X11_look : Cond.code yX11_look cX11_look 5 (some .int) ∈ tblG := tg 807 (by decide +kernel) (by decide +kernel)
theorem gW_X11_look : GoodIn tblG (wsG yX11_look cX11_look 5 (some .int)) := tgi cd_X11_look
theorem gV_L_79 : GoodIn tblG (wsV RL 79 RX11 yX11_look (wsG yX11_look cX11_look 5 (some .int))) := tgV ml_L_79 im_X11_look se_X11_look ini_X11 gW_X11_look
theorem hv_X11_look : yX11_look.cls = RX11 ∧ yX11_look.cls ≠ "java/lang/invoke/MethodHandle" ∧ yX11_look.cls ≠ "java/lang/invoke/VarHandle" ∧ (parseMethodDescriptor yX11_look.desc).map (fun d => d.parameters.length) = some 4 := by decide +kernel
theorem ml_L_83 : Cond.methodLink RL 83 yX11_point ∈ tblG := tg 870 (by decide +kernel) (by decide +kernel)
theorem im_X11_point : Cond.instanceMethod yX11_point ∈ tblG := tg 871 (by decide +kernel) (by decide +kernel)
theorem se_X11_point : Cond.selects RX11 yX11_point yX11_point ∈ tblG := tg 872 (by decide +kernel) (by decide +kernel)
theorem cd_X11_point : Cond.code yX11_point cX11_point 5 (some .int) ∈ tblG := tg 873 (by decide +kernel) (by decide +kernel)
theorem gW_X11_point : GoodIn tblG (wsG yX11_point cX11_point 5 (some .int)) := tgi cd_X11_point
theorem gV_L_83 : GoodIn tblG (wsV RL 83 RX11 yX11_point (wsG yX11_point cX11_point 5 (some .int))) := tgV ml_L_83 im_X11_point se_X11_point ini_X11 gW_X11_point
theorem hv_X11_point : yX11_point.cls = RX11 ∧ yX11_point.cls ≠ "java/lang/invoke/MethodHandle" ∧ yX11_point.cls ≠ "java/lang/invoke/VarHandle" ∧ (parseMethodDescriptor yX11_point.desc).map (fun d => d.parameters.length) = some 4 := by decide +kernel
theorem ml_L_87 : Cond.methodLink RL 87 yX11_sees ∈ tblG := tg 874 (by decide +kernel) (by decide +kernel)
theorem im_X11_sees : Cond.instanceMethod yX11_sees ∈ tblG := tg 875 (by decide +kernel) (by decide +kernel)
theorem se_X11_sees : Cond.selects RX11 yX11_sees yX11_sees ∈ tblG := tg 876 (by decide +kernel) (by decide +kernel)
theorem cd_X11_sees : Cond.code yX11_sees cX11_sees 3 (some .int) ∈ tblG := tg 877 (by decide +kernel) (by decide +kernel)
theorem gW_X11_sees : GoodIn tblG (wsG yX11_sees cX11_sees 3 (some .int)) := tgi cd_X11_sees
theorem gV_L_87 : GoodIn tblG (wsV RL 87 RX11 yX11_sees (wsG yX11_sees cX11_sees 3 (some .int))) := tgV ml_L_87 im_X11_sees se_X11_sees ini_X11 gW_X11_sees
theorem hv_X11_sees : yX11_sees.cls = RX11 ∧ yX11_sees.cls ≠ "java/lang/invoke/MethodHandle" ∧ yX11_sees.cls ≠ "java/lang/invoke/VarHandle" ∧ (parseMethodDescriptor yX11_sees.desc).map (fun d => d.parameters.length) = some 2 := by decide +kernel
theorem ml_L_91 : Cond.methodLink RL 91 yX11_late ∈ tblG := tg 883 (by decide +kernel) (by decide +kernel)
theorem im_X11_late : Cond.instanceMethod yX11_late ∈ tblG := tg 884 (by decide +kernel) (by decide +kernel)
theorem se_X11_late : Cond.selects RX11 yX11_late yX11_late ∈ tblG := tg 885 (by decide +kernel) (by decide +kernel)
theorem cd_X11_late : Cond.code yX11_late cX11_late 5 (some .int) ∈ tblG := tg 886 (by decide +kernel) (by decide +kernel)
theorem gW_X11_late : GoodIn tblG (wsG yX11_late cX11_late 5 (some .int)) := tgi cd_X11_late
theorem gV_L_91 : GoodIn tblG (wsV RL 91 RX11 yX11_late (wsG yX11_late cX11_late 5 (some .int))) := tgV ml_L_91 im_X11_late se_X11_late ini_X11 gW_X11_late
theorem hv_X11_late : yX11_late.cls = RX11 ∧ yX11_late.cls ≠ "java/lang/invoke/MethodHandle" ∧ yX11_late.cls ≠ "java/lang/invoke/VarHandle" ∧ (parseMethodDescriptor yX11_late.desc).map (fun d => d.parameters.length) = some 3 := by decide +kernel
theorem ml_L_95 : Cond.methodLink RL 95 yX11_first ∈ tblG := tg 891 (by decide +kernel) (by decide +kernel)
theorem im_X11_first : Cond.instanceMethod yX11_first ∈ tblG := tg 892 (by decide +kernel) (by decide +kernel)
theorem se_X11_first : Cond.selects RX11 yX11_first yX11_first ∈ tblG := tg 893 (by decide +kernel) (by decide +kernel)
theorem cd_X11_first : Cond.code yX11_first cX11_first 7 (some .int) ∈ tblG := tg 894 (by decide +kernel) (by decide +kernel)
theorem gW_X11_first : GoodIn tblG (wsG yX11_first cX11_first 7 (some .int)) := tgi cd_X11_first
theorem gV_L_95 : GoodIn tblG (wsV RL 95 RX11 yX11_first (wsG yX11_first cX11_first 7 (some .int))) := tgV ml_L_95 im_X11_first se_X11_first ini_X11 gW_X11_first
theorem hv_X11_first : yX11_first.cls = RX11 ∧ yX11_first.cls ≠ "java/lang/invoke/MethodHandle" ∧ yX11_first.cls ≠ "java/lang/invoke/VarHandle" ∧ (parseMethodDescriptor yX11_first.desc).map (fun d => d.parameters.length) = some 2 := by decide +kernel
theorem ml_L_99 : Cond.methodLink RL 99 yX11_lit ∈ tblG := tg 895 (by decide +kernel) (by decide +kernel)
theorem im_X11_lit : Cond.instanceMethod yX11_lit ∈ tblG := tg 896 (by decide +kernel) (by decide +kernel)
theorem se_X11_lit : Cond.selects RX11 yX11_lit yX11_lit ∈ tblG := tg 897 (by decide +kernel) (by decide +kernel)
theorem cd_X11_lit : Cond.code yX11_lit cX11_lit 6 (some .int) ∈ tblG := tg 898 (by decide +kernel) (by decide +kernel)
theorem gW_X11_lit : GoodIn tblG (wsG yX11_lit cX11_lit 6 (some .int)) := tgi cd_X11_lit
theorem gV_L_99 : GoodIn tblG (wsV RL 99 RX11 yX11_lit (wsG yX11_lit cX11_lit 6 (some .int))) := tgV ml_L_99 im_X11_lit se_X11_lit ini_X11 gW_X11_lit
theorem hv_X11_lit : yX11_lit.cls = RX11 ∧ yX11_lit.cls ≠ "java/lang/invoke/MethodHandle" ∧ yX11_lit.cls ≠ "java/lang/invoke/VarHandle" ∧ (parseMethodDescriptor yX11_lit.desc).map (fun d => d.parameters.length) = some 3 := by decide +kernel
theorem ml_L_103 : Cond.methodLink RL 103 yX11_unseen ∈ tblG := tg 909 (by decide +kernel) (by decide +kernel)
theorem im_X11_unseen : Cond.instanceMethod yX11_unseen ∈ tblG := tg 910 (by decide +kernel) (by decide +kernel)
theorem se_X11_unseen : Cond.selects RX11 yX11_unseen yX11_unseen ∈ tblG := tg 911 (by decide +kernel) (by decide +kernel)
theorem cd_X11_unseen : Cond.code yX11_unseen cX11_unseen 4 (some .int) ∈ tblG := tg 912 (by decide +kernel) (by decide +kernel)
theorem gW_X11_unseen : GoodIn tblG (wsG yX11_unseen cX11_unseen 4 (some .int)) := tgi cd_X11_unseen
theorem gV_L_103 : GoodIn tblG (wsV RL 103 RX11 yX11_unseen (wsG yX11_unseen cX11_unseen 4 (some .int))) := tgV ml_L_103 im_X11_unseen se_X11_unseen ini_X11 gW_X11_unseen
theorem hv_X11_unseen : yX11_unseen.cls = RX11 ∧ yX11_unseen.cls ≠ "java/lang/invoke/MethodHandle" ∧ yX11_unseen.cls ≠ "java/lang/invoke/VarHandle" ∧ (parseMethodDescriptor yX11_unseen.desc).map (fun d => d.parameters.length) = some 1 := by decide +kernel
theorem ml_L_107 : Cond.methodLink RL 107 yX11_sighting ∈ tblG := tg 926 (by decide +kernel) (by decide +kernel)
theorem im_X11_sighting : Cond.instanceMethod yX11_sighting ∈ tblG := tg 927 (by decide +kernel) (by decide +kernel)
theorem se_X11_sighting : Cond.selects RX11 yX11_sighting yX11_sighting ∈ tblG := tg 928 (by decide +kernel) (by decide +kernel)
theorem cd_X11_sighting : Cond.code yX11_sighting cX11_sighting 6 (some .int) ∈ tblG := tg 929 (by decide +kernel) (by decide +kernel)
theorem gW_X11_sighting : GoodIn tblG (wsG yX11_sighting cX11_sighting 6 (some .int)) := tgi cd_X11_sighting
theorem gV_L_107 : GoodIn tblG (wsV RL 107 RX11 yX11_sighting (wsG yX11_sighting cX11_sighting 6 (some .int))) := tgV ml_L_107 im_X11_sighting se_X11_sighting ini_X11 gW_X11_sighting
theorem hv_X11_sighting : yX11_sighting.cls = RX11 ∧ yX11_sighting.cls ≠ "java/lang/invoke/MethodHandle" ∧ yX11_sighting.cls ≠ "java/lang/invoke/VarHandle" ∧ (parseMethodDescriptor yX11_sighting.desc).map (fun d => d.parameters.length) = some 4 := by decide +kernel
theorem ml_L_111 : Cond.methodLink RL 111 yX11_drop ∈ tblG := tg 938 (by decide +kernel) (by decide +kernel)
theorem im_X11_drop : Cond.instanceMethod yX11_drop ∈ tblG := tg 939 (by decide +kernel) (by decide +kernel)
theorem se_X11_drop : Cond.selects RX11 yX11_drop yX11_drop ∈ tblG := tg 940 (by decide +kernel) (by decide +kernel)
theorem cd_X11_drop : Cond.code yX11_drop cX11_drop 2 (some .int) ∈ tblG := tg 941 (by decide +kernel) (by decide +kernel)
theorem gW_X11_drop : GoodIn tblG (wsG yX11_drop cX11_drop 2 (some .int)) := tgi cd_X11_drop
theorem gV_L_111 : GoodIn tblG (wsV RL 111 RX11 yX11_drop (wsG yX11_drop cX11_drop 2 (some .int))) := tgV ml_L_111 im_X11_drop se_X11_drop ini_X11 gW_X11_drop
theorem hv_X11_drop : yX11_drop.cls = RX11 ∧ yX11_drop.cls ≠ "java/lang/invoke/MethodHandle" ∧ yX11_drop.cls ≠ "java/lang/invoke/VarHandle" ∧ (parseMethodDescriptor yX11_drop.desc).map (fun d => d.parameters.length) = some 1 := by decide +kernel
theorem ml_L_115 : Cond.methodLink RL 115 yX11_start ∈ tblG := tg 947 (by decide +kernel) (by decide +kernel)
theorem im_X11_start : Cond.instanceMethod yX11_start ∈ tblG := tg 948 (by decide +kernel) (by decide +kernel)
theorem se_X11_start : Cond.selects RX11 yX11_start yX11_start ∈ tblG := tg 949 (by decide +kernel) (by decide +kernel)
theorem cd_X11_start : Cond.code yX11_start cX11_start 3 (some .int) ∈ tblG := tg 950 (by decide +kernel) (by decide +kernel)
theorem gW_X11_start : GoodIn tblG (wsG yX11_start cX11_start 3 (some .int)) := tgi cd_X11_start
theorem gV_L_115 : GoodIn tblG (wsV RL 115 RX11 yX11_start (wsG yX11_start cX11_start 3 (some .int))) := tgV ml_L_115 im_X11_start se_X11_start ini_X11 gW_X11_start
theorem hv_X11_start : yX11_start.cls = RX11 ∧ yX11_start.cls ≠ "java/lang/invoke/MethodHandle" ∧ yX11_start.cls ≠ "java/lang/invoke/VarHandle" ∧ (parseMethodDescriptor yX11_start.desc).map (fun d => d.parameters.length) = some 1 := by decide +kernel
theorem ml_L_119 : Cond.methodLink RL 119 yX11_fits ∈ tblG := tg 951 (by decide +kernel) (by decide +kernel)
theorem im_X11_fits : Cond.instanceMethod yX11_fits ∈ tblG := tg 952 (by decide +kernel) (by decide +kernel)
theorem se_X11_fits : Cond.selects RX11 yX11_fits yX11_fits ∈ tblG := tg 953 (by decide +kernel) (by decide +kernel)
theorem cd_X11_fits : Cond.code yX11_fits cX11_fits 1 (some .long) ∈ tblG := tg 954 (by decide +kernel) (by decide +kernel)
theorem gW_X11_fits : GoodIn tblG (wsG yX11_fits cX11_fits 1 (some .long)) := tgi cd_X11_fits
theorem gV_L_119 : GoodIn tblG (wsV RL 119 RX11 yX11_fits (wsG yX11_fits cX11_fits 1 (some .long))) := tgV ml_L_119 im_X11_fits se_X11_fits ini_X11 gW_X11_fits
theorem hv_X11_fits : yX11_fits.cls = RX11 ∧ yX11_fits.cls ≠ "java/lang/invoke/MethodHandle" ∧ yX11_fits.cls ≠ "java/lang/invoke/VarHandle" ∧ (parseMethodDescriptor yX11_fits.desc).map (fun d => d.parameters.length) = some 0 := by decide +kernel
theorem ml_L_124 : Cond.methodLink RL 124 yX11_could ∈ tblG := tg 988 (by decide +kernel) (by decide +kernel)
theorem im_X11_could : Cond.instanceMethod yX11_could ∈ tblG := tg 989 (by decide +kernel) (by decide +kernel)
theorem se_X11_could : Cond.selects RX11 yX11_could yX11_could ∈ tblG := tg 990 (by decide +kernel) (by decide +kernel)
theorem cd_X11_could : Cond.code yX11_could cX11_could 3 (some .long) ∈ tblG := tg 991 (by decide +kernel) (by decide +kernel)
theorem gW_X11_could : GoodIn tblG (wsG yX11_could cX11_could 3 (some .long)) := tgi cd_X11_could
theorem gV_L_124 : GoodIn tblG (wsV RL 124 RX11 yX11_could (wsG yX11_could cX11_could 3 (some .long))) := tgV ml_L_124 im_X11_could se_X11_could ini_X11 gW_X11_could
theorem hv_X11_could : yX11_could.cls = RX11 ∧ yX11_could.cls ≠ "java/lang/invoke/MethodHandle" ∧ yX11_could.cls ≠ "java/lang/invoke/VarHandle" ∧ (parseMethodDescriptor yX11_could.desc).map (fun d => d.parameters.length) = some 2 := by decide +kernel
theorem ml_L_129 : Cond.methodLink RL 129 yX11_path ∈ tblG := tg 1016 (by decide +kernel) (by decide +kernel)
theorem im_X11_path : Cond.instanceMethod yX11_path ∈ tblG := tg 1017 (by decide +kernel) (by decide +kernel)
theorem se_X11_path : Cond.selects RX11 yX11_path yX11_path ∈ tblG := tg 1018 (by decide +kernel) (by decide +kernel)
theorem cd_X11_path : Cond.code yX11_path cX11_path 2 (some .int) ∈ tblG := tg 1019 (by decide +kernel) (by decide +kernel)
theorem gW_X11_path : GoodIn tblG (wsG yX11_path cX11_path 2 (some .int)) := tgi cd_X11_path
theorem gV_L_129 : GoodIn tblG (wsV RL 129 RX11 yX11_path (wsG yX11_path cX11_path 2 (some .int))) := tgV ml_L_129 im_X11_path se_X11_path ini_X11 gW_X11_path
theorem hv_X11_path : yX11_path.cls = RX11 ∧ yX11_path.cls ≠ "java/lang/invoke/MethodHandle" ∧ yX11_path.cls ≠ "java/lang/invoke/VarHandle" ∧ (parseMethodDescriptor yX11_path.desc).map (fun d => d.parameters.length) = some 1 := by decide +kernel
theorem ml_L_133 : Cond.methodLink RL 133 yX11_core ∈ tblG := tg 1030 (by decide +kernel) (by decide +kernel)
theorem im_X11_core : Cond.instanceMethod yX11_core ∈ tblG := tg 1031 (by decide +kernel) (by decide +kernel)
theorem se_X11_core : Cond.selects RX11 yX11_core yX11_core ∈ tblG := tg 1032 (by decide +kernel) (by decide +kernel)
theorem cd_X11_core : Cond.code yX11_core cX11_core 1 (some .int) ∈ tblG := tg 1033 (by decide +kernel) (by decide +kernel)
theorem gW_X11_core : GoodIn tblG (wsG yX11_core cX11_core 1 (some .int)) := tgi cd_X11_core
theorem gV_L_133 : GoodIn tblG (wsV RL 133 RX11 yX11_core (wsG yX11_core cX11_core 1 (some .int))) := tgV ml_L_133 im_X11_core se_X11_core ini_X11 gW_X11_core
theorem hv_X11_core : yX11_core.cls = RX11 ∧ yX11_core.cls ≠ "java/lang/invoke/MethodHandle" ∧ yX11_core.cls ≠ "java/lang/invoke/VarHandle" ∧ (parseMethodDescriptor yX11_core.desc).map (fun d => d.parameters.length) = some 0 := by decide +kernel
theorem ml_L_137 : Cond.methodLink RL 137 yX11_tells ∈ tblG := tg 1040 (by decide +kernel) (by decide +kernel)
theorem im_X11_tells : Cond.instanceMethod yX11_tells ∈ tblG := tg 1041 (by decide +kernel) (by decide +kernel)
theorem se_X11_tells : Cond.selects RX11 yX11_tells yX11_tells ∈ tblG := tg 1042 (by decide +kernel) (by decide +kernel)
theorem cd_X11_tells : Cond.code yX11_tells cX11_tells 6 (some .long) ∈ tblG := tg 1043 (by decide +kernel) (by decide +kernel)
theorem gW_X11_tells : GoodIn tblG (wsG yX11_tells cX11_tells 6 (some .long)) := tgi cd_X11_tells
theorem gV_L_137 : GoodIn tblG (wsV RL 137 RX11 yX11_tells (wsG yX11_tells cX11_tells 6 (some .long))) := tgV ml_L_137 im_X11_tells se_X11_tells ini_X11 gW_X11_tells
theorem hv_X11_tells : yX11_tells.cls = RX11 ∧ yX11_tells.cls ≠ "java/lang/invoke/MethodHandle" ∧ yX11_tells.cls ≠ "java/lang/invoke/VarHandle" ∧ (parseMethodDescriptor yX11_tells.desc).map (fun d => d.parameters.length) = some 3 := by decide +kernel
theorem ml_L_142 : Cond.methodLink RL 142 yX11_surely ∈ tblG := tg 1045 (by decide +kernel) (by decide +kernel)
theorem im_X11_surely : Cond.instanceMethod yX11_surely ∈ tblG := tg 1046 (by decide +kernel) (by decide +kernel)
theorem se_X11_surely : Cond.selects RX11 yX11_surely yX11_surely ∈ tblG := tg 1047 (by decide +kernel) (by decide +kernel)
theorem cd_X11_surely : Cond.code yX11_surely cX11_surely 4 (some .int) ∈ tblG := tg 1048 (by decide +kernel) (by decide +kernel)
theorem gW_X11_surely : GoodIn tblG (wsG yX11_surely cX11_surely 4 (some .int)) := tgi cd_X11_surely
theorem gV_L_142 : GoodIn tblG (wsV RL 142 RX11 yX11_surely (wsG yX11_surely cX11_surely 4 (some .int))) := tgV ml_L_142 im_X11_surely se_X11_surely ini_X11 gW_X11_surely
theorem hv_X11_surely : yX11_surely.cls = RX11 ∧ yX11_surely.cls ≠ "java/lang/invoke/MethodHandle" ∧ yX11_surely.cls ≠ "java/lang/invoke/VarHandle" ∧ (parseMethodDescriptor yX11_surely.desc).map (fun d => d.parameters.length) = some 1 := by decide +kernel
theorem ml_L_146 : Cond.methodLink RL 146 yX11_spot ∈ tblG := tg 1056 (by decide +kernel) (by decide +kernel)
theorem im_X11_spot : Cond.instanceMethod yX11_spot ∈ tblG := tg 1057 (by decide +kernel) (by decide +kernel)
theorem se_X11_spot : Cond.selects RX11 yX11_spot yX11_spot ∈ tblG := tg 1058 (by decide +kernel) (by decide +kernel)
theorem cd_X11_spot : Cond.code yX11_spot cX11_spot 5 (some .int) ∈ tblG := tg 1059 (by decide +kernel) (by decide +kernel)
theorem gW_X11_spot : GoodIn tblG (wsG yX11_spot cX11_spot 5 (some .int)) := tgi cd_X11_spot
theorem gV_L_146 : GoodIn tblG (wsV RL 146 RX11 yX11_spot (wsG yX11_spot cX11_spot 5 (some .int))) := tgV ml_L_146 im_X11_spot se_X11_spot ini_X11 gW_X11_spot
theorem hv_X11_spot : yX11_spot.cls = RX11 ∧ yX11_spot.cls ≠ "java/lang/invoke/MethodHandle" ∧ yX11_spot.cls ≠ "java/lang/invoke/VarHandle" ∧ (parseMethodDescriptor yX11_spot.desc).map (fun d => d.parameters.length) = some 3 := by decide +kernel
theorem ml_L_150 : Cond.methodLink RL 150 yX11_wish ∈ tblG := tg 1060 (by decide +kernel) (by decide +kernel)
theorem im_X11_wish : Cond.instanceMethod yX11_wish ∈ tblG := tg 1061 (by decide +kernel) (by decide +kernel)
theorem se_X11_wish : Cond.selects RX11 yX11_wish yX11_wish ∈ tblG := tg 1062 (by decide +kernel) (by decide +kernel)
theorem cd_X11_wish : Cond.code yX11_wish cX11_wish 8 (some .int) ∈ tblG := tg 1063 (by decide +kernel) (by decide +kernel)
theorem gW_X11_wish : GoodIn tblG (wsG yX11_wish cX11_wish 8 (some .int)) := tgi cd_X11_wish
theorem gV_L_150 : GoodIn tblG (wsV RL 150 RX11 yX11_wish (wsG yX11_wish cX11_wish 8 (some .int))) := tgV ml_L_150 im_X11_wish se_X11_wish ini_X11 gW_X11_wish
theorem hv_X11_wish : yX11_wish.cls = RX11 ∧ yX11_wish.cls ≠ "java/lang/invoke/MethodHandle" ∧ yX11_wish.cls ≠ "java/lang/invoke/VarHandle" ∧ (parseMethodDescriptor yX11_wish.desc).map (fun d => d.parameters.length) = some 6 := by decide +kernel
theorem ml_L_155 : Cond.methodLink RL 155 yX11_lacks ∈ tblG := tg 1064 (by decide +kernel) (by decide +kernel)
theorem im_X11_lacks : Cond.instanceMethod yX11_lacks ∈ tblG := tg 1065 (by decide +kernel) (by decide +kernel)
theorem se_X11_lacks : Cond.selects RX11 yX11_lacks yX11_lacks ∈ tblG := tg 1066 (by decide +kernel) (by decide +kernel)
theorem cd_X11_lacks : Cond.code yX11_lacks cX11_lacks 2 (some .int) ∈ tblG := tg 1067 (by decide +kernel) (by decide +kernel)
theorem gW_X11_lacks : GoodIn tblG (wsG yX11_lacks cX11_lacks 2 (some .int)) := tgi cd_X11_lacks
theorem gV_L_155 : GoodIn tblG (wsV RL 155 RX11 yX11_lacks (wsG yX11_lacks cX11_lacks 2 (some .int))) := tgV ml_L_155 im_X11_lacks se_X11_lacks ini_X11 gW_X11_lacks
theorem hv_X11_lacks : yX11_lacks.cls = RX11 ∧ yX11_lacks.cls ≠ "java/lang/invoke/MethodHandle" ∧ yX11_lacks.cls ≠ "java/lang/invoke/VarHandle" ∧ (parseMethodDescriptor yX11_lacks.desc).map (fun d => d.parameters.length) = some 1 := by decide +kernel
theorem ml_L_159 : Cond.methodLink RL 159 yX11_hang ∈ tblG := tg 1078 (by decide +kernel) (by decide +kernel)
theorem im_X11_hang : Cond.instanceMethod yX11_hang ∈ tblG := tg 1079 (by decide +kernel) (by decide +kernel)
theorem se_X11_hang : Cond.selects RX11 yX11_hang yX11_hang ∈ tblG := tg 1080 (by decide +kernel) (by decide +kernel)
theorem cd_X11_hang : Cond.code yX11_hang cX11_hang 2 (some .int) ∈ tblG := tg 1081 (by decide +kernel) (by decide +kernel)
theorem gW_X11_hang : GoodIn tblG (wsG yX11_hang cX11_hang 2 (some .int)) := tgi cd_X11_hang
theorem gV_L_159 : GoodIn tblG (wsV RL 159 RX11 yX11_hang (wsG yX11_hang cX11_hang 2 (some .int))) := tgV ml_L_159 im_X11_hang se_X11_hang ini_X11 gW_X11_hang
theorem hv_X11_hang : yX11_hang.cls = RX11 ∧ yX11_hang.cls ≠ "java/lang/invoke/MethodHandle" ∧ yX11_hang.cls ≠ "java/lang/invoke/VarHandle" ∧ (parseMethodDescriptor yX11_hang.desc).map (fun d => d.parameters.length) = some 1 := by decide +kernel
theorem ml_L_163 : Cond.methodLink RL 163 yX11_soonest ∈ tblG := tg 1093 (by decide +kernel) (by decide +kernel)
theorem im_X11_soonest : Cond.instanceMethod yX11_soonest ∈ tblG := tg 1094 (by decide +kernel) (by decide +kernel)
theorem se_X11_soonest : Cond.selects RX11 yX11_soonest yX11_soonest ∈ tblG := tg 1095 (by decide +kernel) (by decide +kernel)
theorem cd_X11_soonest : Cond.code yX11_soonest cX11_soonest 4 (some .int) ∈ tblG := tg 1096 (by decide +kernel) (by decide +kernel)
theorem gW_X11_soonest : GoodIn tblG (wsG yX11_soonest cX11_soonest 4 (some .int)) := tgi cd_X11_soonest
theorem gV_L_163 : GoodIn tblG (wsV RL 163 RX11 yX11_soonest (wsG yX11_soonest cX11_soonest 4 (some .int))) := tgV ml_L_163 im_X11_soonest se_X11_soonest ini_X11 gW_X11_soonest
theorem hv_X11_soonest : yX11_soonest.cls = RX11 ∧ yX11_soonest.cls ≠ "java/lang/invoke/MethodHandle" ∧ yX11_soonest.cls ≠ "java/lang/invoke/VarHandle" ∧ (parseMethodDescriptor yX11_soonest.desc).map (fun d => d.parameters.length) = some 3 := by decide +kernel
theorem ml_L_167 : Cond.methodLink RL 167 yX11_way ∈ tblG := tg 1122 (by decide +kernel) (by decide +kernel)
theorem im_X11_way : Cond.instanceMethod yX11_way ∈ tblG := tg 1123 (by decide +kernel) (by decide +kernel)
theorem se_X11_way : Cond.selects RX11 yX11_way yX11_way ∈ tblG := tg 1124 (by decide +kernel) (by decide +kernel)
theorem cd_X11_way : Cond.code yX11_way cX11_way 6 (some .int) ∈ tblG := tg 1125 (by decide +kernel) (by decide +kernel)
theorem gW_X11_way : GoodIn tblG (wsG yX11_way cX11_way 6 (some .int)) := tgi cd_X11_way
theorem gV_L_167 : GoodIn tblG (wsV RL 167 RX11 yX11_way (wsG yX11_way cX11_way 6 (some .int))) := tgV ml_L_167 im_X11_way se_X11_way ini_X11 gW_X11_way
theorem hv_X11_way : yX11_way.cls = RX11 ∧ yX11_way.cls ≠ "java/lang/invoke/MethodHandle" ∧ yX11_way.cls ≠ "java/lang/invoke/VarHandle" ∧ (parseMethodDescriptor yX11_way.desc).map (fun d => d.parameters.length) = some 4 := by decide +kernel
theorem ml_L_171 : Cond.methodLink RL 171 yX11_sooner ∈ tblG := tg 1135 (by decide +kernel) (by decide +kernel)
theorem im_X11_sooner : Cond.instanceMethod yX11_sooner ∈ tblG := tg 1136 (by decide +kernel) (by decide +kernel)
theorem se_X11_sooner : Cond.selects RX11 yX11_sooner yX11_sooner ∈ tblG := tg 1137 (by decide +kernel) (by decide +kernel)
theorem cd_X11_sooner : Cond.code yX11_sooner cX11_sooner 12 (some .int) ∈ tblG := tg 1138 (by decide +kernel) (by decide +kernel)
theorem gW_X11_sooner : GoodIn tblG (wsG yX11_sooner cX11_sooner 12 (some .int)) := tgi cd_X11_sooner
theorem gV_L_171 : GoodIn tblG (wsV RL 171 RX11 yX11_sooner (wsG yX11_sooner cX11_sooner 12 (some .int))) := tgV ml_L_171 im_X11_sooner se_X11_sooner ini_X11 gW_X11_sooner
theorem hv_X11_sooner : yX11_sooner.cls = RX11 ∧ yX11_sooner.cls ≠ "java/lang/invoke/MethodHandle" ∧ yX11_sooner.cls ≠ "java/lang/invoke/VarHandle" ∧ (parseMethodDescriptor yX11_sooner.desc).map (fun d => d.parameters.length) = some 4 := by decide +kernel
theorem ml_L_175 : Cond.methodLink RL 175 yX11_wander ∈ tblG := tg 1143 (by decide +kernel) (by decide +kernel)
theorem im_X11_wander : Cond.instanceMethod yX11_wander ∈ tblG := tg 1144 (by decide +kernel) (by decide +kernel)
theorem se_X11_wander : Cond.selects RX11 yX11_wander yX11_wander ∈ tblG := tg 1145 (by decide +kernel) (by decide +kernel)
theorem cd_X11_wander : Cond.code yX11_wander cX11_wander 9 (some .int) ∈ tblG := tg 1146 (by decide +kernel) (by decide +kernel)
theorem gW_X11_wander : GoodIn tblG (wsG yX11_wander cX11_wander 9 (some .int)) := tgi cd_X11_wander
theorem gV_L_175 : GoodIn tblG (wsV RL 175 RX11 yX11_wander (wsG yX11_wander cX11_wander 9 (some .int))) := tgV ml_L_175 im_X11_wander se_X11_wander ini_X11 gW_X11_wander
theorem hv_X11_wander : yX11_wander.cls = RX11 ∧ yX11_wander.cls ≠ "java/lang/invoke/MethodHandle" ∧ yX11_wander.cls ≠ "java/lang/invoke/VarHandle" ∧ (parseMethodDescriptor yX11_wander.desc).map (fun d => d.parameters.length) = some 2 := by decide +kernel
theorem ml_L_179 : Cond.methodLink RL 179 yX11_drawn ∈ tblG := tg 1152 (by decide +kernel) (by decide +kernel)
theorem im_X11_drawn : Cond.instanceMethod yX11_drawn ∈ tblG := tg 1153 (by decide +kernel) (by decide +kernel)
theorem se_X11_drawn : Cond.selects RX11 yX11_drawn yX11_drawn ∈ tblG := tg 1154 (by decide +kernel) (by decide +kernel)
theorem cd_X11_drawn : Cond.code yX11_drawn cX11_drawn 2 (some .int) ∈ tblG := tg 1155 (by decide +kernel) (by decide +kernel)
theorem gW_X11_drawn : GoodIn tblG (wsG yX11_drawn cX11_drawn 2 (some .int)) := tgi cd_X11_drawn
theorem gV_L_179 : GoodIn tblG (wsV RL 179 RX11 yX11_drawn (wsG yX11_drawn cX11_drawn 2 (some .int))) := tgV ml_L_179 im_X11_drawn se_X11_drawn ini_X11 gW_X11_drawn
theorem hv_X11_drawn : yX11_drawn.cls = RX11 ∧ yX11_drawn.cls ≠ "java/lang/invoke/MethodHandle" ∧ yX11_drawn.cls ≠ "java/lang/invoke/VarHandle" ∧ (parseMethodDescriptor yX11_drawn.desc).map (fun d => d.parameters.length) = some 1 := by decide +kernel
theorem ml_L_183 : Cond.methodLink RL 183 yX11_image ∈ tblG := tg 1156 (by decide +kernel) (by decide +kernel)
theorem im_X11_image : Cond.instanceMethod yX11_image ∈ tblG := tg 1157 (by decide +kernel) (by decide +kernel)
theorem se_X11_image : Cond.selects RX11 yX11_image yX11_image ∈ tblG := tg 1158 (by decide +kernel) (by decide +kernel)
theorem cd_X11_image : Cond.code yX11_image cX11_image 2 (some .int) ∈ tblG := tg 1159 (by decide +kernel) (by decide +kernel)
theorem gW_X11_image : GoodIn tblG (wsG yX11_image cX11_image 2 (some .int)) := tgi cd_X11_image
theorem gV_L_183 : GoodIn tblG (wsV RL 183 RX11 yX11_image (wsG yX11_image cX11_image 2 (some .int))) := tgV ml_L_183 im_X11_image se_X11_image ini_X11 gW_X11_image
theorem hv_X11_image : yX11_image.cls = RX11 ∧ yX11_image.cls ≠ "java/lang/invoke/MethodHandle" ∧ yX11_image.cls ≠ "java/lang/invoke/VarHandle" ∧ (parseMethodDescriptor yX11_image.desc).map (fun d => d.parameters.length) = some 1 := by decide +kernel
theorem ml_L_187 : Cond.methodLink RL 187 yX11_back ∈ tblG := tg 1172 (by decide +kernel) (by decide +kernel)
theorem im_X11_back : Cond.instanceMethod yX11_back ∈ tblG := tg 1173 (by decide +kernel) (by decide +kernel)
theorem se_X11_back : Cond.selects RX11 yX11_back yX11_back ∈ tblG := tg 1174 (by decide +kernel) (by decide +kernel)
theorem cd_X11_back : Cond.code yX11_back cX11_back 2 (some .int) ∈ tblG := tg 1175 (by decide +kernel) (by decide +kernel)
theorem gW_X11_back : GoodIn tblG (wsG yX11_back cX11_back 2 (some .int)) := tgi cd_X11_back
theorem gV_L_187 : GoodIn tblG (wsV RL 187 RX11 yX11_back (wsG yX11_back cX11_back 2 (some .int))) := tgV ml_L_187 im_X11_back se_X11_back ini_X11 gW_X11_back
theorem hv_X11_back : yX11_back.cls = RX11 ∧ yX11_back.cls ≠ "java/lang/invoke/MethodHandle" ∧ yX11_back.cls ≠ "java/lang/invoke/VarHandle" ∧ (parseMethodDescriptor yX11_back.desc).map (fun d => d.parameters.length) = some 1 := by decide +kernel
theorem ml_L_191 : Cond.methodLink RL 191 yX11_count ∈ tblG := tg 1176 (by decide +kernel) (by decide +kernel)
theorem im_X11_count : Cond.instanceMethod yX11_count ∈ tblG := tg 1177 (by decide +kernel) (by decide +kernel)
theorem se_X11_count : Cond.selects RX11 yX11_count yX11_count ∈ tblG := tg 1178 (by decide +kernel) (by decide +kernel)
theorem cd_X11_count : Cond.code yX11_count cX11_count 2 (some .int) ∈ tblG := tg 1179 (by decide +kernel) (by decide +kernel)
theorem gW_X11_count : GoodIn tblG (wsG yX11_count cX11_count 2 (some .int)) := tgi cd_X11_count
theorem gV_L_191 : GoodIn tblG (wsV RL 191 RX11 yX11_count (wsG yX11_count cX11_count 2 (some .int))) := tgV ml_L_191 im_X11_count se_X11_count ini_X11 gW_X11_count
theorem hv_X11_count : yX11_count.cls = RX11 ∧ yX11_count.cls ≠ "java/lang/invoke/MethodHandle" ∧ yX11_count.cls ≠ "java/lang/invoke/VarHandle" ∧ (parseMethodDescriptor yX11_count.desc).map (fun d => d.parameters.length) = some 1 := by decide +kernel
theorem ml_L_195 : Cond.methodLink RL 195 yX11_status ∈ tblG := tg 1180 (by decide +kernel) (by decide +kernel)
theorem im_X11_status : Cond.instanceMethod yX11_status ∈ tblG := tg 1181 (by decide +kernel) (by decide +kernel)
theorem se_X11_status : Cond.selects RX11 yX11_status yX11_status ∈ tblG := tg 1182 (by decide +kernel) (by decide +kernel)
theorem cd_X11_status : Cond.code yX11_status cX11_status 1 (some .int) ∈ tblG := tg 1183 (by decide +kernel) (by decide +kernel)
theorem gW_X11_status : GoodIn tblG (wsG yX11_status cX11_status 1 (some .int)) := tgi cd_X11_status
theorem gV_L_195 : GoodIn tblG (wsV RL 195 RX11 yX11_status (wsG yX11_status cX11_status 1 (some .int))) := tgV ml_L_195 im_X11_status se_X11_status ini_X11 gW_X11_status
theorem hv_X11_status : yX11_status.cls = RX11 ∧ yX11_status.cls ≠ "java/lang/invoke/MethodHandle" ∧ yX11_status.cls ≠ "java/lang/invoke/VarHandle" ∧ (parseMethodDescriptor yX11_status.desc).map (fun d => d.parameters.length) = some 0 := by decide +kernel
theorem ml_L_17 : Cond.methodLink RL 17 yX12_wall ∈ tblG := tg 1375 (by decide +kernel) (by decide +kernel)
theorem im_X12_wall : Cond.instanceMethod yX12_wall ∈ tblG := tg 1376 (by decide +kernel) (by decide +kernel)
theorem se_X12_wall : Cond.selects RX12 yX12_wall yX12_wall ∈ tblG := tg 1377 (by decide +kernel) (by decide +kernel)
theorem cd_X12_wall : Cond.code yX12_wall cX12_wall 3 (some .int) ∈ tblG := tg 1378 (by decide +kernel) (by decide +kernel)
theorem gW_X12_wall : GoodIn tblG (wsG yX12_wall cX12_wall 3 (some .int)) := tgi cd_X12_wall
theorem gV_L_17 : GoodIn tblG (wsV RL 17 RX12 yX12_wall (wsG yX12_wall cX12_wall 3 (some .int))) := tgV ml_L_17 im_X12_wall se_X12_wall ini_X12 gW_X12_wall
theorem hv_X12_wall : yX12_wall.cls = RX12 ∧ yX12_wall.cls ≠ "java/lang/invoke/MethodHandle" ∧ yX12_wall.cls ≠ "java/lang/invoke/VarHandle" ∧ (parseMethodDescriptor yX12_wall.desc).map (fun d => d.parameters.length) = some 2 := by decide +kernel
theorem ml_L_22 : Cond.methodLink RL 22 yX12_glass ∈ tblG := tg 1407 (by decide +kernel) (by decide +kernel)
theorem im_X12_glass : Cond.instanceMethod yX12_glass ∈ tblG := tg 1408 (by decide +kernel) (by decide +kernel)
theorem se_X12_glass : Cond.selects RX12 yX12_glass yX12_glass ∈ tblG := tg 1409 (by decide +kernel) (by decide +kernel)
theorem cd_X12_glass : Cond.code yX12_glass cX12_glass 7 (some .int) ∈ tblG := tg 1410 (by decide +kernel) (by decide +kernel)
theorem gW_X12_glass : GoodIn tblG (wsG yX12_glass cX12_glass 7 (some .int)) := tgi cd_X12_glass
theorem gV_L_22 : GoodIn tblG (wsV RL 22 RX12 yX12_glass (wsG yX12_glass cX12_glass 7 (some .int))) := tgV ml_L_22 im_X12_glass se_X12_glass ini_X12 gW_X12_glass
theorem hv_X12_glass : yX12_glass.cls = RX12 ∧ yX12_glass.cls ≠ "java/lang/invoke/MethodHandle" ∧ yX12_glass.cls ≠ "java/lang/invoke/VarHandle" ∧ (parseMethodDescriptor yX12_glass.desc).map (fun d => d.parameters.length) = some 4 := by decide +kernel
theorem ml_L_27 : Cond.methodLink RL 27 yX12_turn ∈ tblG := tg 1426 (by decide +kernel) (by decide +kernel)
theorem im_X12_turn : Cond.instanceMethod yX12_turn ∈ tblG := tg 1427 (by decide +kernel) (by decide +kernel)
theorem se_X12_turn : Cond.selects RX12 yX12_turn yX12_turn ∈ tblG := tg 1428 (by decide +kernel) (by decide +kernel)
theorem cd_X12_turn : Cond.code yX12_turn cX12_turn 4 (some .int) ∈ tblG := tg 1429 (by decide +kernel) (by decide +kernel)
theorem gW_X12_turn : GoodIn tblG (wsG yX12_turn cX12_turn 4 (some .int)) := tgi cd_X12_turn
theorem gV_L_27 : GoodIn tblG (wsV RL 27 RX12 yX12_turn (wsG yX12_turn cX12_turn 4 (some .int))) := tgV ml_L_27 im_X12_turn se_X12_turn ini_X12 gW_X12_turn
theorem hv_X12_turn : yX12_turn.cls = RX12 ∧ yX12_turn.cls ≠ "java/lang/invoke/MethodHandle" ∧ yX12_turn.cls ≠ "java/lang/invoke/VarHandle" ∧ (parseMethodDescriptor yX12_turn.desc).map (fun d => d.parameters.length) = some 3 := by decide +kernel
theorem ml_L_31 : Cond.methodLink RL 31 yX12_of ∈ tblG := tg 1434 (by decide +kernel) (by decide +kernel)
theorem im_X12_of : Cond.instanceMethod yX12_of ∈ tblG := tg 1435 (by decide +kernel) (by decide +kernel)
theorem se_X12_of : Cond.selects RX12 yX12_of yX12_of ∈ tblG := tg 1436 (by decide +kernel) (by decide +kernel)
theorem cd_X12_of : Cond.code yX12_of cX12_of 3 (some .int) ∈ tblG := tg 1437 (by decide +kernel) (by decide +kernel)
theorem gW_X12_of : GoodIn tblG (wsG yX12_of cX12_of 3 (some .int)) := tgi cd_X12_of
theorem gV_L_31 : GoodIn tblG (wsV RL 31 RX12 yX12_of (wsG yX12_of cX12_of 3 (some .int))) := tgV ml_L_31 im_X12_of se_X12_of ini_X12 gW_X12_of
theorem hv_X12_of : yX12_of.cls = RX12 ∧ yX12_of.cls ≠ "java/lang/invoke/MethodHandle" ∧ yX12_of.cls ≠ "java/lang/invoke/VarHandle" ∧ (parseMethodDescriptor yX12_of.desc).map (fun d => d.parameters.length) = some 2 := by decide +kernel
theorem ml_L_36 : Cond.methodLink RL 36 yX12_body ∈ tblG := tg 1439 (by decide +kernel) (by decide +kernel)
theorem im_X12_body : Cond.instanceMethod yX12_body ∈ tblG := tg 1440 (by decide +kernel) (by decide +kernel)
theorem se_X12_body : Cond.selects RX12 yX12_body yX12_body ∈ tblG := tg 1441 (by decide +kernel) (by decide +kernel)
theorem cd_X12_body : Cond.code yX12_body cX12_body 3 (some .int) ∈ tblG := tg 1442 (by decide +kernel) (by decide +kernel)
theorem gW_X12_body : GoodIn tblG (wsG yX12_body cX12_body 3 (some .int)) := tgi cd_X12_body
theorem gV_L_36 : GoodIn tblG (wsV RL 36 RX12 yX12_body (wsG yX12_body cX12_body 3 (some .int))) := tgV ml_L_36 im_X12_body se_X12_body ini_X12 gW_X12_body
theorem hv_X12_body : yX12_body.cls = RX12 ∧ yX12_body.cls ≠ "java/lang/invoke/MethodHandle" ∧ yX12_body.cls ≠ "java/lang/invoke/VarHandle" ∧ (parseMethodDescriptor yX12_body.desc).map (fun d => d.parameters.length) = some 0 := by decide +kernel
theorem ml_L_40 : Cond.methodLink RL 40 yX12_stay ∈ tblG := tg 1443 (by decide +kernel) (by decide +kernel)
theorem im_X12_stay : Cond.instanceMethod yX12_stay ∈ tblG := tg 1444 (by decide +kernel) (by decide +kernel)
theorem se_X12_stay : Cond.selects RX12 yX12_stay yX12_stay ∈ tblG := tg 1445 (by decide +kernel) (by decide +kernel)
theorem cd_X12_stay : Cond.code yX12_stay cX12_stay 5 (some .int) ∈ tblG := tg 1446 (by decide +kernel) (by decide +kernel)
theorem gW_X12_stay : GoodIn tblG (wsG yX12_stay cX12_stay 5 (some .int)) := tgi cd_X12_stay
theorem gV_L_40 : GoodIn tblG (wsV RL 40 RX12 yX12_stay (wsG yX12_stay cX12_stay 5 (some .int))) := tgV ml_L_40 im_X12_stay se_X12_stay ini_X12 gW_X12_stay
theorem hv_X12_stay : yX12_stay.cls = RX12 ∧ yX12_stay.cls ≠ "java/lang/invoke/MethodHandle" ∧ yX12_stay.cls ≠ "java/lang/invoke/VarHandle" ∧ (parseMethodDescriptor yX12_stay.desc).map (fun d => d.parameters.length) = some 4 := by decide +kernel
theorem ml_L_44 : Cond.methodLink RL 44 yX12_where ∈ tblG := tg 1459 (by decide +kernel) (by decide +kernel)
theorem im_X12_where : Cond.instanceMethod yX12_where ∈ tblG := tg 1460 (by decide +kernel) (by decide +kernel)
theorem se_X12_where : Cond.selects RX12 yX12_where yX12_where ∈ tblG := tg 1461 (by decide +kernel) (by decide +kernel)
theorem cd_X12_where : Cond.code yX12_where cX12_where 3 (some .int) ∈ tblG := tg 1462 (by decide +kernel) (by decide +kernel)
theorem gW_X12_where : GoodIn tblG (wsG yX12_where cX12_where 3 (some .int)) := tgi cd_X12_where
theorem gV_L_44 : GoodIn tblG (wsV RL 44 RX12 yX12_where (wsG yX12_where cX12_where 3 (some .int))) := tgV ml_L_44 im_X12_where se_X12_where ini_X12 gW_X12_where
theorem hv_X12_where : yX12_where.cls = RX12 ∧ yX12_where.cls ≠ "java/lang/invoke/MethodHandle" ∧ yX12_where.cls ≠ "java/lang/invoke/VarHandle" ∧ (parseMethodDescriptor yX12_where.desc).map (fun d => d.parameters.length) = some 2 := by decide +kernel
theorem ml_L_49 : Cond.methodLink RL 49 yX12_least ∈ tblG := tg 1467 (by decide +kernel) (by decide +kernel)
theorem im_X12_least : Cond.instanceMethod yX12_least ∈ tblG := tg 1468 (by decide +kernel) (by decide +kernel)
theorem se_X12_least : Cond.selects RX12 yX12_least yX12_least ∈ tblG := tg 1469 (by decide +kernel) (by decide +kernel)
theorem cd_X12_least : Cond.code yX12_least cX12_least 2 (some .int) ∈ tblG := tg 1470 (by decide +kernel) (by decide +kernel)
theorem gW_X12_least : GoodIn tblG (wsG yX12_least cX12_least 2 (some .int)) := tgi cd_X12_least
theorem gV_L_49 : GoodIn tblG (wsV RL 49 RX12 yX12_least (wsG yX12_least cX12_least 2 (some .int))) := tgV ml_L_49 im_X12_least se_X12_least ini_X12 gW_X12_least
theorem hv_X12_least : yX12_least.cls = RX12 ∧ yX12_least.cls ≠ "java/lang/invoke/MethodHandle" ∧ yX12_least.cls ≠ "java/lang/invoke/VarHandle" ∧ (parseMethodDescriptor yX12_least.desc).map (fun d => d.parameters.length) = some 1 := by decide +kernel
theorem ml_L_54 : Cond.methodLink RL 54 yX12_feed ∈ tblG := tg 1480 (by decide +kernel) (by decide +kernel)
theorem im_X12_feed : Cond.instanceMethod yX12_feed ∈ tblG := tg 1481 (by decide +kernel) (by decide +kernel)
theorem se_X12_feed : Cond.selects RX12 yX12_feed yX12_feed ∈ tblG := tg 1482 (by decide +kernel) (by decide +kernel)
theorem cd_X12_feed : Cond.code yX12_feed cX12_feed 6 (some .int) ∈ tblG := tg 1483 (by decide +kernel) (by decide +kernel)
theorem gW_X12_feed : GoodIn tblG (wsG yX12_feed cX12_feed 6 (some .int)) := tgi cd_X12_feed
theorem gV_L_54 : GoodIn tblG (wsV RL 54 RX12 yX12_feed (wsG yX12_feed cX12_feed 6 (some .int))) := tgV ml_L_54 im_X12_feed se_X12_feed ini_X12 gW_X12_feed
theorem hv_X12_feed : yX12_feed.cls = RX12 ∧ yX12_feed.cls ≠ "java/lang/invoke/MethodHandle" ∧ yX12_feed.cls ≠ "java/lang/invoke/VarHandle" ∧ (parseMethodDescriptor yX12_feed.desc).map (fun d => d.parameters.length) = some 5 := by decide +kernel
theorem ml_L_58 : Cond.methodLink RL 58 yX12_end ∈ tblG := tg 1488 (by decide +kernel) (by decide +kernel)
theorem im_X12_end : Cond.instanceMethod yX12_end ∈ tblG := tg 1489 (by decide +kernel) (by decide +kernel)
theorem se_X12_end : Cond.selects RX12 yX12_end yX12_end ∈ tblG := tg 1490 (by decide +kernel) (by decide +kernel)
theorem cd_X12_end : Cond.code yX12_end cX12_end 2 (some .int) ∈ tblG := tg 1491 (by decide +kernel) (by decide +kernel)
theorem gW_X12_end : GoodIn tblG (wsG yX12_end cX12_end 2 (some .int)) := tgi cd_X12_end
theorem gV_L_58 : GoodIn tblG (wsV RL 58 RX12 yX12_end (wsG yX12_end cX12_end 2 (some .int))) := tgV ml_L_58 im_X12_end se_X12_end ini_X12 gW_X12_end
theorem hv_X12_end : yX12_end.cls = RX12 ∧ yX12_end.cls ≠ "java/lang/invoke/MethodHandle" ∧ yX12_end.cls ≠ "java/lang/invoke/VarHandle" ∧ (parseMethodDescriptor yX12_end.desc).map (fun d => d.parameters.length) = some 1 := by decide +kernel
theorem ml_L_62 : Cond.methodLink RL 62 yX12_row ∈ tblG := tg 1472 (by decide +kernel) (by decide +kernel)
theorem im_X12_row : Cond.instanceMethod yX12_row ∈ tblG := tg 1473 (by decide +kernel) (by decide +kernel)
theorem se_X12_row : Cond.selects RX12 yX12_row yX12_row ∈ tblG := tg 1474 (by decide +kernel) (by decide +kernel)
theorem cd_X12_row : Cond.code yX12_row cX12_row 5 (some .int) ∈ tblG := tg 1475 (by decide +kernel) (by decide +kernel)
theorem gW_X12_row : GoodIn tblG (wsG yX12_row cX12_row 5 (some .int)) := tgi cd_X12_row
theorem gV_L_62 : GoodIn tblG (wsV RL 62 RX12 yX12_row (wsG yX12_row cX12_row 5 (some .int))) := tgV ml_L_62 im_X12_row se_X12_row ini_X12 gW_X12_row
theorem hv_X12_row : yX12_row.cls = RX12 ∧ yX12_row.cls ≠ "java/lang/invoke/MethodHandle" ∧ yX12_row.cls ≠ "java/lang/invoke/VarHandle" ∧ (parseMethodDescriptor yX12_row.desc).map (fun d => d.parameters.length) = some 0 := by decide +kernel
theorem ml_L_66 : Cond.methodLink RL 66 yX12_faded ∈ tblG := tg 1476 (by decide +kernel) (by decide +kernel)
theorem im_X12_faded : Cond.instanceMethod yX12_faded ∈ tblG := tg 1477 (by decide +kernel) (by decide +kernel)
theorem se_X12_faded : Cond.selects RX12 yX12_faded yX12_faded ∈ tblG := tg 1478 (by decide +kernel) (by decide +kernel)
theorem cd_X12_faded : Cond.code yX12_faded cX12_faded 1 (some .int) ∈ tblG := tg 1479 (by decide +kernel) (by decide +kernel)
theorem gW_X12_faded : GoodIn tblG (wsG yX12_faded cX12_faded 1 (some .int)) := tgi cd_X12_faded
theorem gV_L_66 : GoodIn tblG (wsV RL 66 RX12 yX12_faded (wsG yX12_faded cX12_faded 1 (some .int))) := tgV ml_L_66 im_X12_faded se_X12_faded ini_X12 gW_X12_faded
theorem hv_X12_faded : yX12_faded.cls = RX12 ∧ yX12_faded.cls ≠ "java/lang/invoke/MethodHandle" ∧ yX12_faded.cls ≠ "java/lang/invoke/VarHandle" ∧ (parseMethodDescriptor yX12_faded.desc).map (fun d => d.parameters.length) = some 0 := by decide +kernel
theorem ml_L_70 : Cond.methodLink RL 70 yX12_law ∈ tblG := tg 1496 (by decide +kernel) (by decide +kernel)
theorem im_X12_law : Cond.instanceMethod yX12_law ∈ tblG := tg 1497 (by decide +kernel) (by decide +kernel)
theorem se_X12_law : Cond.selects RX12 yX12_law yX12_law ∈ tblG := tg 1498 (by decide +kernel) (by decide +kernel)
theorem cd_X12_law : Cond.code yX12_law cX12_law 3 (some .int) ∈ tblG := tg 1499 (by decide +kernel) (by decide +kernel)
theorem gW_X12_law : GoodIn tblG (wsG yX12_law cX12_law 3 (some .int)) := tgi cd_X12_law
theorem gV_L_70 : GoodIn tblG (wsV RL 70 RX12 yX12_law (wsG yX12_law cX12_law 3 (some .int))) := tgV ml_L_70 im_X12_law se_X12_law ini_X12 gW_X12_law
theorem hv_X12_law : yX12_law.cls = RX12 ∧ yX12_law.cls ≠ "java/lang/invoke/MethodHandle" ∧ yX12_law.cls ≠ "java/lang/invoke/VarHandle" ∧ (parseMethodDescriptor yX12_law.desc).map (fun d => d.parameters.length) = some 0 := by decide +kernel
theorem ml_L_74 : Cond.methodLink RL 74 yX12_fault ∈ tblG := tg 1492 (by decide +kernel) (by decide +kernel)
theorem im_X12_fault : Cond.instanceMethod yX12_fault ∈ tblG := tg 1493 (by decide +kernel) (by decide +kernel)
theorem se_X12_fault : Cond.selects RX12 yX12_fault yX12_fault ∈ tblG := tg 1494 (by decide +kernel) (by decide +kernel)
theorem cd_X12_fault : Cond.code yX12_fault cX12_fault 1 (some .int) ∈ tblG := tg 1495 (by decide +kernel) (by decide +kernel)
theorem gW_X12_fault : GoodIn tblG (wsG yX12_fault cX12_fault 1 (some .int)) := tgi cd_X12_fault
theorem gV_L_74 : GoodIn tblG (wsV RL 74 RX12 yX12_fault (wsG yX12_fault cX12_fault 1 (some .int))) := tgV ml_L_74 im_X12_fault se_X12_fault ini_X12 gW_X12_fault
theorem hv_X12_fault : yX12_fault.cls = RX12 ∧ yX12_fault.cls ≠ "java/lang/invoke/MethodHandle" ∧ yX12_fault.cls ≠ "java/lang/invoke/VarHandle" ∧ (parseMethodDescriptor yX12_fault.desc).map (fun d => d.parameters.length) = some 0 := by decide +kernel
theorem ml_L_78 : Cond.methodLink RL 78 yX12_force ∈ tblG := tg 1595 (by decide +kernel) (by decide +kernel)
theorem im_X12_force : Cond.instanceMethod yX12_force ∈ tblG := tg 1596 (by decide +kernel) (by decide +kernel)
theorem se_X12_force : Cond.selects RX12 yX12_force yX12_force ∈ tblG := tg 1597 (by decide +kernel) (by decide +kernel)
theorem cd_X12_force : Cond.code yX12_force cX12_force 2 (some .int) ∈ tblG := tg 1598 (by decide +kernel) (by decide +kernel)
theorem gW_X12_force : GoodIn tblG (wsG yX12_force cX12_force 2 (some .int)) := tgi cd_X12_force
theorem gV_L_78 : GoodIn tblG (wsV RL 78 RX12 yX12_force (wsG yX12_force cX12_force 2 (some .int))) := tgV ml_L_78 im_X12_force se_X12_force ini_X12 gW_X12_force
theorem hv_X12_force : yX12_force.cls = RX12 ∧ yX12_force.cls ≠ "java/lang/invoke/MethodHandle" ∧ yX12_force.cls ≠ "java/lang/invoke/VarHandle" ∧ (parseMethodDescriptor yX12_force.desc).map (fun d => d.parameters.length) = some 1 := by decide +kernel
theorem ml_L_82 : Cond.methodLink RL 82 yX12_look ∈ tblG := tg 1599 (by decide +kernel) (by decide +kernel)
theorem im_X12_look : Cond.instanceMethod yX12_look ∈ tblG := tg 1600 (by decide +kernel) (by decide +kernel)
theorem se_X12_look : Cond.selects RX12 yX12_look yX12_look ∈ tblG := tg 1601 (by decide +kernel) (by decide +kernel)
theorem cd_X12_look : Cond.code yX12_look cX12_look 5 (some .int) ∈ tblG := tg 1602 (by decide +kernel) (by decide +kernel)
theorem gW_X12_look : GoodIn tblG (wsG yX12_look cX12_look 5 (some .int)) := tgi cd_X12_look
theorem gV_L_82 : GoodIn tblG (wsV RL 82 RX12 yX12_look (wsG yX12_look cX12_look 5 (some .int))) := tgV ml_L_82 im_X12_look se_X12_look ini_X12 gW_X12_look
theorem hv_X12_look : yX12_look.cls = RX12 ∧ yX12_look.cls ≠ "java/lang/invoke/MethodHandle" ∧ yX12_look.cls ≠ "java/lang/invoke/VarHandle" ∧ (parseMethodDescriptor yX12_look.desc).map (fun d => d.parameters.length) = some 4 := by decide +kernel
theorem ml_L_86 : Cond.methodLink RL 86 yX12_point ∈ tblG := tg 1651 (by decide +kernel) (by decide +kernel)
theorem im_X12_point : Cond.instanceMethod yX12_point ∈ tblG := tg 1652 (by decide +kernel) (by decide +kernel)
theorem se_X12_point : Cond.selects RX12 yX12_point yX12_point ∈ tblG := tg 1653 (by decide +kernel) (by decide +kernel)
theorem cd_X12_point : Cond.code yX12_point cX12_point 5 (some .int) ∈ tblG := tg 1654 (by decide +kernel) (by decide +kernel)
theorem gW_X12_point : GoodIn tblG (wsG yX12_point cX12_point 5 (some .int)) := tgi cd_X12_point
theorem gV_L_86 : GoodIn tblG (wsV RL 86 RX12 yX12_point (wsG yX12_point cX12_point 5 (some .int))) := tgV ml_L_86 im_X12_point se_X12_point ini_X12 gW_X12_point
theorem hv_X12_point : yX12_point.cls = RX12 ∧ yX12_point.cls ≠ "java/lang/invoke/MethodHandle" ∧ yX12_point.cls ≠ "java/lang/invoke/VarHandle" ∧ (parseMethodDescriptor yX12_point.desc).map (fun d => d.parameters.length) = some 4 := by decide +kernel
theorem ml_L_90 : Cond.methodLink RL 90 yX12_sees ∈ tblG := tg 1655 (by decide +kernel) (by decide +kernel)
theorem im_X12_sees : Cond.instanceMethod yX12_sees ∈ tblG := tg 1656 (by decide +kernel) (by decide +kernel)
theorem se_X12_sees : Cond.selects RX12 yX12_sees yX12_sees ∈ tblG := tg 1657 (by decide +kernel) (by decide +kernel)
theorem cd_X12_sees : Cond.code yX12_sees cX12_sees 3 (some .int) ∈ tblG := tg 1658 (by decide +kernel) (by decide +kernel)
theorem gW_X12_sees : GoodIn tblG (wsG yX12_sees cX12_sees 3 (some .int)) := tgi cd_X12_sees
theorem gV_L_90 : GoodIn tblG (wsV RL 90 RX12 yX12_sees (wsG yX12_sees cX12_sees 3 (some .int))) := tgV ml_L_90 im_X12_sees se_X12_sees ini_X12 gW_X12_sees
theorem hv_X12_sees : yX12_sees.cls = RX12 ∧ yX12_sees.cls ≠ "java/lang/invoke/MethodHandle" ∧ yX12_sees.cls ≠ "java/lang/invoke/VarHandle" ∧ (parseMethodDescriptor yX12_sees.desc).map (fun d => d.parameters.length) = some 2 := by decide +kernel
theorem ml_L_94 : Cond.methodLink RL 94 yX12_late ∈ tblG := tg 1663 (by decide +kernel) (by decide +kernel)
theorem im_X12_late : Cond.instanceMethod yX12_late ∈ tblG := tg 1664 (by decide +kernel) (by decide +kernel)
theorem se_X12_late : Cond.selects RX12 yX12_late yX12_late ∈ tblG := tg 1665 (by decide +kernel) (by decide +kernel)
theorem cd_X12_late : Cond.code yX12_late cX12_late 4 (some .int) ∈ tblG := tg 1666 (by decide +kernel) (by decide +kernel)
theorem gW_X12_late : GoodIn tblG (wsG yX12_late cX12_late 4 (some .int)) := tgi cd_X12_late
theorem gV_L_94 : GoodIn tblG (wsV RL 94 RX12 yX12_late (wsG yX12_late cX12_late 4 (some .int))) := tgV ml_L_94 im_X12_late se_X12_late ini_X12 gW_X12_late
theorem hv_X12_late : yX12_late.cls = RX12 ∧ yX12_late.cls ≠ "java/lang/invoke/MethodHandle" ∧ yX12_late.cls ≠ "java/lang/invoke/VarHandle" ∧ (parseMethodDescriptor yX12_late.desc).map (fun d => d.parameters.length) = some 3 := by decide +kernel
theorem ml_L_98 : Cond.methodLink RL 98 yX12_first ∈ tblG := tg 1671 (by decide +kernel) (by decide +kernel)
theorem im_X12_first : Cond.instanceMethod yX12_first ∈ tblG := tg 1672 (by decide +kernel) (by decide +kernel)
theorem se_X12_first : Cond.selects RX12 yX12_first yX12_first ∈ tblG := tg 1673 (by decide +kernel) (by decide +kernel)
theorem cd_X12_first : Cond.code yX12_first cX12_first 6 (some .int) ∈ tblG := tg 1674 (by decide +kernel) (by decide +kernel)
theorem gW_X12_first : GoodIn tblG (wsG yX12_first cX12_first 6 (some .int)) := tgi cd_X12_first
theorem gV_L_98 : GoodIn tblG (wsV RL 98 RX12 yX12_first (wsG yX12_first cX12_first 6 (some .int))) := tgV ml_L_98 im_X12_first se_X12_first ini_X12 gW_X12_first
theorem hv_X12_first : yX12_first.cls = RX12 ∧ yX12_first.cls ≠ "java/lang/invoke/MethodHandle" ∧ yX12_first.cls ≠ "java/lang/invoke/VarHandle" ∧ (parseMethodDescriptor yX12_first.desc).map (fun d => d.parameters.length) = some 2 := by decide +kernel
theorem ml_L_102 : Cond.methodLink RL 102 yX12_lit ∈ tblG := tg 1676 (by decide +kernel) (by decide +kernel)
theorem im_X12_lit : Cond.instanceMethod yX12_lit ∈ tblG := tg 1677 (by decide +kernel) (by decide +kernel)
theorem se_X12_lit : Cond.selects RX12 yX12_lit yX12_lit ∈ tblG := tg 1678 (by decide +kernel) (by decide +kernel)
theorem cd_X12_lit : Cond.code yX12_lit cX12_lit 8 (some .int) ∈ tblG := tg 1679 (by decide +kernel) (by decide +kernel)
theorem gW_X12_lit : GoodIn tblG (wsG yX12_lit cX12_lit 8 (some .int)) := tgi cd_X12_lit
theorem gV_L_102 : GoodIn tblG (wsV RL 102 RX12 yX12_lit (wsG yX12_lit cX12_lit 8 (some .int))) := tgV ml_L_102 im_X12_lit se_X12_lit ini_X12 gW_X12_lit
theorem hv_X12_lit : yX12_lit.cls = RX12 ∧ yX12_lit.cls ≠ "java/lang/invoke/MethodHandle" ∧ yX12_lit.cls ≠ "java/lang/invoke/VarHandle" ∧ (parseMethodDescriptor yX12_lit.desc).map (fun d => d.parameters.length) = some 3 := by decide +kernel
theorem ml_L_106 : Cond.methodLink RL 106 yX12_unseen ∈ tblG := tg 1688 (by decide +kernel) (by decide +kernel)
theorem im_X12_unseen : Cond.instanceMethod yX12_unseen ∈ tblG := tg 1689 (by decide +kernel) (by decide +kernel)
theorem se_X12_unseen : Cond.selects RX12 yX12_unseen yX12_unseen ∈ tblG := tg 1690 (by decide +kernel) (by decide +kernel)
theorem cd_X12_unseen : Cond.code yX12_unseen cX12_unseen 4 (some .int) ∈ tblG := tg 1691 (by decide +kernel) (by decide +kernel)
theorem gW_X12_unseen : GoodIn tblG (wsG yX12_unseen cX12_unseen 4 (some .int)) := tgi cd_X12_unseen
theorem gV_L_106 : GoodIn tblG (wsV RL 106 RX12 yX12_unseen (wsG yX12_unseen cX12_unseen 4 (some .int))) := tgV ml_L_106 im_X12_unseen se_X12_unseen ini_X12 gW_X12_unseen
theorem hv_X12_unseen : yX12_unseen.cls = RX12 ∧ yX12_unseen.cls ≠ "java/lang/invoke/MethodHandle" ∧ yX12_unseen.cls ≠ "java/lang/invoke/VarHandle" ∧ (parseMethodDescriptor yX12_unseen.desc).map (fun d => d.parameters.length) = some 1 := by decide +kernel
theorem ml_L_110 : Cond.methodLink RL 110 yX12_sighting ∈ tblG := tg 1696 (by decide +kernel) (by decide +kernel)
theorem im_X12_sighting : Cond.instanceMethod yX12_sighting ∈ tblG := tg 1697 (by decide +kernel) (by decide +kernel)
theorem se_X12_sighting : Cond.selects RX12 yX12_sighting yX12_sighting ∈ tblG := tg 1698 (by decide +kernel) (by decide +kernel)
theorem cd_X12_sighting : Cond.code yX12_sighting cX12_sighting 8 (some .int) ∈ tblG := tg 1699 (by decide +kernel) (by decide +kernel)
theorem gW_X12_sighting : GoodIn tblG (wsG yX12_sighting cX12_sighting 8 (some .int)) := tgi cd_X12_sighting
theorem gV_L_110 : GoodIn tblG (wsV RL 110 RX12 yX12_sighting (wsG yX12_sighting cX12_sighting 8 (some .int))) := tgV ml_L_110 im_X12_sighting se_X12_sighting ini_X12 gW_X12_sighting
theorem hv_X12_sighting : yX12_sighting.cls = RX12 ∧ yX12_sighting.cls ≠ "java/lang/invoke/MethodHandle" ∧ yX12_sighting.cls ≠ "java/lang/invoke/VarHandle" ∧ (parseMethodDescriptor yX12_sighting.desc).map (fun d => d.parameters.length) = some 4 := by decide +kernel
theorem ml_L_114 : Cond.methodLink RL 114 yX12_drop ∈ tblG := tg 1700 (by decide +kernel) (by decide +kernel)
theorem im_X12_drop : Cond.instanceMethod yX12_drop ∈ tblG := tg 1701 (by decide +kernel) (by decide +kernel)
theorem se_X12_drop : Cond.selects RX12 yX12_drop yX12_drop ∈ tblG := tg 1702 (by decide +kernel) (by decide +kernel)
theorem cd_X12_drop : Cond.code yX12_drop cX12_drop 3 (some .int) ∈ tblG := tg 1703 (by decide +kernel) (by decide +kernel)
theorem gW_X12_drop : GoodIn tblG (wsG yX12_drop cX12_drop 3 (some .int)) := tgi cd_X12_drop
theorem gV_L_114 : GoodIn tblG (wsV RL 114 RX12 yX12_drop (wsG yX12_drop cX12_drop 3 (some .int))) := tgV ml_L_114 im_X12_drop se_X12_drop ini_X12 gW_X12_drop
theorem hv_X12_drop : yX12_drop.cls = RX12 ∧ yX12_drop.cls ≠ "java/lang/invoke/MethodHandle" ∧ yX12_drop.cls ≠ "java/lang/invoke/VarHandle" ∧ (parseMethodDescriptor yX12_drop.desc).map (fun d => d.parameters.length) = some 1 := by decide +kernel
theorem ml_L_118 : Cond.methodLink RL 118 yX12_start ∈ tblG := tg 1704 (by decide +kernel) (by decide +kernel)
theorem im_X12_start : Cond.instanceMethod yX12_start ∈ tblG := tg 1705 (by decide +kernel) (by decide +kernel)
theorem se_X12_start : Cond.selects RX12 yX12_start yX12_start ∈ tblG := tg 1706 (by decide +kernel) (by decide +kernel)
theorem cd_X12_start : Cond.code yX12_start cX12_start 2 (some .int) ∈ tblG := tg 1707 (by decide +kernel) (by decide +kernel)
theorem gW_X12_start : GoodIn tblG (wsG yX12_start cX12_start 2 (some .int)) := tgi cd_X12_start
theorem gV_L_118 : GoodIn tblG (wsV RL 118 RX12 yX12_start (wsG yX12_start cX12_start 2 (some .int))) := tgV ml_L_118 im_X12_start se_X12_start ini_X12 gW_X12_start
theorem hv_X12_start : yX12_start.cls = RX12 ∧ yX12_start.cls ≠ "java/lang/invoke/MethodHandle" ∧ yX12_start.cls ≠ "java/lang/invoke/VarHandle" ∧ (parseMethodDescriptor yX12_start.desc).map (fun d => d.parameters.length) = some 1 := by decide +kernel
theorem ml_L_123 : Cond.methodLink RL 123 yX12_fits_ ∈ tblG := tg 1708 (by decide +kernel) (by decide +kernel)
theorem im_X12_fits_ : Cond.instanceMethod yX12_fits_ ∈ tblG := tg 1709 (by decide +kernel) (by decide +kernel)
theorem se_X12_fits_ : Cond.selects RX12 yX12_fits_ yX12_fits_ ∈ tblG := tg 1710 (by decide +kernel) (by decide +kernel)
theorem cd_X12_fits_ : Cond.code yX12_fits_ cX12_fits_ 1 (some .long) ∈ tblG := tg 1711 (by decide +kernel) (by decide +kernel)
theorem gW_X12_fits_ : GoodIn tblG (wsG yX12_fits_ cX12_fits_ 1 (some .long)) := tgi cd_X12_fits_
theorem gV_L_123 : GoodIn tblG (wsV RL 123 RX12 yX12_fits_ (wsG yX12_fits_ cX12_fits_ 1 (some .long))) := tgV ml_L_123 im_X12_fits_ se_X12_fits_ ini_X12 gW_X12_fits_
theorem hv_X12_fits_ : yX12_fits_.cls = RX12 ∧ yX12_fits_.cls ≠ "java/lang/invoke/MethodHandle" ∧ yX12_fits_.cls ≠ "java/lang/invoke/VarHandle" ∧ (parseMethodDescriptor yX12_fits_.desc).map (fun d => d.parameters.length) = some 0 := by decide +kernel
theorem ml_L_128 : Cond.methodLink RL 128 yX12_could ∈ tblG := tg 1760 (by decide +kernel) (by decide +kernel)
theorem im_X12_could : Cond.instanceMethod yX12_could ∈ tblG := tg 1761 (by decide +kernel) (by decide +kernel)
theorem se_X12_could : Cond.selects RX12 yX12_could yX12_could ∈ tblG := tg 1762 (by decide +kernel) (by decide +kernel)
theorem cd_X12_could : Cond.code yX12_could cX12_could 6 (some .long) ∈ tblG := tg 1763 (by decide +kernel) (by decide +kernel)
theorem gW_X12_could : GoodIn tblG (wsG yX12_could cX12_could 6 (some .long)) := tgi cd_X12_could
theorem gV_L_128 : GoodIn tblG (wsV RL 128 RX12 yX12_could (wsG yX12_could cX12_could 6 (some .long))) := tgV ml_L_128 im_X12_could se_X12_could ini_X12 gW_X12_could
theorem hv_X12_could : yX12_could.cls = RX12 ∧ yX12_could.cls ≠ "java/lang/invoke/MethodHandle" ∧ yX12_could.cls ≠ "java/lang/invoke/VarHandle" ∧ (parseMethodDescriptor yX12_could.desc).map (fun d => d.parameters.length) = some 2 := by decide +kernel
theorem ml_L_132 : Cond.methodLink RL 132 yX12_path ∈ tblG := tg 1764 (by decide +kernel) (by decide +kernel)
theorem im_X12_path : Cond.instanceMethod yX12_path ∈ tblG := tg 1765 (by decide +kernel) (by decide +kernel)
theorem se_X12_path : Cond.selects RX12 yX12_path yX12_path ∈ tblG := tg 1766 (by decide +kernel) (by decide +kernel)
theorem cd_X12_path : Cond.code yX12_path cX12_path 8 (some .int) ∈ tblG := tg 1767 (by decide +kernel) (by decide +kernel)
theorem gW_X12_path : GoodIn tblG (wsG yX12_path cX12_path 8 (some .int)) := tgi cd_X12_path
theorem gV_L_132 : GoodIn tblG (wsV RL 132 RX12 yX12_path (wsG yX12_path cX12_path 8 (some .int))) := tgV ml_L_132 im_X12_path se_X12_path ini_X12 gW_X12_path
theorem hv_X12_path : yX12_path.cls = RX12 ∧ yX12_path.cls ≠ "java/lang/invoke/MethodHandle" ∧ yX12_path.cls ≠ "java/lang/invoke/VarHandle" ∧ (parseMethodDescriptor yX12_path.desc).map (fun d => d.parameters.length) = some 1 := by decide +kernel
theorem ml_L_136 : Cond.methodLink RL 136 yX12_core ∈ tblG := tg 1744 (by decide +kernel) (by decide +kernel)
theorem im_X12_core : Cond.instanceMethod yX12_core ∈ tblG := tg 1745 (by decide +kernel) (by decide +kernel)
theorem se_X12_core : Cond.selects RX12 yX12_core yX12_core ∈ tblG := tg 1746 (by decide +kernel) (by decide +kernel)
theorem cd_X12_core : Cond.code yX12_core cX12_core 3 (some .int) ∈ tblG := tg 1747 (by decide +kernel) (by decide +kernel)
theorem gW_X12_core : GoodIn tblG (wsG yX12_core cX12_core 3 (some .int)) := tgi cd_X12_core
theorem gV_L_136 : GoodIn tblG (wsV RL 136 RX12 yX12_core (wsG yX12_core cX12_core 3 (some .int))) := tgV ml_L_136 im_X12_core se_X12_core ini_X12 gW_X12_core
theorem hv_X12_core : yX12_core.cls = RX12 ∧ yX12_core.cls ≠ "java/lang/invoke/MethodHandle" ∧ yX12_core.cls ≠ "java/lang/invoke/VarHandle" ∧ (parseMethodDescriptor yX12_core.desc).map (fun d => d.parameters.length) = some 0 := by decide +kernel
theorem ml_L_141 : Cond.methodLink RL 141 yX12_tells ∈ tblG := tg 1752 (by decide +kernel) (by decide +kernel)
theorem im_X12_tells : Cond.instanceMethod yX12_tells ∈ tblG := tg 1753 (by decide +kernel) (by decide +kernel)
theorem se_X12_tells : Cond.selects RX12 yX12_tells yX12_tells ∈ tblG := tg 1754 (by decide +kernel) (by decide +kernel)
theorem cd_X12_tells : Cond.code yX12_tells cX12_tells 6 (some .long) ∈ tblG := tg 1755 (by decide +kernel) (by decide +kernel)
theorem gW_X12_tells : GoodIn tblG (wsG yX12_tells cX12_tells 6 (some .long)) := tgi cd_X12_tells
theorem gV_L_141 : GoodIn tblG (wsV RL 141 RX12 yX12_tells (wsG yX12_tells cX12_tells 6 (some .long))) := tgV ml_L_141 im_X12_tells se_X12_tells ini_X12 gW_X12_tells
theorem hv_X12_tells : yX12_tells.cls = RX12 ∧ yX12_tells.cls ≠ "java/lang/invoke/MethodHandle" ∧ yX12_tells.cls ≠ "java/lang/invoke/VarHandle" ∧ (parseMethodDescriptor yX12_tells.desc).map (fun d => d.parameters.length) = some 3 := by decide +kernel
theorem ml_L_145 : Cond.methodLink RL 145 yX12_surely ∈ tblG := tg 1756 (by decide +kernel) (by decide +kernel)
theorem im_X12_surely : Cond.instanceMethod yX12_surely ∈ tblG := tg 1757 (by decide +kernel) (by decide +kernel)
theorem se_X12_surely : Cond.selects RX12 yX12_surely yX12_surely ∈ tblG := tg 1758 (by decide +kernel) (by decide +kernel)
theorem cd_X12_surely : Cond.code yX12_surely cX12_surely 5 (some .int) ∈ tblG := tg 1759 (by decide +kernel) (by decide +kernel)
theorem gW_X12_surely : GoodIn tblG (wsG yX12_surely cX12_surely 5 (some .int)) := tgi cd_X12_surely
theorem gV_L_145 : GoodIn tblG (wsV RL 145 RX12 yX12_surely (wsG yX12_surely cX12_surely 5 (some .int))) := tgV ml_L_145 im_X12_surely se_X12_surely ini_X12 gW_X12_surely
theorem hv_X12_surely : yX12_surely.cls = RX12 ∧ yX12_surely.cls ≠ "java/lang/invoke/MethodHandle" ∧ yX12_surely.cls ≠ "java/lang/invoke/VarHandle" ∧ (parseMethodDescriptor yX12_surely.desc).map (fun d => d.parameters.length) = some 1 := by decide +kernel
theorem ml_L_149 : Cond.methodLink RL 149 yX12_spot ∈ tblG := tg 1771 (by decide +kernel) (by decide +kernel)
theorem im_X12_spot : Cond.instanceMethod yX12_spot ∈ tblG := tg 1772 (by decide +kernel) (by decide +kernel)
theorem se_X12_spot : Cond.selects RX12 yX12_spot yX12_spot ∈ tblG := tg 1773 (by decide +kernel) (by decide +kernel)
theorem cd_X12_spot : Cond.code yX12_spot cX12_spot 5 (some .int) ∈ tblG := tg 1774 (by decide +kernel) (by decide +kernel)
theorem gW_X12_spot : GoodIn tblG (wsG yX12_spot cX12_spot 5 (some .int)) := tgi cd_X12_spot
theorem gV_L_149 : GoodIn tblG (wsV RL 149 RX12 yX12_spot (wsG yX12_spot cX12_spot 5 (some .int))) := tgV ml_L_149 im_X12_spot se_X12_spot ini_X12 gW_X12_spot
theorem hv_X12_spot : yX12_spot.cls = RX12 ∧ yX12_spot.cls ≠ "java/lang/invoke/MethodHandle" ∧ yX12_spot.cls ≠ "java/lang/invoke/VarHandle" ∧ (parseMethodDescriptor yX12_spot.desc).map (fun d => d.parameters.length) = some 3 := by decide +kernel
theorem ml_L_154 : Cond.methodLink RL 154 yX12_wish ∈ tblG := tg 1775 (by decide +kernel) (by decide +kernel)
theorem im_X12_wish : Cond.instanceMethod yX12_wish ∈ tblG := tg 1776 (by decide +kernel) (by decide +kernel)
theorem se_X12_wish : Cond.selects RX12 yX12_wish yX12_wish ∈ tblG := tg 1777 (by decide +kernel) (by decide +kernel)
theorem cd_X12_wish : Cond.code yX12_wish cX12_wish 9 (some .int) ∈ tblG := tg 1778 (by decide +kernel) (by decide +kernel)
theorem gW_X12_wish : GoodIn tblG (wsG yX12_wish cX12_wish 9 (some .int)) := tgi cd_X12_wish
theorem gV_L_154 : GoodIn tblG (wsV RL 154 RX12 yX12_wish (wsG yX12_wish cX12_wish 9 (some .int))) := tgV ml_L_154 im_X12_wish se_X12_wish ini_X12 gW_X12_wish
theorem hv_X12_wish : yX12_wish.cls = RX12 ∧ yX12_wish.cls ≠ "java/lang/invoke/MethodHandle" ∧ yX12_wish.cls ≠ "java/lang/invoke/VarHandle" ∧ (parseMethodDescriptor yX12_wish.desc).map (fun d => d.parameters.length) = some 6 := by decide +kernel
theorem ml_L_158 : Cond.methodLink RL 158 yX12_lacks ∈ tblG := tg 1779 (by decide +kernel) (by decide +kernel)
theorem im_X12_lacks : Cond.instanceMethod yX12_lacks ∈ tblG := tg 1780 (by decide +kernel) (by decide +kernel)
theorem se_X12_lacks : Cond.selects RX12 yX12_lacks yX12_lacks ∈ tblG := tg 1781 (by decide +kernel) (by decide +kernel)
theorem cd_X12_lacks : Cond.code yX12_lacks cX12_lacks 2 (some .int) ∈ tblG := tg 1782 (by decide +kernel) (by decide +kernel)
theorem gW_X12_lacks : GoodIn tblG (wsG yX12_lacks cX12_lacks 2 (some .int)) := tgi cd_X12_lacks
theorem gV_L_158 : GoodIn tblG (wsV RL 158 RX12 yX12_lacks (wsG yX12_lacks cX12_lacks 2 (some .int))) := tgV ml_L_158 im_X12_lacks se_X12_lacks ini_X12 gW_X12_lacks
theorem hv_X12_lacks : yX12_lacks.cls = RX12 ∧ yX12_lacks.cls ≠ "java/lang/invoke/MethodHandle" ∧ yX12_lacks.cls ≠ "java/lang/invoke/VarHandle" ∧ (parseMethodDescriptor yX12_lacks.desc).map (fun d => d.parameters.length) = some 1 := by decide +kernel
theorem ml_L_162 : Cond.methodLink RL 162 yX12_hang ∈ tblG := tg 1791 (by decide +kernel) (by decide +kernel)
theorem im_X12_hang : Cond.instanceMethod yX12_hang ∈ tblG := tg 1792 (by decide +kernel) (by decide +kernel)
theorem se_X12_hang : Cond.selects RX12 yX12_hang yX12_hang ∈ tblG := tg 1793 (by decide +kernel) (by decide +kernel)
theorem cd_X12_hang : Cond.code yX12_hang cX12_hang 7 (some .int) ∈ tblG := tg 1794 (by decide +kernel) (by decide +kernel)
theorem gW_X12_hang : GoodIn tblG (wsG yX12_hang cX12_hang 7 (some .int)) := tgi cd_X12_hang
theorem gV_L_162 : GoodIn tblG (wsV RL 162 RX12 yX12_hang (wsG yX12_hang cX12_hang 7 (some .int))) := tgV ml_L_162 im_X12_hang se_X12_hang ini_X12 gW_X12_hang
theorem hv_X12_hang : yX12_hang.cls = RX12 ∧ yX12_hang.cls ≠ "java/lang/invoke/MethodHandle" ∧ yX12_hang.cls ≠ "java/lang/invoke/VarHandle" ∧ (parseMethodDescriptor yX12_hang.desc).map (fun d => d.parameters.length) = some 1 := by decide +kernel
theorem ml_L_166 : Cond.methodLink RL 166 yX12_soonest ∈ tblG := tg 1798 (by decide +kernel) (by decide +kernel)
theorem im_X12_soonest : Cond.instanceMethod yX12_soonest ∈ tblG := tg 1799 (by decide +kernel) (by decide +kernel)
theorem se_X12_soonest : Cond.selects RX12 yX12_soonest yX12_soonest ∈ tblG := tg 1800 (by decide +kernel) (by decide +kernel)
theorem cd_X12_soonest : Cond.code yX12_soonest cX12_soonest 4 (some .int) ∈ tblG := tg 1801 (by decide +kernel) (by decide +kernel)
theorem gW_X12_soonest : GoodIn tblG (wsG yX12_soonest cX12_soonest 4 (some .int)) := tgi cd_X12_soonest
theorem gV_L_166 : GoodIn tblG (wsV RL 166 RX12 yX12_soonest (wsG yX12_soonest cX12_soonest 4 (some .int))) := tgV ml_L_166 im_X12_soonest se_X12_soonest ini_X12 gW_X12_soonest
theorem hv_X12_soonest : yX12_soonest.cls = RX12 ∧ yX12_soonest.cls ≠ "java/lang/invoke/MethodHandle" ∧ yX12_soonest.cls ≠ "java/lang/invoke/VarHandle" ∧ (parseMethodDescriptor yX12_soonest.desc).map (fun d => d.parameters.length) = some 3 := by decide +kernel
theorem ml_L_170 : Cond.methodLink RL 170 yX12_way ∈ tblG := tg 1806 (by decide +kernel) (by decide +kernel)
theorem im_X12_way : Cond.instanceMethod yX12_way ∈ tblG := tg 1807 (by decide +kernel) (by decide +kernel)
theorem se_X12_way : Cond.selects RX12 yX12_way yX12_way ∈ tblG := tg 1808 (by decide +kernel) (by decide +kernel)
theorem cd_X12_way : Cond.code yX12_way cX12_way 10 (some .int) ∈ tblG := tg 1809 (by decide +kernel) (by decide +kernel)
theorem gW_X12_way : GoodIn tblG (wsG yX12_way cX12_way 10 (some .int)) := tgi cd_X12_way
theorem gV_L_170 : GoodIn tblG (wsV RL 170 RX12 yX12_way (wsG yX12_way cX12_way 10 (some .int))) := tgV ml_L_170 im_X12_way se_X12_way ini_X12 gW_X12_way
theorem hv_X12_way : yX12_way.cls = RX12 ∧ yX12_way.cls ≠ "java/lang/invoke/MethodHandle" ∧ yX12_way.cls ≠ "java/lang/invoke/VarHandle" ∧ (parseMethodDescriptor yX12_way.desc).map (fun d => d.parameters.length) = some 4 := by decide +kernel
theorem ml_L_174 : Cond.methodLink RL 174 yX12_sooner ∈ tblG := tg 1810 (by decide +kernel) (by decide +kernel)
theorem im_X12_sooner : Cond.instanceMethod yX12_sooner ∈ tblG := tg 1811 (by decide +kernel) (by decide +kernel)
theorem se_X12_sooner : Cond.selects RX12 yX12_sooner yX12_sooner ∈ tblG := tg 1812 (by decide +kernel) (by decide +kernel)
theorem cd_X12_sooner : Cond.code yX12_sooner cX12_sooner 12 (some .int) ∈ tblG := tg 1813 (by decide +kernel) (by decide +kernel)
theorem gW_X12_sooner : GoodIn tblG (wsG yX12_sooner cX12_sooner 12 (some .int)) := tgi cd_X12_sooner
theorem gV_L_174 : GoodIn tblG (wsV RL 174 RX12 yX12_sooner (wsG yX12_sooner cX12_sooner 12 (some .int))) := tgV ml_L_174 im_X12_sooner se_X12_sooner ini_X12 gW_X12_sooner
theorem hv_X12_sooner : yX12_sooner.cls = RX12 ∧ yX12_sooner.cls ≠ "java/lang/invoke/MethodHandle" ∧ yX12_sooner.cls ≠ "java/lang/invoke/VarHandle" ∧ (parseMethodDescriptor yX12_sooner.desc).map (fun d => d.parameters.length) = some 4 := by decide +kernel
theorem ml_L_178 : Cond.methodLink RL 178 yX12_wander ∈ tblG := tg 1814 (by decide +kernel) (by decide +kernel)
theorem im_X12_wander : Cond.instanceMethod yX12_wander ∈ tblG := tg 1815 (by decide +kernel) (by decide +kernel)
theorem se_X12_wander : Cond.selects RX12 yX12_wander yX12_wander ∈ tblG := tg 1816 (by decide +kernel) (by decide +kernel)
theorem cd_X12_wander : Cond.code yX12_wander cX12_wander 7 (some .int) ∈ tblG := tg 1817 (by decide +kernel) (by decide +kernel)
theorem gW_X12_wander : GoodIn tblG (wsG yX12_wander cX12_wander 7 (some .int)) := tgi cd_X12_wander
theorem gV_L_178 : GoodIn tblG (wsV RL 178 RX12 yX12_wander (wsG yX12_wander cX12_wander 7 (some .int))) := tgV ml_L_178 im_X12_wander se_X12_wander ini_X12 gW_X12_wander
theorem hv_X12_wander : yX12_wander.cls = RX12 ∧ yX12_wander.cls ≠ "java/lang/invoke/MethodHandle" ∧ yX12_wander.cls ≠ "java/lang/invoke/VarHandle" ∧ (parseMethodDescriptor yX12_wander.desc).map (fun d => d.parameters.length) = some 2 := by decide +kernel
theorem ml_L_182 : Cond.methodLink RL 182 yX12_drawn ∈ tblG := tg 1821 (by decide +kernel) (by decide +kernel)
theorem im_X12_drawn : Cond.instanceMethod yX12_drawn ∈ tblG := tg 1822 (by decide +kernel) (by decide +kernel)
theorem se_X12_drawn : Cond.selects RX12 yX12_drawn yX12_drawn ∈ tblG := tg 1823 (by decide +kernel) (by decide +kernel)
theorem cd_X12_drawn : Cond.code yX12_drawn cX12_drawn 2 (some .int) ∈ tblG := tg 1824 (by decide +kernel) (by decide +kernel)
theorem gW_X12_drawn : GoodIn tblG (wsG yX12_drawn cX12_drawn 2 (some .int)) := tgi cd_X12_drawn
theorem gV_L_182 : GoodIn tblG (wsV RL 182 RX12 yX12_drawn (wsG yX12_drawn cX12_drawn 2 (some .int))) := tgV ml_L_182 im_X12_drawn se_X12_drawn ini_X12 gW_X12_drawn
theorem hv_X12_drawn : yX12_drawn.cls = RX12 ∧ yX12_drawn.cls ≠ "java/lang/invoke/MethodHandle" ∧ yX12_drawn.cls ≠ "java/lang/invoke/VarHandle" ∧ (parseMethodDescriptor yX12_drawn.desc).map (fun d => d.parameters.length) = some 1 := by decide +kernel
theorem ml_L_186 : Cond.methodLink RL 186 yX12_image ∈ tblG := tg 1360 (by decide +kernel) (by decide +kernel)
theorem im_X12_image : Cond.instanceMethod yX12_image ∈ tblG := tg 1361 (by decide +kernel) (by decide +kernel)
theorem se_X12_image : Cond.selects RX12 yX12_image yX12_image ∈ tblG := tg 1362 (by decide +kernel) (by decide +kernel)
theorem cd_X12_image : Cond.code yX12_image cX12_image 3 (some .int) ∈ tblG := tg 1363 (by decide +kernel) (by decide +kernel)
theorem gW_X12_image : GoodIn tblG (wsG yX12_image cX12_image 3 (some .int)) := tgi cd_X12_image
theorem gV_L_186 : GoodIn tblG (wsV RL 186 RX12 yX12_image (wsG yX12_image cX12_image 3 (some .int))) := tgV ml_L_186 im_X12_image se_X12_image ini_X12 gW_X12_image
theorem hv_X12_image : yX12_image.cls = RX12 ∧ yX12_image.cls ≠ "java/lang/invoke/MethodHandle" ∧ yX12_image.cls ≠ "java/lang/invoke/VarHandle" ∧ (parseMethodDescriptor yX12_image.desc).map (fun d => d.parameters.length) = some 1 := by decide +kernel
theorem ml_L_190 : Cond.methodLink RL 190 yX12_back ∈ tblG := tg 1371 (by decide +kernel) (by decide +kernel)
theorem im_X12_back : Cond.instanceMethod yX12_back ∈ tblG := tg 1372 (by decide +kernel) (by decide +kernel)
theorem se_X12_back : Cond.selects RX12 yX12_back yX12_back ∈ tblG := tg 1373 (by decide +kernel) (by decide +kernel)
theorem cd_X12_back : Cond.code yX12_back cX12_back 3 (some .int) ∈ tblG := tg 1374 (by decide +kernel) (by decide +kernel)
theorem gW_X12_back : GoodIn tblG (wsG yX12_back cX12_back 3 (some .int)) := tgi cd_X12_back
theorem gV_L_190 : GoodIn tblG (wsV RL 190 RX12 yX12_back (wsG yX12_back cX12_back 3 (some .int))) := tgV ml_L_190 im_X12_back se_X12_back ini_X12 gW_X12_back
theorem hv_X12_back : yX12_back.cls = RX12 ∧ yX12_back.cls ≠ "java/lang/invoke/MethodHandle" ∧ yX12_back.cls ≠ "java/lang/invoke/VarHandle" ∧ (parseMethodDescriptor yX12_back.desc).map (fun d => d.parameters.length) = some 1 := by decide +kernel
theorem ml_L_194 : Cond.methodLink RL 194 yX12_count ∈ tblG := tg 1825 (by decide +kernel) (by decide +kernel)
theorem im_X12_count : Cond.instanceMethod yX12_count ∈ tblG := tg 1826 (by decide +kernel) (by decide +kernel)
theorem se_X12_count : Cond.selects RX12 yX12_count yX12_count ∈ tblG := tg 1827 (by decide +kernel) (by decide +kernel)
theorem cd_X12_count : Cond.code yX12_count cX12_count 4 (some .int) ∈ tblG := tg 1828 (by decide +kernel) (by decide +kernel)
theorem gW_X12_count : GoodIn tblG (wsG yX12_count cX12_count 4 (some .int)) := tgi cd_X12_count
theorem gV_L_194 : GoodIn tblG (wsV RL 194 RX12 yX12_count (wsG yX12_count cX12_count 4 (some .int))) := tgV ml_L_194 im_X12_count se_X12_count ini_X12 gW_X12_count
theorem hv_X12_count : yX12_count.cls = RX12 ∧ yX12_count.cls ≠ "java/lang/invoke/MethodHandle" ∧ yX12_count.cls ≠ "java/lang/invoke/VarHandle" ∧ (parseMethodDescriptor yX12_count.desc).map (fun d => d.parameters.length) = some 1 := by decide +kernel
theorem ml_L_198 : Cond.methodLink RL 198 yX12_status ∈ tblG := tg 1829 (by decide +kernel) (by decide +kernel)
theorem im_X12_status : Cond.instanceMethod yX12_status ∈ tblG := tg 1830 (by decide +kernel) (by decide +kernel)
theorem se_X12_status : Cond.selects RX12 yX12_status yX12_status ∈ tblG := tg 1831 (by decide +kernel) (by decide +kernel)
theorem cd_X12_status : Cond.code yX12_status cX12_status 1 (some .int) ∈ tblG := tg 1832 (by decide +kernel) (by decide +kernel)
theorem gW_X12_status : GoodIn tblG (wsG yX12_status cX12_status 1 (some .int)) := tgi cd_X12_status
theorem gV_L_198 : GoodIn tblG (wsV RL 198 RX12 yX12_status (wsG yX12_status cX12_status 1 (some .int))) := tgV ml_L_198 im_X12_status se_X12_status ini_X12 gW_X12_status
theorem hv_X12_status : yX12_status.cls = RX12 ∧ yX12_status.cls ≠ "java/lang/invoke/MethodHandle" ∧ yX12_status.cls ≠ "java/lang/invoke/VarHandle" ∧ (parseMethodDescriptor yX12_status.desc).map (fun d => d.parameters.length) = some 0 := by decide +kernel
theorem isn_X0 : Cond.instantiable RX0 5 ∈ tblG := tg 350 (by decide +kernel) (by decide +kernel)
theorem isn_X1 : Cond.instantiable RX1 13 ∈ tblG := tg 120 (by decide +kernel) (by decide +kernel)
theorem isn_X2 : Cond.instantiable RX2 2 ∈ tblG := tg 229 (by decide +kernel) (by decide +kernel)
theorem isn_X4 : Cond.instantiable RX4 8 ∈ tblG := tg 394 (by decide +kernel) (by decide +kernel)
theorem isn_X5 : Cond.instantiable RX5 13 ∈ tblG := tg 223 (by decide +kernel) (by decide +kernel)
theorem isn_X6 : Cond.instantiable RX6 4 ∈ tblG := tg 128 (by decide +kernel) (by decide +kernel)
theorem isn_X7 : Cond.instantiable RX7 10 ∈ tblG := tg 312 (by decide +kernel) (by decide +kernel)
theorem isn_X8 : Cond.instantiable RX8 3 ∈ tblG := tg 400 (by decide +kernel) (by decide +kernel)
theorem isn_X9 : Cond.instantiable RX9 4 ∈ tblG := tg 375 (by decide +kernel) (by decide +kernel)
theorem isn_X10 : Cond.instantiable RX10 3 ∈ tblG := tg 295 (by decide +kernel) (by decide +kernel)
theorem isn_X11 : Cond.instantiable RX11 17 ∈ tblG := tg 112 (by decide +kernel) (by decide +kernel)
theorem isn_X12 : Cond.instantiable RX12 52 ∈ tblG := tg 1185 (by decide +kernel) (by decide +kernel)
theorem acl_J : Cond.arrayClass .long ∈ tblG := tg 220 (by decide +kernel) (by decide +kernel)
theorem acl_Z : Cond.arrayClass .boolean ∈ tblG := tg 242 (by decide +kernel) (by decide +kernel)
theorem pflat_split {G : g5_G} {pre post : List LR} {r : LR} : pflat G (pre ++ r :: post) = pflat G pre ++ (lcell G r ++ pflat G post) := by
  unfold pflat; rw [List.flatMap_append, List.flatMap_cons]
theorem pflat_cons {G : g5_G} {L : List LR} {r : LR} : pflat G (r :: L) = lcell G r ++ pflat G L := by
  unfold pflat; rw [List.flatMap_cons]
set_option maxHeartbeats 4000000 in
set_option maxRecDepth 100000 in
def XBO (G : g5_G) (Lw : List LR) (a_o a_h a_im a_ke a_k a_wa a_th a_ha a_wk a_r : Nat) (f_x : Nat → Int32) (e_tl : Int32) (e_fd : Int32) (f_wd : Nat → Int32) (e_wn : Int32) (e_fpl : Int32) (w : va_W) : Prop := ∃ (a_rf : Nat) (a_x : Nat) (a_wd : Nat) (e_lr : Int32) (f_rf : Nat → Int32), w = [(a_o, (oc11 a_h a_im a_ke a_k a_wa a_th a_ha a_wk a_r a_x e_tl e_fd e_fpl a_wd e_wn a_rf e_lr)), (a_rf, (arI G 5 f_rf)), (a_x, (arI G 400 f_x)), (a_wd, (arI G 24 f_wd))] ∧ (0 ≤ e_tl.toInt ∧ e_tl.toInt ≤ 400) ∧ (0 ≤ e_wn.toInt ∧ e_wn.toInt ≤ 1) ∧ (TPI f_x)
set_option maxHeartbeats 4000000 in
set_option maxRecDepth 100000 in
def XBH (G : g5_G) (Lw : List LR) (a_h : Nat) (f_ro : Nat → Int32) (g_L : LLS) (g_F : Int32) (w : va_W) : Prop := ∃ (a_p : Nat) (a_pn : Nat) (a_bb : Nat) (a_l : Nat) (a_g : Nat) (a_b : Nat) (a_s : Nat) (a_w : Nat) (e_le : Int32) (e_st : Int32) (e_fo : Int32) (e_lc : Int32) (e_wa : Int64) (e_gb : Int64) (e_p : Int32) (f_p : Nat → Int32) (f_bb : Nat → Int64) (e_g : Int32) (e_b : Int32) (f_g : Nat → Int32) (f_b : Nat → Int32) (a_gn : Nat) (a_bn : Nat) (f_l : Nat → Option Nat) (a_sn : Nat) (e_s : Int32) (f_s : Nat → Int32) (a_wn : Nat) (e_w : Int32) (f_w : Nat → Int32), w = [(a_h, (oc1 e_wa e_le e_st e_fo e_lc a_l a_g a_b a_s a_p a_w e_gb a_bb)), (a_l, (arW G 6 f_l)), (a_g, (oc6 6 5 a_gn e_g)), (a_gn, (arI G 30 f_g)), (a_b, (oc6 5 24 a_bn e_b)), (a_bn, (arI G 120 f_b)), (a_s, (oc6 10 4 a_sn e_s)), (a_sn, (arI G 40 f_s)), (a_p, (oc6 8 5 a_pn e_p)), (a_pn, (arI G 40 f_p)), (a_w, (oc6 6 6 a_wn e_w)), (a_wn, (arI G 36 f_w)), (a_bb, (arJ G 24 f_bb))] ∧ (0 ≤ e_p.toInt ∧ e_p.toInt ≤ 8) ∧ (0 ≤ e_g.toInt ∧ e_g.toInt ≤ 6) ∧ (0 ≤ e_b.toInt ∧ e_b.toInt ≤ 5) ∧ (0 ≤ e_s.toInt ∧ e_s.toInt ≤ 10) ∧ (0 ≤ e_w.toInt ∧ e_w.toInt ≤ 6) ∧ (gOK f_g e_g.toInt) ∧ (gOK f_p e_p.toInt) ∧ (inT e_gb f_g e_g.toInt) ∧ (∀ r : Int, 0 ≤ r → r < e_s.toInt → 0 ≤ (tget f_s e_s.toInt 4 r (3 : Int32).toInt).toInt ∧ (tget f_s e_s.toInt 4 r (3 : Int32).toInt).toInt ≤ 1) ∧ (snS f_s e_s.toInt e_s.toInt.toNat ≤ 5) ∧ (LWS Lw f_l e_lc e_fo) ∧ (QH e_wa e_le e_st f_ro) ∧ (QG e_g f_g e_gb f_ro) ∧ (QB e_b f_b f_bb f_ro) ∧ (QS e_s f_s f_ro) ∧ (QP e_p f_p f_ro) ∧ (QW e_w f_w f_ro) ∧ (NW f_ro) ∧ (CLAW Lw f_l e_lc e_fo g_L g_F)
set_option maxHeartbeats 4000000 in
set_option maxRecDepth 100000 in
def XBI (G : g5_G) (Lw : List LR) (a_im a_ke : Nat) (f_im : Nat → Int32) (f_ke : Nat → Int32) (g_M : LMS) (w : va_W) : Prop := ∃ (a_h2 : Nat) (a_l2 : Nat) (a_g2 : Nat) (a_gn2 : Nat) (a_b2 : Nat) (a_bn2 : Nat) (a_s2 : Nat) (a_sn2 : Nat) (a_p2 : Nat) (a_pn2 : Nat) (a_w2 : Nat) (a_wn2 : Nat) (a_bb2 : Nat) (a_h3 : Nat) (e_le2 : Int32) (e_st2 : Int32) (e_fo2 : Int32) (e_lc2 : Int32) (e_wa2 : Int64) (e_gb2 : Int64) (f_l2 : Nat → Option Nat) (e_g2 : Int32) (f_g2 : Nat → Int32) (e_b2 : Int32) (f_b2 : Nat → Int32) (e_s2 : Int32) (f_s2 : Nat → Int32) (e_p2 : Int32) (f_p2 : Nat → Int32) (e_w2 : Int32) (f_w2 : Nat → Int32) (f_bb2 : Nat → Int64) (a_l3 : Nat) (a_g3 : Nat) (a_gn3 : Nat) (a_b3 : Nat) (a_bn3 : Nat) (a_s3 : Nat) (a_sn3 : Nat) (a_p3 : Nat) (a_pn3 : Nat) (a_w3 : Nat) (a_wn3 : Nat) (a_bb3 : Nat) (e_le3 : Int32) (e_st3 : Int32) (e_fo3 : Int32) (e_lc3 : Int32) (e_wa3 : Int64) (e_gb3 : Int64) (f_l3 : Nat → Option Nat) (e_g3 : Int32) (f_g3 : Nat → Int32) (e_b3 : Int32) (f_b3 : Nat → Int32) (e_s3 : Int32) (f_s3 : Nat → Int32) (e_p3 : Int32) (f_p3 : Nat → Int32) (e_w3 : Int32) (f_w3 : Nat → Int32) (f_bb3 : Nat → Int64), w = [(a_im, (arH G 2 (va_up (va_up (fun _ => none) 0 (some a_h2)) 1 (some a_h3)))), (a_ke, (arZ G 2 f_ke)), (a_h2, (oc1 e_wa2 e_le2 e_st2 e_fo2 e_lc2 a_l2 a_g2 a_b2 a_s2 a_p2 a_w2 e_gb2 a_bb2)), (a_l2, (arW G 6 f_l2)), (a_g2, (oc6 6 5 a_gn2 e_g2)), (a_gn2, (arI G 30 f_g2)), (a_b2, (oc6 5 24 a_bn2 e_b2)), (a_bn2, (arI G 120 f_b2)), (a_s2, (oc6 10 4 a_sn2 e_s2)), (a_sn2, (arI G 40 f_s2)), (a_p2, (oc6 8 5 a_pn2 e_p2)), (a_pn2, (arI G 40 f_p2)), (a_w2, (oc6 6 6 a_wn2 e_w2)), (a_wn2, (arI G 36 f_w2)), (a_bb2, (arJ G 24 f_bb2)), (a_h3, (oc1 e_wa3 e_le3 e_st3 e_fo3 e_lc3 a_l3 a_g3 a_b3 a_s3 a_p3 a_w3 e_gb3 a_bb3)), (a_l3, (arW G 6 f_l3)), (a_g3, (oc6 6 5 a_gn3 e_g3)), (a_gn3, (arI G 30 f_g3)), (a_b3, (oc6 5 24 a_bn3 e_b3)), (a_bn3, (arI G 120 f_b3)), (a_s3, (oc6 10 4 a_sn3 e_s3)), (a_sn3, (arI G 40 f_s3)), (a_p3, (oc6 8 5 a_pn3 e_p3)), (a_pn3, (arI G 40 f_p3)), (a_w3, (oc6 6 6 a_wn3 e_w3)), (a_wn3, (arI G 36 f_w3)), (a_bb3, (arJ G 24 f_bb3))] ∧ (0 ≤ e_g2.toInt ∧ e_g2.toInt ≤ 6) ∧ (0 ≤ e_b2.toInt ∧ e_b2.toInt ≤ 5) ∧ (0 ≤ e_s2.toInt ∧ e_s2.toInt ≤ 10) ∧ (0 ≤ e_p2.toInt ∧ e_p2.toInt ≤ 8) ∧ (0 ≤ e_w2.toInt ∧ e_w2.toInt ≤ 6) ∧ (0 ≤ e_g3.toInt ∧ e_g3.toInt ≤ 6) ∧ (0 ≤ e_b3.toInt ∧ e_b3.toInt ≤ 5) ∧ (0 ≤ e_s3.toInt ∧ e_s3.toInt ≤ 10) ∧ (0 ≤ e_p3.toInt ∧ e_p3.toInt ≤ 8) ∧ (0 ≤ e_w3.toInt ∧ e_w3.toInt ≤ 6) ∧ (gOK f_g2 e_g2.toInt) ∧ (gOK f_p2 e_p2.toInt) ∧ (inT e_gb2 f_g2 e_g2.toInt) ∧ (∀ r : Int, 0 ≤ r → r < e_s2.toInt → 0 ≤ (tget f_s2 e_s2.toInt 4 r (3 : Int32).toInt).toInt ∧ (tget f_s2 e_s2.toInt 4 r (3 : Int32).toInt).toInt ≤ 1) ∧ (snS f_s2 e_s2.toInt e_s2.toInt.toNat ≤ 5) ∧ (LWS Lw f_l2 e_lc2 e_fo2) ∧ (gOK f_g3 e_g3.toInt) ∧ (gOK f_p3 e_p3.toInt) ∧ (inT e_gb3 f_g3 e_g3.toInt) ∧ (∀ r : Int, 0 ≤ r → r < e_s3.toInt → 0 ≤ (tget f_s3 e_s3.toInt 4 r (3 : Int32).toInt).toInt ∧ (tget f_s3 e_s3.toInt 4 r (3 : Int32).toInt).toInt ≤ 1) ∧ (snS f_s3 e_s3.toInt e_s3.toInt.toNat ≤ 5) ∧ (LWS Lw f_l3 e_lc3 e_fo3) ∧ (QML 0 f_ke Lw f_l2 e_lc2 e_fo2 g_M) ∧ (QML 1 f_ke Lw f_l3 e_lc3 e_fo3 g_M) ∧ (QIM 0 f_ke f_im e_wa2 e_le2 e_st2 e_g2 f_g2 e_gb2 e_b2 f_b2 f_bb2 e_s2 f_s2 e_p2 f_p2 e_w2 f_w2) ∧ (QIM 1 f_ke f_im e_wa3 e_le3 e_st3 e_g3 f_g3 e_gb3 e_b3 f_b3 f_bb3 e_s3 f_s3 e_p3 f_p3 e_w3 f_w3)
set_option maxHeartbeats 4000000 in
set_option maxRecDepth 100000 in
def XBK (G : g5_G) (Lw : List LR) (a_h a_k : Nat) (w : va_W) : Prop := ∃ (a_j : Nat) (a_as : Nat) (a_sk : Nat) (a_pt : Nat) (f_as : Nat → Int32) (f_sk : Nat → Int64) (e_ln : Int32) (e_se : Int32) (e_lh : Int32) (e_br : Int32) (e_we : Int32) (e_me : Int32) (e_ce : Int32) (e_wy : Int32) (e_ho : Int32) (e_ov : Int32) (f_pt : Nat → Int32), w = [(a_k, (oc5 a_h a_j a_pt e_ln e_se e_lh e_br e_we e_me e_ce e_wy e_ho e_ov)), (a_j, (oc2 a_as a_sk)), (a_as, (arI G 8 f_as)), (a_sk, (arJ G 50 f_sk)), (a_pt, (arI G 200 f_pt))] ∧ (0 ≤ e_ov.toInt ∧ e_ov.toInt ≤ 1)
set_option maxHeartbeats 4000000 in
set_option maxRecDepth 100000 in
def XBW (G : g5_G) (Lw : List LR) (a_h a_k a_wa : Nat) (w : va_W) : Prop := ∃ (a_bo : Nat) (f_bo : Nat → Int64), w = [(a_wa, (oc10 a_h a_k a_bo)), (a_bo, (arJ G 24 f_bo))]
set_option maxHeartbeats 4000000 in
set_option maxRecDepth 100000 in
def XBT (G : g5_G) (Lw : List LR) (a_h a_k a_th : Nat) (w : va_W) : Prop := ∃ (a_ba : Nat) (a_ad : Nat) (a_cn : Nat) (a_nx : Nat) (a_hp : Nat) (a_hl : Nat) (a_lv : Nat) (e_fu : Int32) (f_ba : Nat → Int64) (f_ad : Nat → Int32) (f_cn : Nat → Int64) (f_nx : Nat → Int64) (f_hp : Nat → Int32) (f_hl : Nat → Int32) (f_lv : Nat → Int32), w = [(a_th, (oc7 a_h a_k a_ba a_ad e_fu a_cn a_nx a_hp a_hl a_lv)), (a_ba, (arJ G 24 f_ba)), (a_ad, (arI G 1536 f_ad)), (a_cn, (arJ G 2048 f_cn)), (a_nx, (arJ G 2048 f_nx)), (a_hp, (arI G 1536 f_hp)), (a_hl, (arI G 64 f_hl)), (a_lv, (arI G 64 f_lv))]
set_option maxHeartbeats 4000000 in
set_option maxRecDepth 100000 in
def XBG (G : g5_G) (Lw : List LR) (a_h a_k a_ha : Nat) (w : va_W) : Prop := ∃ (e_f1 : Int32) (e_f2 : Int32) (e_f3 : Int32), w = [(a_ha, (oc0 a_h a_k e_f1 e_f2 e_f3))]
set_option maxHeartbeats 4000000 in
set_option maxRecDepth 100000 in
def XBA (G : g5_G) (Lw : List LR) (a_h a_k a_wk : Nat) (w : va_W) : Prop := ∃ (a_go : Nat) (a_mt : Nat) (f_go : Nat → Int64) (f_mt : Nat → Int32), w = [(a_wk, (oc9 a_h a_k a_go a_mt)), (a_go, (arJ G 24 f_go)), (a_mt, (arI G 1536 f_mt))]
set_option maxHeartbeats 4000000 in
set_option maxRecDepth 100000 in
def XBR (G : g5_G) (Lw : List LR) (a_r : Nat) (w : va_W) : Prop := ∃ (a_tk : Nat) (a_kd : Nat) (a_nm : Nat) (a_pl : Nat) (a_rc : Nat) (a_rh : Nat) (a_rs : Nat) (e_rl : Int32) (e_pa : Int32) (e_at : Int32) (e_fp : Int32) (f_kd : Nat → Int32) (f_nm : Nat → Int32) (f_pl : Nat → Int32) (f_rc : Nat → Int32) (f_rh : Nat → Int32) (f_rs : Nat → Int32), w = [(a_r, (oc4 a_tk a_rh a_rs a_rc e_rl e_pa e_at e_fp)), (a_tk, (oc8 a_kd a_nm a_pl)), (a_kd, (arI G 401 f_kd)), (a_nm, (arI G 401 f_nm)), (a_pl, (arI G 401 f_pl)), (a_rc, (arI G 400 f_rc)), (a_rh, (arI G 12 f_rh)), (a_rs, (arI G 13 f_rs))] ∧ (0 ≤ e_rl.toInt ∧ e_rl.toInt ≤ 400) ∧ (0 ≤ e_pa.toInt ∧ e_pa.toInt ≤ 50) ∧ (0 ≤ e_at.toInt ∧ e_at.toInt ≤ 401) ∧ (TOKI f_kd f_nm)
set_option maxHeartbeats 4000000 in
set_option maxRecDepth 100000 in
theorem xbO_mk {G : g5_G} {Lw : List LR} {a_o a_h a_im a_ke a_k a_wa a_th a_ha a_wk a_r : Nat} {f_x : Nat → Int32} {e_tl : Int32} {e_fd : Int32} {f_wd : Nat → Int32} {e_wn : Int32} {e_fpl : Int32} (a_rf : Nat) (a_x : Nat) (a_wd : Nat) (e_lr : Int32) (f_rf : Nat → Int32) (h0_ : 0 ≤ e_tl.toInt ∧ e_tl.toInt ≤ 400) (h1_ : 0 ≤ e_wn.toInt ∧ e_wn.toInt ≤ 1) (h2_ : TPI f_x) : XBO G Lw a_o a_h a_im a_ke a_k a_wa a_th a_ha a_wk a_r f_x e_tl e_fd f_wd e_wn e_fpl [(a_o, (oc11 a_h a_im a_ke a_k a_wa a_th a_ha a_wk a_r a_x e_tl e_fd e_fpl a_wd e_wn a_rf e_lr)), (a_rf, (arI G 5 f_rf)), (a_x, (arI G 400 f_x)), (a_wd, (arI G 24 f_wd))] := Exists.intro a_rf (Exists.intro a_x (Exists.intro a_wd (Exists.intro e_lr (Exists.intro f_rf (⟨rfl, h0_, h1_, h2_⟩)))))
set_option maxHeartbeats 4000000 in
set_option maxRecDepth 100000 in
theorem xbO_elim {G : g5_G} {Lw : List LR} {a_o a_h a_im a_ke a_k a_wa a_th a_ha a_wk a_r : Nat} {f_x : Nat → Int32} {e_tl : Int32} {e_fd : Int32} {f_wd : Nat → Int32} {e_wn : Int32} {e_fpl : Int32} {w : va_W} {P : Prop} (h : XBO G Lw a_o a_h a_im a_ke a_k a_wa a_th a_ha a_wk a_r f_x e_tl e_fd f_wd e_wn e_fpl w) (k : ∀ (a_rf : Nat) (a_x : Nat) (a_wd : Nat) (e_lr : Int32) (f_rf : Nat → Int32), w = [(a_o, (oc11 a_h a_im a_ke a_k a_wa a_th a_ha a_wk a_r a_x e_tl e_fd e_fpl a_wd e_wn a_rf e_lr)), (a_rf, (arI G 5 f_rf)), (a_x, (arI G 400 f_x)), (a_wd, (arI G 24 f_wd))] → (0 ≤ e_tl.toInt ∧ e_tl.toInt ≤ 400) → (0 ≤ e_wn.toInt ∧ e_wn.toInt ≤ 1) → (TPI f_x) → P) : P := by
  unfold XBO at h
  exact Exists.elim h (fun a_rf h => Exists.elim h (fun a_x h => Exists.elim h (fun a_wd h => Exists.elim h (fun e_lr h => Exists.elim h (fun f_rf h => k a_rf a_x a_wd e_lr f_rf h.1 h.2.1 h.2.2.1 h.2.2.2)))))
set_option maxHeartbeats 4000000 in
set_option maxRecDepth 100000 in
theorem xbH_mk {G : g5_G} {Lw : List LR} {a_h : Nat} {f_ro : Nat → Int32} {g_L : LLS} {g_F : Int32} (a_p : Nat) (a_pn : Nat) (a_bb : Nat) (a_l : Nat) (a_g : Nat) (a_b : Nat) (a_s : Nat) (a_w : Nat) (e_le : Int32) (e_st : Int32) (e_fo : Int32) (e_lc : Int32) (e_wa : Int64) (e_gb : Int64) (e_p : Int32) (f_p : Nat → Int32) (f_bb : Nat → Int64) (e_g : Int32) (e_b : Int32) (f_g : Nat → Int32) (f_b : Nat → Int32) (a_gn : Nat) (a_bn : Nat) (f_l : Nat → Option Nat) (a_sn : Nat) (e_s : Int32) (f_s : Nat → Int32) (a_wn : Nat) (e_w : Int32) (f_w : Nat → Int32) (h0_ : 0 ≤ e_p.toInt ∧ e_p.toInt ≤ 8) (h1_ : 0 ≤ e_g.toInt ∧ e_g.toInt ≤ 6) (h2_ : 0 ≤ e_b.toInt ∧ e_b.toInt ≤ 5) (h3_ : 0 ≤ e_s.toInt ∧ e_s.toInt ≤ 10) (h4_ : 0 ≤ e_w.toInt ∧ e_w.toInt ≤ 6) (h5_ : gOK f_g e_g.toInt) (h6_ : gOK f_p e_p.toInt) (h7_ : inT e_gb f_g e_g.toInt) (h8_ : ∀ r : Int, 0 ≤ r → r < e_s.toInt → 0 ≤ (tget f_s e_s.toInt 4 r (3 : Int32).toInt).toInt ∧ (tget f_s e_s.toInt 4 r (3 : Int32).toInt).toInt ≤ 1) (h9_ : snS f_s e_s.toInt e_s.toInt.toNat ≤ 5) (h10_ : LWS Lw f_l e_lc e_fo) (h11_ : QH e_wa e_le e_st f_ro) (h12_ : QG e_g f_g e_gb f_ro) (h13_ : QB e_b f_b f_bb f_ro) (h14_ : QS e_s f_s f_ro) (h15_ : QP e_p f_p f_ro) (h16_ : QW e_w f_w f_ro) (h17_ : NW f_ro) (h18_ : CLAW Lw f_l e_lc e_fo g_L g_F) : XBH G Lw a_h f_ro g_L g_F [(a_h, (oc1 e_wa e_le e_st e_fo e_lc a_l a_g a_b a_s a_p a_w e_gb a_bb)), (a_l, (arW G 6 f_l)), (a_g, (oc6 6 5 a_gn e_g)), (a_gn, (arI G 30 f_g)), (a_b, (oc6 5 24 a_bn e_b)), (a_bn, (arI G 120 f_b)), (a_s, (oc6 10 4 a_sn e_s)), (a_sn, (arI G 40 f_s)), (a_p, (oc6 8 5 a_pn e_p)), (a_pn, (arI G 40 f_p)), (a_w, (oc6 6 6 a_wn e_w)), (a_wn, (arI G 36 f_w)), (a_bb, (arJ G 24 f_bb))] := Exists.intro a_p (Exists.intro a_pn (Exists.intro a_bb (Exists.intro a_l (Exists.intro a_g (Exists.intro a_b (Exists.intro a_s (Exists.intro a_w (Exists.intro e_le (Exists.intro e_st (Exists.intro e_fo (Exists.intro e_lc (Exists.intro e_wa (Exists.intro e_gb (Exists.intro e_p (Exists.intro f_p (Exists.intro f_bb (Exists.intro e_g (Exists.intro e_b (Exists.intro f_g (Exists.intro f_b (Exists.intro a_gn (Exists.intro a_bn (Exists.intro f_l (Exists.intro a_sn (Exists.intro e_s (Exists.intro f_s (Exists.intro a_wn (Exists.intro e_w (Exists.intro f_w (⟨rfl, h0_, h1_, h2_, h3_, h4_, h5_, h6_, h7_, h8_, h9_, h10_, h11_, h12_, h13_, h14_, h15_, h16_, h17_, h18_⟩))))))))))))))))))))))))))))))
set_option maxHeartbeats 4000000 in
set_option maxRecDepth 100000 in
theorem xbH_elim {G : g5_G} {Lw : List LR} {a_h : Nat} {f_ro : Nat → Int32} {g_L : LLS} {g_F : Int32} {w : va_W} {P : Prop} (h : XBH G Lw a_h f_ro g_L g_F w) (k : ∀ (a_p : Nat) (a_pn : Nat) (a_bb : Nat) (a_l : Nat) (a_g : Nat) (a_b : Nat) (a_s : Nat) (a_w : Nat) (e_le : Int32) (e_st : Int32) (e_fo : Int32) (e_lc : Int32) (e_wa : Int64) (e_gb : Int64) (e_p : Int32) (f_p : Nat → Int32) (f_bb : Nat → Int64) (e_g : Int32) (e_b : Int32) (f_g : Nat → Int32) (f_b : Nat → Int32) (a_gn : Nat) (a_bn : Nat) (f_l : Nat → Option Nat) (a_sn : Nat) (e_s : Int32) (f_s : Nat → Int32) (a_wn : Nat) (e_w : Int32) (f_w : Nat → Int32), w = [(a_h, (oc1 e_wa e_le e_st e_fo e_lc a_l a_g a_b a_s a_p a_w e_gb a_bb)), (a_l, (arW G 6 f_l)), (a_g, (oc6 6 5 a_gn e_g)), (a_gn, (arI G 30 f_g)), (a_b, (oc6 5 24 a_bn e_b)), (a_bn, (arI G 120 f_b)), (a_s, (oc6 10 4 a_sn e_s)), (a_sn, (arI G 40 f_s)), (a_p, (oc6 8 5 a_pn e_p)), (a_pn, (arI G 40 f_p)), (a_w, (oc6 6 6 a_wn e_w)), (a_wn, (arI G 36 f_w)), (a_bb, (arJ G 24 f_bb))] → (0 ≤ e_p.toInt ∧ e_p.toInt ≤ 8) → (0 ≤ e_g.toInt ∧ e_g.toInt ≤ 6) → (0 ≤ e_b.toInt ∧ e_b.toInt ≤ 5) → (0 ≤ e_s.toInt ∧ e_s.toInt ≤ 10) → (0 ≤ e_w.toInt ∧ e_w.toInt ≤ 6) → (gOK f_g e_g.toInt) → (gOK f_p e_p.toInt) → (inT e_gb f_g e_g.toInt) → (∀ r : Int, 0 ≤ r → r < e_s.toInt → 0 ≤ (tget f_s e_s.toInt 4 r (3 : Int32).toInt).toInt ∧ (tget f_s e_s.toInt 4 r (3 : Int32).toInt).toInt ≤ 1) → (snS f_s e_s.toInt e_s.toInt.toNat ≤ 5) → (LWS Lw f_l e_lc e_fo) → (QH e_wa e_le e_st f_ro) → (QG e_g f_g e_gb f_ro) → (QB e_b f_b f_bb f_ro) → (QS e_s f_s f_ro) → (QP e_p f_p f_ro) → (QW e_w f_w f_ro) → (NW f_ro) → (CLAW Lw f_l e_lc e_fo g_L g_F) → P) : P := by
  unfold XBH at h
  exact Exists.elim h (fun a_p h => Exists.elim h (fun a_pn h => Exists.elim h (fun a_bb h => Exists.elim h (fun a_l h => Exists.elim h (fun a_g h => Exists.elim h (fun a_b h => Exists.elim h (fun a_s h => Exists.elim h (fun a_w h => Exists.elim h (fun e_le h => Exists.elim h (fun e_st h => Exists.elim h (fun e_fo h => Exists.elim h (fun e_lc h => Exists.elim h (fun e_wa h => Exists.elim h (fun e_gb h => Exists.elim h (fun e_p h => Exists.elim h (fun f_p h => Exists.elim h (fun f_bb h => Exists.elim h (fun e_g h => Exists.elim h (fun e_b h => Exists.elim h (fun f_g h => Exists.elim h (fun f_b h => Exists.elim h (fun a_gn h => Exists.elim h (fun a_bn h => Exists.elim h (fun f_l h => Exists.elim h (fun a_sn h => Exists.elim h (fun e_s h => Exists.elim h (fun f_s h => Exists.elim h (fun a_wn h => Exists.elim h (fun e_w h => Exists.elim h (fun f_w h => k a_p a_pn a_bb a_l a_g a_b a_s a_w e_le e_st e_fo e_lc e_wa e_gb e_p f_p f_bb e_g e_b f_g f_b a_gn a_bn f_l a_sn e_s f_s a_wn e_w f_w h.1 h.2.1 h.2.2.1 h.2.2.2.1 h.2.2.2.2.1 h.2.2.2.2.2.1 h.2.2.2.2.2.2.1 h.2.2.2.2.2.2.2.1 h.2.2.2.2.2.2.2.2.1 h.2.2.2.2.2.2.2.2.2.1 h.2.2.2.2.2.2.2.2.2.2.1 h.2.2.2.2.2.2.2.2.2.2.2.1 h.2.2.2.2.2.2.2.2.2.2.2.2.1 h.2.2.2.2.2.2.2.2.2.2.2.2.2.1 h.2.2.2.2.2.2.2.2.2.2.2.2.2.2.1 h.2.2.2.2.2.2.2.2.2.2.2.2.2.2.2.1 h.2.2.2.2.2.2.2.2.2.2.2.2.2.2.2.2.1 h.2.2.2.2.2.2.2.2.2.2.2.2.2.2.2.2.2.1 h.2.2.2.2.2.2.2.2.2.2.2.2.2.2.2.2.2.2.1 h.2.2.2.2.2.2.2.2.2.2.2.2.2.2.2.2.2.2.2))))))))))))))))))))))))))))))
set_option maxHeartbeats 4000000 in
set_option maxRecDepth 100000 in
theorem xbI_mk {G : g5_G} {Lw : List LR} {a_im a_ke : Nat} {f_im : Nat → Int32} {f_ke : Nat → Int32} {g_M : LMS} (a_h2 : Nat) (a_l2 : Nat) (a_g2 : Nat) (a_gn2 : Nat) (a_b2 : Nat) (a_bn2 : Nat) (a_s2 : Nat) (a_sn2 : Nat) (a_p2 : Nat) (a_pn2 : Nat) (a_w2 : Nat) (a_wn2 : Nat) (a_bb2 : Nat) (a_h3 : Nat) (e_le2 : Int32) (e_st2 : Int32) (e_fo2 : Int32) (e_lc2 : Int32) (e_wa2 : Int64) (e_gb2 : Int64) (f_l2 : Nat → Option Nat) (e_g2 : Int32) (f_g2 : Nat → Int32) (e_b2 : Int32) (f_b2 : Nat → Int32) (e_s2 : Int32) (f_s2 : Nat → Int32) (e_p2 : Int32) (f_p2 : Nat → Int32) (e_w2 : Int32) (f_w2 : Nat → Int32) (f_bb2 : Nat → Int64) (a_l3 : Nat) (a_g3 : Nat) (a_gn3 : Nat) (a_b3 : Nat) (a_bn3 : Nat) (a_s3 : Nat) (a_sn3 : Nat) (a_p3 : Nat) (a_pn3 : Nat) (a_w3 : Nat) (a_wn3 : Nat) (a_bb3 : Nat) (e_le3 : Int32) (e_st3 : Int32) (e_fo3 : Int32) (e_lc3 : Int32) (e_wa3 : Int64) (e_gb3 : Int64) (f_l3 : Nat → Option Nat) (e_g3 : Int32) (f_g3 : Nat → Int32) (e_b3 : Int32) (f_b3 : Nat → Int32) (e_s3 : Int32) (f_s3 : Nat → Int32) (e_p3 : Int32) (f_p3 : Nat → Int32) (e_w3 : Int32) (f_w3 : Nat → Int32) (f_bb3 : Nat → Int64) (h0_ : 0 ≤ e_g2.toInt ∧ e_g2.toInt ≤ 6) (h1_ : 0 ≤ e_b2.toInt ∧ e_b2.toInt ≤ 5) (h2_ : 0 ≤ e_s2.toInt ∧ e_s2.toInt ≤ 10) (h3_ : 0 ≤ e_p2.toInt ∧ e_p2.toInt ≤ 8) (h4_ : 0 ≤ e_w2.toInt ∧ e_w2.toInt ≤ 6) (h5_ : 0 ≤ e_g3.toInt ∧ e_g3.toInt ≤ 6) (h6_ : 0 ≤ e_b3.toInt ∧ e_b3.toInt ≤ 5) (h7_ : 0 ≤ e_s3.toInt ∧ e_s3.toInt ≤ 10) (h8_ : 0 ≤ e_p3.toInt ∧ e_p3.toInt ≤ 8) (h9_ : 0 ≤ e_w3.toInt ∧ e_w3.toInt ≤ 6) (h10_ : gOK f_g2 e_g2.toInt) (h11_ : gOK f_p2 e_p2.toInt) (h12_ : inT e_gb2 f_g2 e_g2.toInt) (h13_ : ∀ r : Int, 0 ≤ r → r < e_s2.toInt → 0 ≤ (tget f_s2 e_s2.toInt 4 r (3 : Int32).toInt).toInt ∧ (tget f_s2 e_s2.toInt 4 r (3 : Int32).toInt).toInt ≤ 1) (h14_ : snS f_s2 e_s2.toInt e_s2.toInt.toNat ≤ 5) (h15_ : LWS Lw f_l2 e_lc2 e_fo2) (h16_ : gOK f_g3 e_g3.toInt) (h17_ : gOK f_p3 e_p3.toInt) (h18_ : inT e_gb3 f_g3 e_g3.toInt) (h19_ : ∀ r : Int, 0 ≤ r → r < e_s3.toInt → 0 ≤ (tget f_s3 e_s3.toInt 4 r (3 : Int32).toInt).toInt ∧ (tget f_s3 e_s3.toInt 4 r (3 : Int32).toInt).toInt ≤ 1) (h20_ : snS f_s3 e_s3.toInt e_s3.toInt.toNat ≤ 5) (h21_ : LWS Lw f_l3 e_lc3 e_fo3) (h22_ : QML 0 f_ke Lw f_l2 e_lc2 e_fo2 g_M) (h23_ : QML 1 f_ke Lw f_l3 e_lc3 e_fo3 g_M) (h24_ : QIM 0 f_ke f_im e_wa2 e_le2 e_st2 e_g2 f_g2 e_gb2 e_b2 f_b2 f_bb2 e_s2 f_s2 e_p2 f_p2 e_w2 f_w2) (h25_ : QIM 1 f_ke f_im e_wa3 e_le3 e_st3 e_g3 f_g3 e_gb3 e_b3 f_b3 f_bb3 e_s3 f_s3 e_p3 f_p3 e_w3 f_w3) : XBI G Lw a_im a_ke f_im f_ke g_M [(a_im, (arH G 2 (va_up (va_up (fun _ => none) 0 (some a_h2)) 1 (some a_h3)))), (a_ke, (arZ G 2 f_ke)), (a_h2, (oc1 e_wa2 e_le2 e_st2 e_fo2 e_lc2 a_l2 a_g2 a_b2 a_s2 a_p2 a_w2 e_gb2 a_bb2)), (a_l2, (arW G 6 f_l2)), (a_g2, (oc6 6 5 a_gn2 e_g2)), (a_gn2, (arI G 30 f_g2)), (a_b2, (oc6 5 24 a_bn2 e_b2)), (a_bn2, (arI G 120 f_b2)), (a_s2, (oc6 10 4 a_sn2 e_s2)), (a_sn2, (arI G 40 f_s2)), (a_p2, (oc6 8 5 a_pn2 e_p2)), (a_pn2, (arI G 40 f_p2)), (a_w2, (oc6 6 6 a_wn2 e_w2)), (a_wn2, (arI G 36 f_w2)), (a_bb2, (arJ G 24 f_bb2)), (a_h3, (oc1 e_wa3 e_le3 e_st3 e_fo3 e_lc3 a_l3 a_g3 a_b3 a_s3 a_p3 a_w3 e_gb3 a_bb3)), (a_l3, (arW G 6 f_l3)), (a_g3, (oc6 6 5 a_gn3 e_g3)), (a_gn3, (arI G 30 f_g3)), (a_b3, (oc6 5 24 a_bn3 e_b3)), (a_bn3, (arI G 120 f_b3)), (a_s3, (oc6 10 4 a_sn3 e_s3)), (a_sn3, (arI G 40 f_s3)), (a_p3, (oc6 8 5 a_pn3 e_p3)), (a_pn3, (arI G 40 f_p3)), (a_w3, (oc6 6 6 a_wn3 e_w3)), (a_wn3, (arI G 36 f_w3)), (a_bb3, (arJ G 24 f_bb3))] := Exists.intro a_h2 (Exists.intro a_l2 (Exists.intro a_g2 (Exists.intro a_gn2 (Exists.intro a_b2 (Exists.intro a_bn2 (Exists.intro a_s2 (Exists.intro a_sn2 (Exists.intro a_p2 (Exists.intro a_pn2 (Exists.intro a_w2 (Exists.intro a_wn2 (Exists.intro a_bb2 (Exists.intro a_h3 (Exists.intro e_le2 (Exists.intro e_st2 (Exists.intro e_fo2 (Exists.intro e_lc2 (Exists.intro e_wa2 (Exists.intro e_gb2 (Exists.intro f_l2 (Exists.intro e_g2 (Exists.intro f_g2 (Exists.intro e_b2 (Exists.intro f_b2 (Exists.intro e_s2 (Exists.intro f_s2 (Exists.intro e_p2 (Exists.intro f_p2 (Exists.intro e_w2 (Exists.intro f_w2 (Exists.intro f_bb2 (Exists.intro a_l3 (Exists.intro a_g3 (Exists.intro a_gn3 (Exists.intro a_b3 (Exists.intro a_bn3 (Exists.intro a_s3 (Exists.intro a_sn3 (Exists.intro a_p3 (Exists.intro a_pn3 (Exists.intro a_w3 (Exists.intro a_wn3 (Exists.intro a_bb3 (Exists.intro e_le3 (Exists.intro e_st3 (Exists.intro e_fo3 (Exists.intro e_lc3 (Exists.intro e_wa3 (Exists.intro e_gb3 (Exists.intro f_l3 (Exists.intro e_g3 (Exists.intro f_g3 (Exists.intro e_b3 (Exists.intro f_b3 (Exists.intro e_s3 (Exists.intro f_s3 (Exists.intro e_p3 (Exists.intro f_p3 (Exists.intro e_w3 (Exists.intro f_w3 (Exists.intro f_bb3 (⟨rfl, h0_, h1_, h2_, h3_, h4_, h5_, h6_, h7_, h8_, h9_, h10_, h11_, h12_, h13_, h14_, h15_, h16_, h17_, h18_, h19_, h20_, h21_, h22_, h23_, h24_, h25_⟩))))))))))))))))))))))))))))))))))))))))))))))))))))))))))))))
set_option maxHeartbeats 4000000 in
set_option maxRecDepth 100000 in
theorem xbI_elim {G : g5_G} {Lw : List LR} {a_im a_ke : Nat} {f_im : Nat → Int32} {f_ke : Nat → Int32} {g_M : LMS} {w : va_W} {P : Prop} (h : XBI G Lw a_im a_ke f_im f_ke g_M w) (k : ∀ (a_h2 : Nat) (a_l2 : Nat) (a_g2 : Nat) (a_gn2 : Nat) (a_b2 : Nat) (a_bn2 : Nat) (a_s2 : Nat) (a_sn2 : Nat) (a_p2 : Nat) (a_pn2 : Nat) (a_w2 : Nat) (a_wn2 : Nat) (a_bb2 : Nat) (a_h3 : Nat) (e_le2 : Int32) (e_st2 : Int32) (e_fo2 : Int32) (e_lc2 : Int32) (e_wa2 : Int64) (e_gb2 : Int64) (f_l2 : Nat → Option Nat) (e_g2 : Int32) (f_g2 : Nat → Int32) (e_b2 : Int32) (f_b2 : Nat → Int32) (e_s2 : Int32) (f_s2 : Nat → Int32) (e_p2 : Int32) (f_p2 : Nat → Int32) (e_w2 : Int32) (f_w2 : Nat → Int32) (f_bb2 : Nat → Int64) (a_l3 : Nat) (a_g3 : Nat) (a_gn3 : Nat) (a_b3 : Nat) (a_bn3 : Nat) (a_s3 : Nat) (a_sn3 : Nat) (a_p3 : Nat) (a_pn3 : Nat) (a_w3 : Nat) (a_wn3 : Nat) (a_bb3 : Nat) (e_le3 : Int32) (e_st3 : Int32) (e_fo3 : Int32) (e_lc3 : Int32) (e_wa3 : Int64) (e_gb3 : Int64) (f_l3 : Nat → Option Nat) (e_g3 : Int32) (f_g3 : Nat → Int32) (e_b3 : Int32) (f_b3 : Nat → Int32) (e_s3 : Int32) (f_s3 : Nat → Int32) (e_p3 : Int32) (f_p3 : Nat → Int32) (e_w3 : Int32) (f_w3 : Nat → Int32) (f_bb3 : Nat → Int64), w = [(a_im, (arH G 2 (va_up (va_up (fun _ => none) 0 (some a_h2)) 1 (some a_h3)))), (a_ke, (arZ G 2 f_ke)), (a_h2, (oc1 e_wa2 e_le2 e_st2 e_fo2 e_lc2 a_l2 a_g2 a_b2 a_s2 a_p2 a_w2 e_gb2 a_bb2)), (a_l2, (arW G 6 f_l2)), (a_g2, (oc6 6 5 a_gn2 e_g2)), (a_gn2, (arI G 30 f_g2)), (a_b2, (oc6 5 24 a_bn2 e_b2)), (a_bn2, (arI G 120 f_b2)), (a_s2, (oc6 10 4 a_sn2 e_s2)), (a_sn2, (arI G 40 f_s2)), (a_p2, (oc6 8 5 a_pn2 e_p2)), (a_pn2, (arI G 40 f_p2)), (a_w2, (oc6 6 6 a_wn2 e_w2)), (a_wn2, (arI G 36 f_w2)), (a_bb2, (arJ G 24 f_bb2)), (a_h3, (oc1 e_wa3 e_le3 e_st3 e_fo3 e_lc3 a_l3 a_g3 a_b3 a_s3 a_p3 a_w3 e_gb3 a_bb3)), (a_l3, (arW G 6 f_l3)), (a_g3, (oc6 6 5 a_gn3 e_g3)), (a_gn3, (arI G 30 f_g3)), (a_b3, (oc6 5 24 a_bn3 e_b3)), (a_bn3, (arI G 120 f_b3)), (a_s3, (oc6 10 4 a_sn3 e_s3)), (a_sn3, (arI G 40 f_s3)), (a_p3, (oc6 8 5 a_pn3 e_p3)), (a_pn3, (arI G 40 f_p3)), (a_w3, (oc6 6 6 a_wn3 e_w3)), (a_wn3, (arI G 36 f_w3)), (a_bb3, (arJ G 24 f_bb3))] → (0 ≤ e_g2.toInt ∧ e_g2.toInt ≤ 6) → (0 ≤ e_b2.toInt ∧ e_b2.toInt ≤ 5) → (0 ≤ e_s2.toInt ∧ e_s2.toInt ≤ 10) → (0 ≤ e_p2.toInt ∧ e_p2.toInt ≤ 8) → (0 ≤ e_w2.toInt ∧ e_w2.toInt ≤ 6) → (0 ≤ e_g3.toInt ∧ e_g3.toInt ≤ 6) → (0 ≤ e_b3.toInt ∧ e_b3.toInt ≤ 5) → (0 ≤ e_s3.toInt ∧ e_s3.toInt ≤ 10) → (0 ≤ e_p3.toInt ∧ e_p3.toInt ≤ 8) → (0 ≤ e_w3.toInt ∧ e_w3.toInt ≤ 6) → (gOK f_g2 e_g2.toInt) → (gOK f_p2 e_p2.toInt) → (inT e_gb2 f_g2 e_g2.toInt) → (∀ r : Int, 0 ≤ r → r < e_s2.toInt → 0 ≤ (tget f_s2 e_s2.toInt 4 r (3 : Int32).toInt).toInt ∧ (tget f_s2 e_s2.toInt 4 r (3 : Int32).toInt).toInt ≤ 1) → (snS f_s2 e_s2.toInt e_s2.toInt.toNat ≤ 5) → (LWS Lw f_l2 e_lc2 e_fo2) → (gOK f_g3 e_g3.toInt) → (gOK f_p3 e_p3.toInt) → (inT e_gb3 f_g3 e_g3.toInt) → (∀ r : Int, 0 ≤ r → r < e_s3.toInt → 0 ≤ (tget f_s3 e_s3.toInt 4 r (3 : Int32).toInt).toInt ∧ (tget f_s3 e_s3.toInt 4 r (3 : Int32).toInt).toInt ≤ 1) → (snS f_s3 e_s3.toInt e_s3.toInt.toNat ≤ 5) → (LWS Lw f_l3 e_lc3 e_fo3) → (QML 0 f_ke Lw f_l2 e_lc2 e_fo2 g_M) → (QML 1 f_ke Lw f_l3 e_lc3 e_fo3 g_M) → (QIM 0 f_ke f_im e_wa2 e_le2 e_st2 e_g2 f_g2 e_gb2 e_b2 f_b2 f_bb2 e_s2 f_s2 e_p2 f_p2 e_w2 f_w2) → (QIM 1 f_ke f_im e_wa3 e_le3 e_st3 e_g3 f_g3 e_gb3 e_b3 f_b3 f_bb3 e_s3 f_s3 e_p3 f_p3 e_w3 f_w3) → P) : P := by
  unfold XBI at h
  exact Exists.elim h (fun a_h2 h => Exists.elim h (fun a_l2 h => Exists.elim h (fun a_g2 h => Exists.elim h (fun a_gn2 h => Exists.elim h (fun a_b2 h => Exists.elim h (fun a_bn2 h => Exists.elim h (fun a_s2 h => Exists.elim h (fun a_sn2 h => Exists.elim h (fun a_p2 h => Exists.elim h (fun a_pn2 h => Exists.elim h (fun a_w2 h => Exists.elim h (fun a_wn2 h => Exists.elim h (fun a_bb2 h => Exists.elim h (fun a_h3 h => Exists.elim h (fun e_le2 h => Exists.elim h (fun e_st2 h => Exists.elim h (fun e_fo2 h => Exists.elim h (fun e_lc2 h => Exists.elim h (fun e_wa2 h => Exists.elim h (fun e_gb2 h => Exists.elim h (fun f_l2 h => Exists.elim h (fun e_g2 h => Exists.elim h (fun f_g2 h => Exists.elim h (fun e_b2 h => Exists.elim h (fun f_b2 h => Exists.elim h (fun e_s2 h => Exists.elim h (fun f_s2 h => Exists.elim h (fun e_p2 h => Exists.elim h (fun f_p2 h => Exists.elim h (fun e_w2 h => Exists.elim h (fun f_w2 h => Exists.elim h (fun f_bb2 h => Exists.elim h (fun a_l3 h => Exists.elim h (fun a_g3 h => Exists.elim h (fun a_gn3 h => Exists.elim h (fun a_b3 h => Exists.elim h (fun a_bn3 h => Exists.elim h (fun a_s3 h => Exists.elim h (fun a_sn3 h => Exists.elim h (fun a_p3 h => Exists.elim h (fun a_pn3 h => Exists.elim h (fun a_w3 h => Exists.elim h (fun a_wn3 h => Exists.elim h (fun a_bb3 h => Exists.elim h (fun e_le3 h => Exists.elim h (fun e_st3 h => Exists.elim h (fun e_fo3 h => Exists.elim h (fun e_lc3 h => Exists.elim h (fun e_wa3 h => Exists.elim h (fun e_gb3 h => Exists.elim h (fun f_l3 h => Exists.elim h (fun e_g3 h => Exists.elim h (fun f_g3 h => Exists.elim h (fun e_b3 h => Exists.elim h (fun f_b3 h => Exists.elim h (fun e_s3 h => Exists.elim h (fun f_s3 h => Exists.elim h (fun e_p3 h => Exists.elim h (fun f_p3 h => Exists.elim h (fun e_w3 h => Exists.elim h (fun f_w3 h => Exists.elim h (fun f_bb3 h => k a_h2 a_l2 a_g2 a_gn2 a_b2 a_bn2 a_s2 a_sn2 a_p2 a_pn2 a_w2 a_wn2 a_bb2 a_h3 e_le2 e_st2 e_fo2 e_lc2 e_wa2 e_gb2 f_l2 e_g2 f_g2 e_b2 f_b2 e_s2 f_s2 e_p2 f_p2 e_w2 f_w2 f_bb2 a_l3 a_g3 a_gn3 a_b3 a_bn3 a_s3 a_sn3 a_p3 a_pn3 a_w3 a_wn3 a_bb3 e_le3 e_st3 e_fo3 e_lc3 e_wa3 e_gb3 f_l3 e_g3 f_g3 e_b3 f_b3 e_s3 f_s3 e_p3 f_p3 e_w3 f_w3 f_bb3 h.1 h.2.1 h.2.2.1 h.2.2.2.1 h.2.2.2.2.1 h.2.2.2.2.2.1 h.2.2.2.2.2.2.1 h.2.2.2.2.2.2.2.1 h.2.2.2.2.2.2.2.2.1 h.2.2.2.2.2.2.2.2.2.1 h.2.2.2.2.2.2.2.2.2.2.1 h.2.2.2.2.2.2.2.2.2.2.2.1 h.2.2.2.2.2.2.2.2.2.2.2.2.1 h.2.2.2.2.2.2.2.2.2.2.2.2.2.1 h.2.2.2.2.2.2.2.2.2.2.2.2.2.2.1 h.2.2.2.2.2.2.2.2.2.2.2.2.2.2.2.1 h.2.2.2.2.2.2.2.2.2.2.2.2.2.2.2.2.1 h.2.2.2.2.2.2.2.2.2.2.2.2.2.2.2.2.2.1 h.2.2.2.2.2.2.2.2.2.2.2.2.2.2.2.2.2.2.1 h.2.2.2.2.2.2.2.2.2.2.2.2.2.2.2.2.2.2.2.1 h.2.2.2.2.2.2.2.2.2.2.2.2.2.2.2.2.2.2.2.2.1 h.2.2.2.2.2.2.2.2.2.2.2.2.2.2.2.2.2.2.2.2.2.1 h.2.2.2.2.2.2.2.2.2.2.2.2.2.2.2.2.2.2.2.2.2.2.1 h.2.2.2.2.2.2.2.2.2.2.2.2.2.2.2.2.2.2.2.2.2.2.2.1 h.2.2.2.2.2.2.2.2.2.2.2.2.2.2.2.2.2.2.2.2.2.2.2.2.1 h.2.2.2.2.2.2.2.2.2.2.2.2.2.2.2.2.2.2.2.2.2.2.2.2.2.1 h.2.2.2.2.2.2.2.2.2.2.2.2.2.2.2.2.2.2.2.2.2.2.2.2.2.2))))))))))))))))))))))))))))))))))))))))))))))))))))))))))))))
set_option maxHeartbeats 4000000 in
set_option maxRecDepth 100000 in
theorem xbK_mk {G : g5_G} {Lw : List LR} {a_h a_k : Nat} (a_j : Nat) (a_as : Nat) (a_sk : Nat) (a_pt : Nat) (f_as : Nat → Int32) (f_sk : Nat → Int64) (e_ln : Int32) (e_se : Int32) (e_lh : Int32) (e_br : Int32) (e_we : Int32) (e_me : Int32) (e_ce : Int32) (e_wy : Int32) (e_ho : Int32) (e_ov : Int32) (f_pt : Nat → Int32) (h0_ : 0 ≤ e_ov.toInt ∧ e_ov.toInt ≤ 1) : XBK G Lw a_h a_k [(a_k, (oc5 a_h a_j a_pt e_ln e_se e_lh e_br e_we e_me e_ce e_wy e_ho e_ov)), (a_j, (oc2 a_as a_sk)), (a_as, (arI G 8 f_as)), (a_sk, (arJ G 50 f_sk)), (a_pt, (arI G 200 f_pt))] := Exists.intro a_j (Exists.intro a_as (Exists.intro a_sk (Exists.intro a_pt (Exists.intro f_as (Exists.intro f_sk (Exists.intro e_ln (Exists.intro e_se (Exists.intro e_lh (Exists.intro e_br (Exists.intro e_we (Exists.intro e_me (Exists.intro e_ce (Exists.intro e_wy (Exists.intro e_ho (Exists.intro e_ov (Exists.intro f_pt (⟨rfl, h0_⟩)))))))))))))))))
set_option maxHeartbeats 4000000 in
set_option maxRecDepth 100000 in
theorem xbK_elim {G : g5_G} {Lw : List LR} {a_h a_k : Nat} {w : va_W} {P : Prop} (h : XBK G Lw a_h a_k w) (k : ∀ (a_j : Nat) (a_as : Nat) (a_sk : Nat) (a_pt : Nat) (f_as : Nat → Int32) (f_sk : Nat → Int64) (e_ln : Int32) (e_se : Int32) (e_lh : Int32) (e_br : Int32) (e_we : Int32) (e_me : Int32) (e_ce : Int32) (e_wy : Int32) (e_ho : Int32) (e_ov : Int32) (f_pt : Nat → Int32), w = [(a_k, (oc5 a_h a_j a_pt e_ln e_se e_lh e_br e_we e_me e_ce e_wy e_ho e_ov)), (a_j, (oc2 a_as a_sk)), (a_as, (arI G 8 f_as)), (a_sk, (arJ G 50 f_sk)), (a_pt, (arI G 200 f_pt))] → (0 ≤ e_ov.toInt ∧ e_ov.toInt ≤ 1) → P) : P := by
  unfold XBK at h
  exact Exists.elim h (fun a_j h => Exists.elim h (fun a_as h => Exists.elim h (fun a_sk h => Exists.elim h (fun a_pt h => Exists.elim h (fun f_as h => Exists.elim h (fun f_sk h => Exists.elim h (fun e_ln h => Exists.elim h (fun e_se h => Exists.elim h (fun e_lh h => Exists.elim h (fun e_br h => Exists.elim h (fun e_we h => Exists.elim h (fun e_me h => Exists.elim h (fun e_ce h => Exists.elim h (fun e_wy h => Exists.elim h (fun e_ho h => Exists.elim h (fun e_ov h => Exists.elim h (fun f_pt h => k a_j a_as a_sk a_pt f_as f_sk e_ln e_se e_lh e_br e_we e_me e_ce e_wy e_ho e_ov f_pt h.1 h.2)))))))))))))))))
set_option maxHeartbeats 4000000 in
set_option maxRecDepth 100000 in
theorem xbW_mk {G : g5_G} {Lw : List LR} {a_h a_k a_wa : Nat} (a_bo : Nat) (f_bo : Nat → Int64)  : XBW G Lw a_h a_k a_wa [(a_wa, (oc10 a_h a_k a_bo)), (a_bo, (arJ G 24 f_bo))] := Exists.intro a_bo (Exists.intro f_bo (rfl))
set_option maxHeartbeats 4000000 in
set_option maxRecDepth 100000 in
theorem xbW_elim {G : g5_G} {Lw : List LR} {a_h a_k a_wa : Nat} {w : va_W} {P : Prop} (h : XBW G Lw a_h a_k a_wa w) (k : ∀ (a_bo : Nat) (f_bo : Nat → Int64), w = [(a_wa, (oc10 a_h a_k a_bo)), (a_bo, (arJ G 24 f_bo))] → P) : P := by
  unfold XBW at h
  exact Exists.elim h (fun a_bo h => Exists.elim h (fun f_bo h => k a_bo f_bo h))
set_option maxHeartbeats 4000000 in
set_option maxRecDepth 100000 in
theorem xbT_mk {G : g5_G} {Lw : List LR} {a_h a_k a_th : Nat} (a_ba : Nat) (a_ad : Nat) (a_cn : Nat) (a_nx : Nat) (a_hp : Nat) (a_hl : Nat) (a_lv : Nat) (e_fu : Int32) (f_ba : Nat → Int64) (f_ad : Nat → Int32) (f_cn : Nat → Int64) (f_nx : Nat → Int64) (f_hp : Nat → Int32) (f_hl : Nat → Int32) (f_lv : Nat → Int32)  : XBT G Lw a_h a_k a_th [(a_th, (oc7 a_h a_k a_ba a_ad e_fu a_cn a_nx a_hp a_hl a_lv)), (a_ba, (arJ G 24 f_ba)), (a_ad, (arI G 1536 f_ad)), (a_cn, (arJ G 2048 f_cn)), (a_nx, (arJ G 2048 f_nx)), (a_hp, (arI G 1536 f_hp)), (a_hl, (arI G 64 f_hl)), (a_lv, (arI G 64 f_lv))] := Exists.intro a_ba (Exists.intro a_ad (Exists.intro a_cn (Exists.intro a_nx (Exists.intro a_hp (Exists.intro a_hl (Exists.intro a_lv (Exists.intro e_fu (Exists.intro f_ba (Exists.intro f_ad (Exists.intro f_cn (Exists.intro f_nx (Exists.intro f_hp (Exists.intro f_hl (Exists.intro f_lv (rfl)))))))))))))))
set_option maxHeartbeats 4000000 in
set_option maxRecDepth 100000 in
theorem xbT_elim {G : g5_G} {Lw : List LR} {a_h a_k a_th : Nat} {w : va_W} {P : Prop} (h : XBT G Lw a_h a_k a_th w) (k : ∀ (a_ba : Nat) (a_ad : Nat) (a_cn : Nat) (a_nx : Nat) (a_hp : Nat) (a_hl : Nat) (a_lv : Nat) (e_fu : Int32) (f_ba : Nat → Int64) (f_ad : Nat → Int32) (f_cn : Nat → Int64) (f_nx : Nat → Int64) (f_hp : Nat → Int32) (f_hl : Nat → Int32) (f_lv : Nat → Int32), w = [(a_th, (oc7 a_h a_k a_ba a_ad e_fu a_cn a_nx a_hp a_hl a_lv)), (a_ba, (arJ G 24 f_ba)), (a_ad, (arI G 1536 f_ad)), (a_cn, (arJ G 2048 f_cn)), (a_nx, (arJ G 2048 f_nx)), (a_hp, (arI G 1536 f_hp)), (a_hl, (arI G 64 f_hl)), (a_lv, (arI G 64 f_lv))] → P) : P := by
  unfold XBT at h
  exact Exists.elim h (fun a_ba h => Exists.elim h (fun a_ad h => Exists.elim h (fun a_cn h => Exists.elim h (fun a_nx h => Exists.elim h (fun a_hp h => Exists.elim h (fun a_hl h => Exists.elim h (fun a_lv h => Exists.elim h (fun e_fu h => Exists.elim h (fun f_ba h => Exists.elim h (fun f_ad h => Exists.elim h (fun f_cn h => Exists.elim h (fun f_nx h => Exists.elim h (fun f_hp h => Exists.elim h (fun f_hl h => Exists.elim h (fun f_lv h => k a_ba a_ad a_cn a_nx a_hp a_hl a_lv e_fu f_ba f_ad f_cn f_nx f_hp f_hl f_lv h)))))))))))))))
set_option maxHeartbeats 4000000 in
set_option maxRecDepth 100000 in
theorem xbG_mk {G : g5_G} {Lw : List LR} {a_h a_k a_ha : Nat} (e_f1 : Int32) (e_f2 : Int32) (e_f3 : Int32)  : XBG G Lw a_h a_k a_ha [(a_ha, (oc0 a_h a_k e_f1 e_f2 e_f3))] := Exists.intro e_f1 (Exists.intro e_f2 (Exists.intro e_f3 (rfl)))
set_option maxHeartbeats 4000000 in
set_option maxRecDepth 100000 in
theorem xbG_elim {G : g5_G} {Lw : List LR} {a_h a_k a_ha : Nat} {w : va_W} {P : Prop} (h : XBG G Lw a_h a_k a_ha w) (k : ∀ (e_f1 : Int32) (e_f2 : Int32) (e_f3 : Int32), w = [(a_ha, (oc0 a_h a_k e_f1 e_f2 e_f3))] → P) : P := by
  unfold XBG at h
  exact Exists.elim h (fun e_f1 h => Exists.elim h (fun e_f2 h => Exists.elim h (fun e_f3 h => k e_f1 e_f2 e_f3 h)))
set_option maxHeartbeats 4000000 in
set_option maxRecDepth 100000 in
theorem xbA_mk {G : g5_G} {Lw : List LR} {a_h a_k a_wk : Nat} (a_go : Nat) (a_mt : Nat) (f_go : Nat → Int64) (f_mt : Nat → Int32)  : XBA G Lw a_h a_k a_wk [(a_wk, (oc9 a_h a_k a_go a_mt)), (a_go, (arJ G 24 f_go)), (a_mt, (arI G 1536 f_mt))] := Exists.intro a_go (Exists.intro a_mt (Exists.intro f_go (Exists.intro f_mt (rfl))))
set_option maxHeartbeats 4000000 in
set_option maxRecDepth 100000 in
theorem xbA_elim {G : g5_G} {Lw : List LR} {a_h a_k a_wk : Nat} {w : va_W} {P : Prop} (h : XBA G Lw a_h a_k a_wk w) (k : ∀ (a_go : Nat) (a_mt : Nat) (f_go : Nat → Int64) (f_mt : Nat → Int32), w = [(a_wk, (oc9 a_h a_k a_go a_mt)), (a_go, (arJ G 24 f_go)), (a_mt, (arI G 1536 f_mt))] → P) : P := by
  unfold XBA at h
  exact Exists.elim h (fun a_go h => Exists.elim h (fun a_mt h => Exists.elim h (fun f_go h => Exists.elim h (fun f_mt h => k a_go a_mt f_go f_mt h))))
set_option maxHeartbeats 4000000 in
set_option maxRecDepth 100000 in
theorem xbR_mk {G : g5_G} {Lw : List LR} {a_r : Nat} (a_tk : Nat) (a_kd : Nat) (a_nm : Nat) (a_pl : Nat) (a_rc : Nat) (a_rh : Nat) (a_rs : Nat) (e_rl : Int32) (e_pa : Int32) (e_at : Int32) (e_fp : Int32) (f_kd : Nat → Int32) (f_nm : Nat → Int32) (f_pl : Nat → Int32) (f_rc : Nat → Int32) (f_rh : Nat → Int32) (f_rs : Nat → Int32) (h0_ : 0 ≤ e_rl.toInt ∧ e_rl.toInt ≤ 400) (h1_ : 0 ≤ e_pa.toInt ∧ e_pa.toInt ≤ 50) (h2_ : 0 ≤ e_at.toInt ∧ e_at.toInt ≤ 401) (h3_ : TOKI f_kd f_nm) : XBR G Lw a_r [(a_r, (oc4 a_tk a_rh a_rs a_rc e_rl e_pa e_at e_fp)), (a_tk, (oc8 a_kd a_nm a_pl)), (a_kd, (arI G 401 f_kd)), (a_nm, (arI G 401 f_nm)), (a_pl, (arI G 401 f_pl)), (a_rc, (arI G 400 f_rc)), (a_rh, (arI G 12 f_rh)), (a_rs, (arI G 13 f_rs))] := Exists.intro a_tk (Exists.intro a_kd (Exists.intro a_nm (Exists.intro a_pl (Exists.intro a_rc (Exists.intro a_rh (Exists.intro a_rs (Exists.intro e_rl (Exists.intro e_pa (Exists.intro e_at (Exists.intro e_fp (Exists.intro f_kd (Exists.intro f_nm (Exists.intro f_pl (Exists.intro f_rc (Exists.intro f_rh (Exists.intro f_rs (⟨rfl, h0_, h1_, h2_, h3_⟩)))))))))))))))))
set_option maxHeartbeats 4000000 in
set_option maxRecDepth 100000 in
theorem xbR_elim {G : g5_G} {Lw : List LR} {a_r : Nat} {w : va_W} {P : Prop} (h : XBR G Lw a_r w) (k : ∀ (a_tk : Nat) (a_kd : Nat) (a_nm : Nat) (a_pl : Nat) (a_rc : Nat) (a_rh : Nat) (a_rs : Nat) (e_rl : Int32) (e_pa : Int32) (e_at : Int32) (e_fp : Int32) (f_kd : Nat → Int32) (f_nm : Nat → Int32) (f_pl : Nat → Int32) (f_rc : Nat → Int32) (f_rh : Nat → Int32) (f_rs : Nat → Int32), w = [(a_r, (oc4 a_tk a_rh a_rs a_rc e_rl e_pa e_at e_fp)), (a_tk, (oc8 a_kd a_nm a_pl)), (a_kd, (arI G 401 f_kd)), (a_nm, (arI G 401 f_nm)), (a_pl, (arI G 401 f_pl)), (a_rc, (arI G 400 f_rc)), (a_rh, (arI G 12 f_rh)), (a_rs, (arI G 13 f_rs))] → (0 ≤ e_rl.toInt ∧ e_rl.toInt ≤ 400) → (0 ≤ e_pa.toInt ∧ e_pa.toInt ≤ 50) → (0 ≤ e_at.toInt ∧ e_at.toInt ≤ 401) → (TOKI f_kd f_nm) → P) : P := by
  unfold XBR at h
  exact Exists.elim h (fun a_tk h => Exists.elim h (fun a_kd h => Exists.elim h (fun a_nm h => Exists.elim h (fun a_pl h => Exists.elim h (fun a_rc h => Exists.elim h (fun a_rh h => Exists.elim h (fun a_rs h => Exists.elim h (fun e_rl h => Exists.elim h (fun e_pa h => Exists.elim h (fun e_at h => Exists.elim h (fun e_fp h => Exists.elim h (fun f_kd h => Exists.elim h (fun f_nm h => Exists.elim h (fun f_pl h => Exists.elim h (fun f_rc h => Exists.elim h (fun f_rh h => Exists.elim h (fun f_rs h => k a_tk a_kd a_nm a_pl a_rc a_rh a_rs e_rl e_pa e_at e_fp f_kd f_nm f_pl f_rc f_rh f_rs h.1 h.2.1 h.2.2.1 h.2.2.2.1 h.2.2.2.2)))))))))))))))))
set_option maxHeartbeats 4000000 in
set_option maxRecDepth 100000 in
def XW (G : g5_G) (Lw : List LR) (a_o : Nat) (f_ro : Nat → Int32) (f_im : Nat → Int32) (f_ke : Nat → Int32) (f_x : Nat → Int32) (e_tl : Int32) (e_fd : Int32) (f_wd : Nat → Int32) (e_wn : Int32) (e_fpl : Int32) (g_L : LLS) (g_F : Int32) (g_M : LMS) (w : va_W) : Prop := ∃ (a_h a_im a_ke a_k a_wa a_th a_ha a_wk a_r : Nat) (wO wH wI wK wW wT wG wA wR : va_W), w = wO ++ (wH ++ (wI ++ (wK ++ (wW ++ (wT ++ (wG ++ (wA ++ (wR)))))))) ∧ XBO G Lw a_o a_h a_im a_ke a_k a_wa a_th a_ha a_wk a_r f_x e_tl e_fd f_wd e_wn e_fpl wO ∧ XBH G Lw a_h f_ro g_L g_F wH ∧ XBI G Lw a_im a_ke f_im f_ke g_M wI ∧ XBK G Lw a_h a_k wK ∧ XBW G Lw a_h a_k a_wa wW ∧ XBT G Lw a_h a_k a_th wT ∧ XBG G Lw a_h a_k a_ha wG ∧ XBA G Lw a_h a_k a_wk wA ∧ XBR G Lw a_r wR
set_option maxHeartbeats 4000000 in
set_option maxRecDepth 100000 in
theorem xbO_up {G : g5_G} {Lw : List LR} {a_o a_h a_im a_ke a_k a_wa a_th a_ha a_wk a_r : Nat} {f_x : Nat → Int32} {e_tl : Int32} {e_fd : Int32} {f_wd : Nat → Int32} {e_wn : Int32} {e_fpl : Int32} {w : va_W} (q9 : LR) (h : XBO G Lw a_o a_h a_im a_ke a_k a_wa a_th a_ha a_wk a_r f_x e_tl e_fd f_wd e_wn e_fpl w) : XBO G (q9 :: Lw) a_o a_h a_im a_ke a_k a_wa a_th a_ha a_wk a_r f_x e_tl e_fd f_wd e_wn e_fpl w := h
set_option maxHeartbeats 4000000 in
set_option maxRecDepth 100000 in
theorem xbH_up {G : g5_G} {Lw : List LR} {a_h : Nat} {f_ro : Nat → Int32} {g_L : LLS} {g_F : Int32} {w : va_W} (q9 : LR) (h : XBH G Lw a_h f_ro g_L g_F w) : XBH G (q9 :: Lw) a_h f_ro g_L g_F w :=
  xbH_elim h (fun a_p a_pn a_bb a_l a_g a_b a_s a_w e_le e_st e_fo e_lc e_wa e_gb e_p f_p f_bb e_g e_b f_g f_b a_gn a_bn f_l a_sn e_s f_s a_wn e_w f_w hw9 h0 h1 h2 h3 h4 h5 h6 h7 h8 h9 h10 h11 h12 h13 h14 h15 h16 h17 h18 => by subst hw9; exact xbH_mk a_p a_pn a_bb a_l a_g a_b a_s a_w e_le e_st e_fo e_lc e_wa e_gb e_p f_p f_bb e_g e_b f_g f_b a_gn a_bn f_l a_sn e_s f_s a_wn e_w f_w h0 h1 h2 h3 h4 h5 h6 h7 h8 h9 (lws_up h10) h11 h12 h13 h14 h15 h16 h17 (claw_up h18))
set_option maxHeartbeats 4000000 in
set_option maxRecDepth 100000 in
theorem xbI_up {G : g5_G} {Lw : List LR} {a_im a_ke : Nat} {f_im : Nat → Int32} {f_ke : Nat → Int32} {g_M : LMS} {w : va_W} (q9 : LR) (h : XBI G Lw a_im a_ke f_im f_ke g_M w) : XBI G (q9 :: Lw) a_im a_ke f_im f_ke g_M w :=
  xbI_elim h (fun a_h2 a_l2 a_g2 a_gn2 a_b2 a_bn2 a_s2 a_sn2 a_p2 a_pn2 a_w2 a_wn2 a_bb2 a_h3 e_le2 e_st2 e_fo2 e_lc2 e_wa2 e_gb2 f_l2 e_g2 f_g2 e_b2 f_b2 e_s2 f_s2 e_p2 f_p2 e_w2 f_w2 f_bb2 a_l3 a_g3 a_gn3 a_b3 a_bn3 a_s3 a_sn3 a_p3 a_pn3 a_w3 a_wn3 a_bb3 e_le3 e_st3 e_fo3 e_lc3 e_wa3 e_gb3 f_l3 e_g3 f_g3 e_b3 f_b3 e_s3 f_s3 e_p3 f_p3 e_w3 f_w3 f_bb3 hw9 h0 h1 h2 h3 h4 h5 h6 h7 h8 h9 h10 h11 h12 h13 h14 h15 h16 h17 h18 h19 h20 h21 h22 h23 h24 h25 => by subst hw9; exact xbI_mk a_h2 a_l2 a_g2 a_gn2 a_b2 a_bn2 a_s2 a_sn2 a_p2 a_pn2 a_w2 a_wn2 a_bb2 a_h3 e_le2 e_st2 e_fo2 e_lc2 e_wa2 e_gb2 f_l2 e_g2 f_g2 e_b2 f_b2 e_s2 f_s2 e_p2 f_p2 e_w2 f_w2 f_bb2 a_l3 a_g3 a_gn3 a_b3 a_bn3 a_s3 a_sn3 a_p3 a_pn3 a_w3 a_wn3 a_bb3 e_le3 e_st3 e_fo3 e_lc3 e_wa3 e_gb3 f_l3 e_g3 f_g3 e_b3 f_b3 e_s3 f_s3 e_p3 f_p3 e_w3 f_w3 f_bb3 h0 h1 h2 h3 h4 h5 h6 h7 h8 h9 h10 h11 h12 h13 h14 (lws_up h15) h16 h17 h18 h19 h20 (lws_up h21) (qml_up h22) (qml_up h23) h24 h25)
set_option maxHeartbeats 4000000 in
set_option maxRecDepth 100000 in
theorem xbK_up {G : g5_G} {Lw : List LR} {a_h a_k : Nat} {w : va_W} (q9 : LR) (h : XBK G Lw a_h a_k w) : XBK G (q9 :: Lw) a_h a_k w := h
set_option maxHeartbeats 4000000 in
set_option maxRecDepth 100000 in
theorem xbW_up {G : g5_G} {Lw : List LR} {a_h a_k a_wa : Nat} {w : va_W} (q9 : LR) (h : XBW G Lw a_h a_k a_wa w) : XBW G (q9 :: Lw) a_h a_k a_wa w := h
set_option maxHeartbeats 4000000 in
set_option maxRecDepth 100000 in
theorem xbT_up {G : g5_G} {Lw : List LR} {a_h a_k a_th : Nat} {w : va_W} (q9 : LR) (h : XBT G Lw a_h a_k a_th w) : XBT G (q9 :: Lw) a_h a_k a_th w := h
set_option maxHeartbeats 4000000 in
set_option maxRecDepth 100000 in
theorem xbG_up {G : g5_G} {Lw : List LR} {a_h a_k a_ha : Nat} {w : va_W} (q9 : LR) (h : XBG G Lw a_h a_k a_ha w) : XBG G (q9 :: Lw) a_h a_k a_ha w := h
set_option maxHeartbeats 4000000 in
set_option maxRecDepth 100000 in
theorem xbA_up {G : g5_G} {Lw : List LR} {a_h a_k a_wk : Nat} {w : va_W} (q9 : LR) (h : XBA G Lw a_h a_k a_wk w) : XBA G (q9 :: Lw) a_h a_k a_wk w := h
set_option maxHeartbeats 4000000 in
set_option maxRecDepth 100000 in
theorem xbR_up {G : g5_G} {Lw : List LR} {a_r : Nat} {w : va_W} (q9 : LR) (h : XBR G Lw a_r w) : XBR G (q9 :: Lw) a_r w := h
set_option maxHeartbeats 4000000 in
set_option maxRecDepth 100000 in
theorem xbO_cast {G : g5_G} {Lw : List LR} {a_o a_h a_im a_ke a_k a_wa a_th a_ha a_wk a_r : Nat} {f_x : Nat → Int32} {e_tl : Int32} {e_fd : Int32} {f_wd : Nat → Int32} {e_wn : Int32} {e_fpl : Int32} {f_x2 : Nat → Int32} {e_tl2 : Int32} {e_fd2 : Int32} {f_wd2 : Nat → Int32} {e_wn2 : Int32} {e_fpl2 : Int32} {w : va_W} (e_f_x : f_x = f_x2) (e_e_tl : e_tl = e_tl2) (e_e_fd : e_fd = e_fd2) (e_f_wd : f_wd = f_wd2) (e_e_wn : e_wn = e_wn2) (e_e_fpl : e_fpl = e_fpl2) (h : XBO G Lw a_o a_h a_im a_ke a_k a_wa a_th a_ha a_wk a_r f_x e_tl e_fd f_wd e_wn e_fpl w) : XBO G Lw a_o a_h a_im a_ke a_k a_wa a_th a_ha a_wk a_r f_x2 e_tl2 e_fd2 f_wd2 e_wn2 e_fpl2 w := by
  subst e_f_x
  subst e_e_tl
  subst e_e_fd
  subst e_f_wd
  subst e_e_wn
  subst e_e_fpl
  exact h
set_option maxHeartbeats 4000000 in
set_option maxRecDepth 100000 in
theorem xbI_cast {G : g5_G} {Lw : List LR} {a_im a_ke : Nat} {f_im : Nat → Int32} {f_ke : Nat → Int32} {g_M : LMS} {f_ke2 : Nat → Int32} {g_M2 : LMS} {w : va_W} (e_f_ke : f_ke = f_ke2) (e_g_M : g_M = g_M2) (h : XBI G Lw a_im a_ke f_im f_ke g_M w) : XBI G Lw a_im a_ke f_im f_ke2 g_M2 w := by
  subst e_f_ke
  subst e_g_M
  exact h
set_option maxHeartbeats 4000000 in
set_option maxRecDepth 100000 in
theorem xw_ag {G : g5_G} {Lw : List LR} {a_o : Nat} {f_ro : Nat → Int32} {f_im : Nat → Int32} {f_ke : Nat → Int32} {f_x : Nat → Int32} {e_tl : Int32} {e_fd : Int32} {f_wd : Nat → Int32} {e_wn : Int32} {e_fpl : Int32} {g_L : LLS} {g_F : Int32} {g_M : LMS} {g_ro : Nat → Int32} {w : va_W} (h : XW G Lw a_o f_ro f_im f_ke f_x e_tl e_fd f_wd e_wn e_fpl g_L g_F g_M w) (e : ∀ j : Nat, j < 340 → j ≠ 2 → j ≠ 3 → g_ro j = f_ro j) : XW G Lw a_o g_ro f_im f_ke f_x e_tl e_fd f_wd e_wn e_fpl g_L g_F g_M w := by
  obtain ⟨a_h, a_im, a_ke, a_k, a_wa, a_th, a_ha, a_wk, a_r, wO, wH, wI, wK, wW, wT, wG, wA, wR, rfl, hBO, hBH, hBI, hBK, hBW, hBT, hBG, hBA, hBR⟩ := h
  refine xbH_elim hBH (fun a_p a_pn a_bb a_l a_g a_b a_s a_w e_le e_st e_fo e_lc e_wa e_gb e_p f_p f_bb e_g e_b f_g f_b a_gn a_bn f_l a_sn e_s f_s a_wn e_w f_w hw9 h0 h1 h2 h3 h4 h5 h6 h7 h8 h9 h10 h11 h12 h13 h14 h15 h16 h17 h18 => ?_)
  subst hw9
  exact ⟨a_h, a_im, a_ke, a_k, a_wa, a_th, a_ha, a_wk, a_r, wO, [(a_h, (oc1 e_wa e_le e_st e_fo e_lc a_l a_g a_b a_s a_p a_w e_gb a_bb)), (a_l, (arW G 6 f_l)), (a_g, (oc6 6 5 a_gn e_g)), (a_gn, (arI G 30 f_g)), (a_b, (oc6 5 24 a_bn e_b)), (a_bn, (arI G 120 f_b)), (a_s, (oc6 10 4 a_sn e_s)), (a_sn, (arI G 40 f_s)), (a_p, (oc6 8 5 a_pn e_p)), (a_pn, (arI G 40 f_p)), (a_w, (oc6 6 6 a_wn e_w)), (a_wn, (arI G 36 f_w)), (a_bb, (arJ G 24 f_bb))], wI, wK, wW, wT, wG, wA, wR, rfl, hBO, xbH_mk a_p a_pn a_bb a_l a_g a_b a_s a_w e_le e_st e_fo e_lc e_wa e_gb e_p f_p f_bb e_g e_b f_g f_b a_gn a_bn f_l a_sn e_s f_s a_wn e_w f_w h0 h1 h2 h3 h4 h5 h6 h7 h8 h9 h10 (hh_c h11 (fun j hj => e j (by omega) (by omega) (by omega))) (hg_c h12 (fun j hj => e j (by omega) (by omega) (by omega))) (hb_c h13 (fun j hj => e j (by omega) (by omega) (by omega))) (hs_c h14 (fun j hj => e j (by omega) (by omega) (by omega))) (hp_c h15 (fun j hj => e j (by omega) (by omega) (by omega))) (hwi_c h16 (fun j hj => e j (by omega) (by omega) (by omega))) (nw_c (bd3_of h12 h13 h15) (fun j hj => e j (by omega) (by omega) (by omega)) h17) h18, hBI, hBK, hBW, hBT, hBG, hBA, hBR⟩
set_option maxHeartbeats 4000000 in
set_option maxRecDepth 100000 in
def MW (G : g5_G) (b_o : Nat) (v_ro : Nat → Int32) (v_im : Nat → Int32) (v_ke : Nat → Int32) (v_tp : Nat → Int32) (u_td : Int32) (u_fd : Int32) (v_wn : Nat → Int32) (u_id : Int32) (u_fa : Int32) (g_L : LLS) (g_F : Int32) (g_M : LMS) (w : va_W) : Prop := ∃ (b_rf : Nat) (b_ro : Nat) (b_im : Nat) (b_ke : Nat) (b_tp : Nat) (b_nl : Nat) (b_op : Nat) (b_ar : Nat) (b_pi : Nat) (b_pa : Nat) (b_ws : Nat) (b_hw : Nat) (b_se : Nat) (b_re : Nat) (b_pt : Nat) (b_ip : Nat) (b_ah : Nat) (b_be : Nat) (b_me : Nat) (b_tr : Nat) (b_ld : Nat) (b_wn : Nat) (u_th : Int32) (u_sa : Int32) (u_fr : Int32) (u_to : Int32) (u_so : Int32) (u_wo : Int64) (u_bd : Int32) (u_nc : Int32) (u_co : Int32) (u_le : Int32) (u_pd : Int32) (u_od : Int32) (u_la : Int32) (u_bk : Int32) (u_va : Int64) (u_su : Int64) (u_ce : Int32) (u_ho : Int32) (u_wy : Int32) (u_bt : Int32) (u_ps : Int32) (u_tg : Int32) (u_sn : Int32) (u_ic : Int32) (u_wd : Int32) (u_st : Int64) (v_rf : Nat → Int32) (v_nl : Nat → Int32) (v_op : Nat → Int32) (v_ar : Nat → Int32) (v_pi : Nat → Int32) (v_pa : Nat → Int32) (v_ws : Nat → Int64) (v_hw : Nat → Int64) (v_se : Nat → Int64) (v_re : Nat → Int64) (v_pt : Nat → Int32) (v_ip : Nat → Int32) (v_ah : Nat → Int64) (v_be : Nat → Int64) (v_me : Nat → Int32) (v_tr : Nat → Int32) (v_ld : Nat → Int32), w = [(b_o, (oc12 u_th u_sa b_rf b_ro b_im b_ke u_fd b_tp u_td u_fr u_to u_so u_wo u_fa u_bd u_nc b_nl u_co b_op b_ar u_le b_pi b_pa u_pd u_od b_ws b_hw u_la b_se b_re u_bk u_va u_su u_ce u_ho u_wy u_bt u_ps b_pt u_tg u_sn b_ip u_ic b_ah b_be b_me u_wd b_tr b_ld u_st b_wn u_id)), (b_rf, (arI G 7 v_rf)), (b_ro, (arI G 5740 v_ro)), (b_tp, (arI G 400 v_tp)), (b_nl, (arI G 96 v_nl)), (b_op, (arI G 400 v_op)), (b_ar, (arI G 400 v_ar)), (b_pi, (arI G 400 v_pi)), (b_pa, (arI G 400 v_pa)), (b_ws, (arJ G 8 v_ws)), (b_hw, (arJ G 4 v_hw)), (b_se, (arJ G 13 v_se)), (b_re, (arJ G 400 v_re)), (b_pt, (arI G 200 v_pt)), (b_ip, (arZ G 1536 v_ip)), (b_ah, (arJ G 49152 v_ah)), (b_be, (arJ G 49152 v_be)), (b_me, (arI G 1536 v_me)), (b_tr, (arZ G 1536 v_tr)), (b_ld, (arZ G 1536 v_ld)), (b_wn, (arI G 24 v_wn)), (b_im, (arI G 11480 v_im)), (b_ke, (arZ G 2 v_ke))] ∧ (0 ≤ u_td.toInt ∧ u_td.toInt ≤ 400) ∧ (0 ≤ u_fr.toInt ∧ u_fr.toInt ≤ 400) ∧ (0 ≤ u_to.toInt ∧ u_to.toInt ≤ 400) ∧ (0 ≤ u_bd.toInt ∧ u_bd.toInt ≤ 1) ∧ (0 ≤ u_nc.toInt ∧ u_nc.toInt ≤ 12) ∧ (0 ≤ u_co.toInt ∧ u_co.toInt ≤ 400) ∧ (0 ≤ u_pd.toInt ∧ u_pd.toInt ≤ 400) ∧ (0 ≤ u_la.toInt ∧ u_la.toInt ≤ 4840) ∧ (0 ≤ u_bk.toInt ∧ u_bk.toInt ≤ 1) ∧ (0 ≤ u_ce.toInt ∧ u_ce.toInt ≤ 63) ∧ (0 ≤ u_ho.toInt ∧ u_ho.toInt ≤ 23) ∧ (0 ≤ u_wy.toInt ∧ u_wy.toInt ≤ 3) ∧ (0 ≤ u_bt.toInt ∧ u_bt.toInt ≤ 1000000) ∧ (0 ≤ u_ps.toInt ∧ u_ps.toInt ≤ 200) ∧ (0 ≤ u_ic.toInt ∧ u_ic.toInt ≤ 1) ∧ (0 ≤ u_id.toInt ∧ u_id.toInt ≤ 1) ∧ (MI v_ro) ∧ (TPI v_tp) ∧ (PTI v_pt) ∧ (MEI v_me) ∧ (WNI v_wn) ∧ (IMI v_im v_ke) ∧ (AH0 v_ah v_me) ∧ (MLWS v_ro g_L g_F) ∧ (MIML v_im v_ke g_M) ∧ (WSI v_ws v_hw)
set_option maxHeartbeats 4000000 in
set_option maxRecDepth 100000 in
theorem mw_mk {G : g5_G} {b_o : Nat} {v_ro : Nat → Int32} {v_im : Nat → Int32} {v_ke : Nat → Int32} {v_tp : Nat → Int32} {u_td : Int32} {u_fd : Int32} {v_wn : Nat → Int32} {u_id : Int32} {u_fa : Int32} {g_L : LLS} {g_F : Int32} {g_M : LMS} (b_rf : Nat) (b_ro : Nat) (b_im : Nat) (b_ke : Nat) (b_tp : Nat) (b_nl : Nat) (b_op : Nat) (b_ar : Nat) (b_pi : Nat) (b_pa : Nat) (b_ws : Nat) (b_hw : Nat) (b_se : Nat) (b_re : Nat) (b_pt : Nat) (b_ip : Nat) (b_ah : Nat) (b_be : Nat) (b_me : Nat) (b_tr : Nat) (b_ld : Nat) (b_wn : Nat) (u_th : Int32) (u_sa : Int32) (u_fr : Int32) (u_to : Int32) (u_so : Int32) (u_wo : Int64) (u_bd : Int32) (u_nc : Int32) (u_co : Int32) (u_le : Int32) (u_pd : Int32) (u_od : Int32) (u_la : Int32) (u_bk : Int32) (u_va : Int64) (u_su : Int64) (u_ce : Int32) (u_ho : Int32) (u_wy : Int32) (u_bt : Int32) (u_ps : Int32) (u_tg : Int32) (u_sn : Int32) (u_ic : Int32) (u_wd : Int32) (u_st : Int64) (v_rf : Nat → Int32) (v_nl : Nat → Int32) (v_op : Nat → Int32) (v_ar : Nat → Int32) (v_pi : Nat → Int32) (v_pa : Nat → Int32) (v_ws : Nat → Int64) (v_hw : Nat → Int64) (v_se : Nat → Int64) (v_re : Nat → Int64) (v_pt : Nat → Int32) (v_ip : Nat → Int32) (v_ah : Nat → Int64) (v_be : Nat → Int64) (v_me : Nat → Int32) (v_tr : Nat → Int32) (v_ld : Nat → Int32) (h0_ : 0 ≤ u_td.toInt ∧ u_td.toInt ≤ 400) (h1_ : 0 ≤ u_fr.toInt ∧ u_fr.toInt ≤ 400) (h2_ : 0 ≤ u_to.toInt ∧ u_to.toInt ≤ 400) (h3_ : 0 ≤ u_bd.toInt ∧ u_bd.toInt ≤ 1) (h4_ : 0 ≤ u_nc.toInt ∧ u_nc.toInt ≤ 12) (h5_ : 0 ≤ u_co.toInt ∧ u_co.toInt ≤ 400) (h6_ : 0 ≤ u_pd.toInt ∧ u_pd.toInt ≤ 400) (h7_ : 0 ≤ u_la.toInt ∧ u_la.toInt ≤ 4840) (h8_ : 0 ≤ u_bk.toInt ∧ u_bk.toInt ≤ 1) (h9_ : 0 ≤ u_ce.toInt ∧ u_ce.toInt ≤ 63) (h10_ : 0 ≤ u_ho.toInt ∧ u_ho.toInt ≤ 23) (h11_ : 0 ≤ u_wy.toInt ∧ u_wy.toInt ≤ 3) (h12_ : 0 ≤ u_bt.toInt ∧ u_bt.toInt ≤ 1000000) (h13_ : 0 ≤ u_ps.toInt ∧ u_ps.toInt ≤ 200) (h14_ : 0 ≤ u_ic.toInt ∧ u_ic.toInt ≤ 1) (h15_ : 0 ≤ u_id.toInt ∧ u_id.toInt ≤ 1) (h16_ : MI v_ro) (h17_ : TPI v_tp) (h18_ : PTI v_pt) (h19_ : MEI v_me) (h20_ : WNI v_wn) (h21_ : IMI v_im v_ke) (h22_ : AH0 v_ah v_me) (h23_ : MLWS v_ro g_L g_F) (h24_ : MIML v_im v_ke g_M) (h25_ : WSI v_ws v_hw) : MW G b_o v_ro v_im v_ke v_tp u_td u_fd v_wn u_id u_fa g_L g_F g_M [(b_o, (oc12 u_th u_sa b_rf b_ro b_im b_ke u_fd b_tp u_td u_fr u_to u_so u_wo u_fa u_bd u_nc b_nl u_co b_op b_ar u_le b_pi b_pa u_pd u_od b_ws b_hw u_la b_se b_re u_bk u_va u_su u_ce u_ho u_wy u_bt u_ps b_pt u_tg u_sn b_ip u_ic b_ah b_be b_me u_wd b_tr b_ld u_st b_wn u_id)), (b_rf, (arI G 7 v_rf)), (b_ro, (arI G 5740 v_ro)), (b_tp, (arI G 400 v_tp)), (b_nl, (arI G 96 v_nl)), (b_op, (arI G 400 v_op)), (b_ar, (arI G 400 v_ar)), (b_pi, (arI G 400 v_pi)), (b_pa, (arI G 400 v_pa)), (b_ws, (arJ G 8 v_ws)), (b_hw, (arJ G 4 v_hw)), (b_se, (arJ G 13 v_se)), (b_re, (arJ G 400 v_re)), (b_pt, (arI G 200 v_pt)), (b_ip, (arZ G 1536 v_ip)), (b_ah, (arJ G 49152 v_ah)), (b_be, (arJ G 49152 v_be)), (b_me, (arI G 1536 v_me)), (b_tr, (arZ G 1536 v_tr)), (b_ld, (arZ G 1536 v_ld)), (b_wn, (arI G 24 v_wn)), (b_im, (arI G 11480 v_im)), (b_ke, (arZ G 2 v_ke))] := Exists.intro b_rf (Exists.intro b_ro (Exists.intro b_im (Exists.intro b_ke (Exists.intro b_tp (Exists.intro b_nl (Exists.intro b_op (Exists.intro b_ar (Exists.intro b_pi (Exists.intro b_pa (Exists.intro b_ws (Exists.intro b_hw (Exists.intro b_se (Exists.intro b_re (Exists.intro b_pt (Exists.intro b_ip (Exists.intro b_ah (Exists.intro b_be (Exists.intro b_me (Exists.intro b_tr (Exists.intro b_ld (Exists.intro b_wn (Exists.intro u_th (Exists.intro u_sa (Exists.intro u_fr (Exists.intro u_to (Exists.intro u_so (Exists.intro u_wo (Exists.intro u_bd (Exists.intro u_nc (Exists.intro u_co (Exists.intro u_le (Exists.intro u_pd (Exists.intro u_od (Exists.intro u_la (Exists.intro u_bk (Exists.intro u_va (Exists.intro u_su (Exists.intro u_ce (Exists.intro u_ho (Exists.intro u_wy (Exists.intro u_bt (Exists.intro u_ps (Exists.intro u_tg (Exists.intro u_sn (Exists.intro u_ic (Exists.intro u_wd (Exists.intro u_st (Exists.intro v_rf (Exists.intro v_nl (Exists.intro v_op (Exists.intro v_ar (Exists.intro v_pi (Exists.intro v_pa (Exists.intro v_ws (Exists.intro v_hw (Exists.intro v_se (Exists.intro v_re (Exists.intro v_pt (Exists.intro v_ip (Exists.intro v_ah (Exists.intro v_be (Exists.intro v_me (Exists.intro v_tr (Exists.intro v_ld (⟨rfl, h0_, h1_, h2_, h3_, h4_, h5_, h6_, h7_, h8_, h9_, h10_, h11_, h12_, h13_, h14_, h15_, h16_, h17_, h18_, h19_, h20_, h21_, h22_, h23_, h24_, h25_⟩)))))))))))))))))))))))))))))))))))))))))))))))))))))))))))))))))
set_option maxHeartbeats 4000000 in
set_option maxRecDepth 100000 in
theorem mw_elim {G : g5_G} {b_o : Nat} {v_ro : Nat → Int32} {v_im : Nat → Int32} {v_ke : Nat → Int32} {v_tp : Nat → Int32} {u_td : Int32} {u_fd : Int32} {v_wn : Nat → Int32} {u_id : Int32} {u_fa : Int32} {g_L : LLS} {g_F : Int32} {g_M : LMS} {w : va_W} {P : Prop} (h : MW G b_o v_ro v_im v_ke v_tp u_td u_fd v_wn u_id u_fa g_L g_F g_M w) (k : ∀ (b_rf : Nat) (b_ro : Nat) (b_im : Nat) (b_ke : Nat) (b_tp : Nat) (b_nl : Nat) (b_op : Nat) (b_ar : Nat) (b_pi : Nat) (b_pa : Nat) (b_ws : Nat) (b_hw : Nat) (b_se : Nat) (b_re : Nat) (b_pt : Nat) (b_ip : Nat) (b_ah : Nat) (b_be : Nat) (b_me : Nat) (b_tr : Nat) (b_ld : Nat) (b_wn : Nat) (u_th : Int32) (u_sa : Int32) (u_fr : Int32) (u_to : Int32) (u_so : Int32) (u_wo : Int64) (u_bd : Int32) (u_nc : Int32) (u_co : Int32) (u_le : Int32) (u_pd : Int32) (u_od : Int32) (u_la : Int32) (u_bk : Int32) (u_va : Int64) (u_su : Int64) (u_ce : Int32) (u_ho : Int32) (u_wy : Int32) (u_bt : Int32) (u_ps : Int32) (u_tg : Int32) (u_sn : Int32) (u_ic : Int32) (u_wd : Int32) (u_st : Int64) (v_rf : Nat → Int32) (v_nl : Nat → Int32) (v_op : Nat → Int32) (v_ar : Nat → Int32) (v_pi : Nat → Int32) (v_pa : Nat → Int32) (v_ws : Nat → Int64) (v_hw : Nat → Int64) (v_se : Nat → Int64) (v_re : Nat → Int64) (v_pt : Nat → Int32) (v_ip : Nat → Int32) (v_ah : Nat → Int64) (v_be : Nat → Int64) (v_me : Nat → Int32) (v_tr : Nat → Int32) (v_ld : Nat → Int32), w = [(b_o, (oc12 u_th u_sa b_rf b_ro b_im b_ke u_fd b_tp u_td u_fr u_to u_so u_wo u_fa u_bd u_nc b_nl u_co b_op b_ar u_le b_pi b_pa u_pd u_od b_ws b_hw u_la b_se b_re u_bk u_va u_su u_ce u_ho u_wy u_bt u_ps b_pt u_tg u_sn b_ip u_ic b_ah b_be b_me u_wd b_tr b_ld u_st b_wn u_id)), (b_rf, (arI G 7 v_rf)), (b_ro, (arI G 5740 v_ro)), (b_tp, (arI G 400 v_tp)), (b_nl, (arI G 96 v_nl)), (b_op, (arI G 400 v_op)), (b_ar, (arI G 400 v_ar)), (b_pi, (arI G 400 v_pi)), (b_pa, (arI G 400 v_pa)), (b_ws, (arJ G 8 v_ws)), (b_hw, (arJ G 4 v_hw)), (b_se, (arJ G 13 v_se)), (b_re, (arJ G 400 v_re)), (b_pt, (arI G 200 v_pt)), (b_ip, (arZ G 1536 v_ip)), (b_ah, (arJ G 49152 v_ah)), (b_be, (arJ G 49152 v_be)), (b_me, (arI G 1536 v_me)), (b_tr, (arZ G 1536 v_tr)), (b_ld, (arZ G 1536 v_ld)), (b_wn, (arI G 24 v_wn)), (b_im, (arI G 11480 v_im)), (b_ke, (arZ G 2 v_ke))] → (0 ≤ u_td.toInt ∧ u_td.toInt ≤ 400) → (0 ≤ u_fr.toInt ∧ u_fr.toInt ≤ 400) → (0 ≤ u_to.toInt ∧ u_to.toInt ≤ 400) → (0 ≤ u_bd.toInt ∧ u_bd.toInt ≤ 1) → (0 ≤ u_nc.toInt ∧ u_nc.toInt ≤ 12) → (0 ≤ u_co.toInt ∧ u_co.toInt ≤ 400) → (0 ≤ u_pd.toInt ∧ u_pd.toInt ≤ 400) → (0 ≤ u_la.toInt ∧ u_la.toInt ≤ 4840) → (0 ≤ u_bk.toInt ∧ u_bk.toInt ≤ 1) → (0 ≤ u_ce.toInt ∧ u_ce.toInt ≤ 63) → (0 ≤ u_ho.toInt ∧ u_ho.toInt ≤ 23) → (0 ≤ u_wy.toInt ∧ u_wy.toInt ≤ 3) → (0 ≤ u_bt.toInt ∧ u_bt.toInt ≤ 1000000) → (0 ≤ u_ps.toInt ∧ u_ps.toInt ≤ 200) → (0 ≤ u_ic.toInt ∧ u_ic.toInt ≤ 1) → (0 ≤ u_id.toInt ∧ u_id.toInt ≤ 1) → (MI v_ro) → (TPI v_tp) → (PTI v_pt) → (MEI v_me) → (WNI v_wn) → (IMI v_im v_ke) → (AH0 v_ah v_me) → (MLWS v_ro g_L g_F) → (MIML v_im v_ke g_M) → (WSI v_ws v_hw) → P) : P := by
  unfold MW at h
  exact Exists.elim h (fun b_rf h => Exists.elim h (fun b_ro h => Exists.elim h (fun b_im h => Exists.elim h (fun b_ke h => Exists.elim h (fun b_tp h => Exists.elim h (fun b_nl h => Exists.elim h (fun b_op h => Exists.elim h (fun b_ar h => Exists.elim h (fun b_pi h => Exists.elim h (fun b_pa h => Exists.elim h (fun b_ws h => Exists.elim h (fun b_hw h => Exists.elim h (fun b_se h => Exists.elim h (fun b_re h => Exists.elim h (fun b_pt h => Exists.elim h (fun b_ip h => Exists.elim h (fun b_ah h => Exists.elim h (fun b_be h => Exists.elim h (fun b_me h => Exists.elim h (fun b_tr h => Exists.elim h (fun b_ld h => Exists.elim h (fun b_wn h => Exists.elim h (fun u_th h => Exists.elim h (fun u_sa h => Exists.elim h (fun u_fr h => Exists.elim h (fun u_to h => Exists.elim h (fun u_so h => Exists.elim h (fun u_wo h => Exists.elim h (fun u_bd h => Exists.elim h (fun u_nc h => Exists.elim h (fun u_co h => Exists.elim h (fun u_le h => Exists.elim h (fun u_pd h => Exists.elim h (fun u_od h => Exists.elim h (fun u_la h => Exists.elim h (fun u_bk h => Exists.elim h (fun u_va h => Exists.elim h (fun u_su h => Exists.elim h (fun u_ce h => Exists.elim h (fun u_ho h => Exists.elim h (fun u_wy h => Exists.elim h (fun u_bt h => Exists.elim h (fun u_ps h => Exists.elim h (fun u_tg h => Exists.elim h (fun u_sn h => Exists.elim h (fun u_ic h => Exists.elim h (fun u_wd h => Exists.elim h (fun u_st h => Exists.elim h (fun v_rf h => Exists.elim h (fun v_nl h => Exists.elim h (fun v_op h => Exists.elim h (fun v_ar h => Exists.elim h (fun v_pi h => Exists.elim h (fun v_pa h => Exists.elim h (fun v_ws h => Exists.elim h (fun v_hw h => Exists.elim h (fun v_se h => Exists.elim h (fun v_re h => Exists.elim h (fun v_pt h => Exists.elim h (fun v_ip h => Exists.elim h (fun v_ah h => Exists.elim h (fun v_be h => Exists.elim h (fun v_me h => Exists.elim h (fun v_tr h => Exists.elim h (fun v_ld h => k b_rf b_ro b_im b_ke b_tp b_nl b_op b_ar b_pi b_pa b_ws b_hw b_se b_re b_pt b_ip b_ah b_be b_me b_tr b_ld b_wn u_th u_sa u_fr u_to u_so u_wo u_bd u_nc u_co u_le u_pd u_od u_la u_bk u_va u_su u_ce u_ho u_wy u_bt u_ps u_tg u_sn u_ic u_wd u_st v_rf v_nl v_op v_ar v_pi v_pa v_ws v_hw v_se v_re v_pt v_ip v_ah v_be v_me v_tr v_ld h.1 h.2.1 h.2.2.1 h.2.2.2.1 h.2.2.2.2.1 h.2.2.2.2.2.1 h.2.2.2.2.2.2.1 h.2.2.2.2.2.2.2.1 h.2.2.2.2.2.2.2.2.1 h.2.2.2.2.2.2.2.2.2.1 h.2.2.2.2.2.2.2.2.2.2.1 h.2.2.2.2.2.2.2.2.2.2.2.1 h.2.2.2.2.2.2.2.2.2.2.2.2.1 h.2.2.2.2.2.2.2.2.2.2.2.2.2.1 h.2.2.2.2.2.2.2.2.2.2.2.2.2.2.1 h.2.2.2.2.2.2.2.2.2.2.2.2.2.2.2.1 h.2.2.2.2.2.2.2.2.2.2.2.2.2.2.2.2.1 h.2.2.2.2.2.2.2.2.2.2.2.2.2.2.2.2.2.1 h.2.2.2.2.2.2.2.2.2.2.2.2.2.2.2.2.2.2.1 h.2.2.2.2.2.2.2.2.2.2.2.2.2.2.2.2.2.2.2.1 h.2.2.2.2.2.2.2.2.2.2.2.2.2.2.2.2.2.2.2.2.1 h.2.2.2.2.2.2.2.2.2.2.2.2.2.2.2.2.2.2.2.2.2.1 h.2.2.2.2.2.2.2.2.2.2.2.2.2.2.2.2.2.2.2.2.2.2.1 h.2.2.2.2.2.2.2.2.2.2.2.2.2.2.2.2.2.2.2.2.2.2.2.1 h.2.2.2.2.2.2.2.2.2.2.2.2.2.2.2.2.2.2.2.2.2.2.2.2.1 h.2.2.2.2.2.2.2.2.2.2.2.2.2.2.2.2.2.2.2.2.2.2.2.2.2.1 h.2.2.2.2.2.2.2.2.2.2.2.2.2.2.2.2.2.2.2.2.2.2.2.2.2.2)))))))))))))))))))))))))))))))))))))))))))))))))))))))))))))))))
set_option maxHeartbeats 4000000 in
set_option maxRecDepth 100000 in
theorem mw_cast {G : g5_G} {b_o : Nat} {v_ro : Nat → Int32} {v_im : Nat → Int32} {v_ke : Nat → Int32} {v_tp : Nat → Int32} {u_td : Int32} {u_fd : Int32} {v_wn : Nat → Int32} {u_id : Int32} {u_fa : Int32} {g_L : LLS} {g_F : Int32} {g_M : LMS} {v_ro2 : Nat → Int32} {v_im2 : Nat → Int32} {v_ke2 : Nat → Int32} {v_tp2 : Nat → Int32} {u_td2 : Int32} {u_fd2 : Int32} {v_wn2 : Nat → Int32} {u_id2 : Int32} {u_fa2 : Int32} {g_L2 : LLS} {g_F2 : Int32} {g_M2 : LMS} {w : va_W} (e_v_ro : v_ro = v_ro2) (e_v_im : v_im = v_im2) (e_v_ke : v_ke = v_ke2) (e_v_tp : v_tp = v_tp2) (e_u_td : u_td = u_td2) (e_u_fd : u_fd = u_fd2) (e_v_wn : v_wn = v_wn2) (e_u_id : u_id = u_id2) (e_u_fa : u_fa = u_fa2) (e_g_L : g_L = g_L2) (e_g_F : g_F = g_F2) (e_g_M : g_M = g_M2) (h : MW G b_o v_ro v_im v_ke v_tp u_td u_fd v_wn u_id u_fa g_L g_F g_M w) : MW G b_o v_ro2 v_im2 v_ke2 v_tp2 u_td2 u_fd2 v_wn2 u_id2 u_fa2 g_L2 g_F2 g_M2 w := by
  subst e_v_ro
  subst e_v_im
  subst e_v_ke
  subst e_v_tp
  subst e_u_td
  subst e_u_fd
  subst e_v_wn
  subst e_u_id
  subst e_u_fa
  subst e_g_L
  subst e_g_F
  subst e_g_M
  exact h
def lwC (p : Program) (s : State) (m : MethodId) (meth : Method) (c : Code) (b Ls : Nat) (xs : Nat → Int32) (G : g5_G) : Prop := lw_At p s m meth c b Ls xs ∧ va_K G.1 vwCl (T5 G) s ∧ g5_N s
set_option maxHeartbeats 4000000 in
set_option maxRecDepth 100000 in
theorem lw_ctx {s : State} {b : Nat} (hts0 : ∀ w ∈ lw_tbl, w.before #[Value.ref b] s = true) (hgv : (Jvm.Cond.and given_1 narrow_1).before #[Value.ref b] s = true) : ∃ G : g5_G, va_K G.1 vwCl (T5 G) s ∧ g5_N s ∧ g5_S (fun q : Nat => s.heap.size ≤ q) s s.heap := by
  have hts : ∀ w ∈ tblG, w.before #[Value.ref b] s = true := fun w h => hts0 w (List.mem_filter.mp h).1
  obtain ⟨c0, i0, k0⟩ := u_known (C := RX0) (T := TX0) (N := 5) (n := 5) hts inG_X0 (hts _ isn_X0)
  obtain ⟨c1, i1, k1⟩ := u_known (C := RX1) (T := TX1) (N := 13) (n := 13) hts inG_X1 (hts _ isn_X1)
  obtain ⟨c2, i2, k2⟩ := u_known (C := RX2) (T := TX2) (N := 2) (n := 2) hts inG_X2 (hts _ isn_X2)
  obtain ⟨c3, i3, k3⟩ := u_known (C := RX3) (T := TX3) (N := 4) (n := 4) hts inG_X3 (hts _ isn_X3)
  obtain ⟨c4, i4, k4⟩ := u_known (C := RX4) (T := TX4) (N := 8) (n := 8) hts inG_X4 (hts _ isn_X4)
  obtain ⟨c5, i5, k5⟩ := u_known (C := RX5) (T := TX5) (N := 13) (n := 13) hts inG_X5 (hts _ isn_X5)
  obtain ⟨c6, i6, k6⟩ := u_known (C := RX6) (T := TX6) (N := 4) (n := 4) hts inG_X6 (hts _ isn_X6)
  obtain ⟨c7, i7, k7⟩ := u_known (C := RX7) (T := TX7) (N := 10) (n := 10) hts inG_X7 (hts _ isn_X7)
  obtain ⟨c8, i8, k8⟩ := u_known (C := RX8) (T := TX8) (N := 3) (n := 3) hts inG_X8 (hts _ isn_X8)
  obtain ⟨c9, i9, k9⟩ := u_known (C := RX9) (T := TX9) (N := 4) (n := 4) hts inG_X9 (hts _ isn_X9)
  obtain ⟨c10, i10, k10⟩ := u_known (C := RX10) (T := TX10) (N := 3) (n := 3) hts inG_X10 (hts _ isn_X10)
  obtain ⟨c11, i11, k11⟩ := u_known (C := RX11) (T := TX11) (N := 17) (n := 17) hts inG_X11 (hts _ isn_X11)
  obtain ⟨c12, i12, k12⟩ := u_known (C := RX12) (T := TX12) (N := 52) (n := 52) hts inG_X12 (hts _ isn_X12)
  obtain ⟨cI, kI, pI, fI, gI, hI⟩ := Cond.arrayClass_spec (hts _ acl_I)
  obtain ⟨cJ, kJ, pJ, fJ, gJ, hJ⟩ := Cond.arrayClass_spec (hts _ acl_J)
  obtain ⟨cZ, kZ, pZ, fZ, gZ, hZ⟩ := Cond.arrayClass_spec (hts _ acl_Z)
  obtain ⟨pH, cH, kH, eH, -, fH, gH, hH⟩ := Cond.arrayOver_spec (n := "LateGlass$House") (hts0 _ (List.mem_of_getElem? (i := 221) (by decide +kernel)))
  obtain ⟨pW, cW, kW, eW, -, fW, gW, hW⟩ := Cond.arrayOver_spec (n := "LateGlass$Law") (hts0 _ (List.mem_of_getElem? (i := 126) (by decide +kernel)))
  refine ⟨((fun k => if k = 0 then c0 else if k = 1 then c1 else if k = 2 then c2 else if k = 3 then c3 else if k = 4 then c4 else if k = 5 then c5 else if k = 6 then c6 else if k = 7 then c7 else if k = 8 then c8 else if k = 9 then c9 else if k = 10 then c10 else if k = 11 then c11 else c12, fun k => if k = 0 then i0 else if k = 1 then i1 else if k = 2 then i2 else if k = 3 then i3 else if k = 4 then i4 else if k = 5 then i5 else if k = 6 then i6 else if k = 7 then i7 else if k = 8 then i8 else if k = 9 then i9 else if k = 10 then i10 else if k = 11 then i11 else i12), fun k => if k = 0 then cI else if k = 1 then cJ else if k = 2 then cZ else if k = 3 then cH else cW), ⟨?_, ?_⟩, ⟨?_, ?_, ?_, ?_⟩, ?_⟩
  · intro k q hq
    match k, hq with
    | 0, hq => cases hq; exact k0
    | 1, hq => cases hq; exact k1
    | 2, hq => cases hq; exact k2
    | 3, hq => cases hq; exact k3
    | 4, hq => cases hq; exact k4
    | 5, hq => cases hq; exact k5
    | 6, hq => cases hq; exact k6
    | 7, hq => cases hq; exact k7
    | 8, hq => cases hq; exact k8
    | 9, hq => cases hq; exact k9
    | 10, hq => cases hq; exact k10
    | 11, hq => cases hq; exact k11
    | 12, hq => cases hq; exact k12
    | k + 13, hq => simp [vwCl] at hq
  · intro k q hq
    match k, hq with
    | 0, hq => cases hq; exact ⟨fun n z => ⟨fun k h => (by cases h), kI, gI, pI, hI⟩, fI⟩
    | 1, hq => cases hq; exact ⟨fun n z => ⟨fun k h => (by cases h), kJ, gJ, pJ, hJ⟩, fJ⟩
    | 2, hq => cases hq; exact ⟨fun n z => ⟨fun k h => (by cases h), kZ, gZ, pZ, hZ⟩, fZ⟩
    | 3, hq => cases hq; exact ⟨fun n z => ⟨fun k h => (by cases h), kH, fH, pH, gH⟩, kH, pH, fH, gH, eH, hH⟩
    | 4, hq => cases hq; exact ⟨fun n z => ⟨fun k h => (by cases h), kW, fW, pW, gW⟩, kW, pW, fW, gW, eW, hW⟩
    | k + 5, hq => simp [T5] at hq
  · intro w hw
    simp only [nw5, List.mem_cons, List.not_mem_nil, or_false] at hw
    rcases hw with rfl | rfl | rfl | rfl | rfl | rfl | rfl | rfl | rfl | rfl | rfl | rfl | rfl | rfl | rfl
    · exact va_Nw.of rfl (hts0 _ (List.mem_of_getElem? (i := 121) (by decide +kernel)))
    · exact va_Nw.of rfl (hts0 _ (List.mem_of_getElem? (i := 230) (by decide +kernel)))
    · exact va_Nw.of rfl (hts0 _ (List.mem_of_getElem? (i := 395) (by decide +kernel)))
    · exact va_Nw.of rfl (hts0 _ (List.mem_of_getElem? (i := 401) (by decide +kernel)))
    · exact va_Nw.of rfl (hts0 _ (List.mem_of_getElem? (i := 514) (by decide +kernel)))
    · exact va_Nw.of rfl (hts0 _ (List.mem_of_getElem? (i := 816) (by decide +kernel)))
    · exact va_Nw.of rfl (hts0 _ (List.mem_of_getElem? (i := 822) (by decide +kernel)))
    · exact va_Nw.of rfl (hts0 _ (List.mem_of_getElem? (i := 825) (by decide +kernel)))
    · exact va_Nw.of rfl (hts0 _ (List.mem_of_getElem? (i := 982) (by decide +kernel)))
    · exact va_Nw.of rfl (hts0 _ (List.mem_of_getElem? (i := 987) (by decide +kernel)))
    · exact va_Nw.of rfl (hts0 _ (List.mem_of_getElem? (i := 1007) (by decide +kernel)))
    · exact va_Nw.of rfl (hts0 _ (List.mem_of_getElem? (i := 1028) (by decide +kernel)))
    · exact va_Nw.of rfl (hts0 _ (List.mem_of_getElem? (i := 1110) (by decide +kernel)))
    · exact va_Nw.of rfl (hts0 _ (List.mem_of_getElem? (i := 1133) (by decide +kernel)))
    · exact va_Nw.of rfl (hts0 _ (List.mem_of_getElem? (i := 1134) (by decide +kernel)))
  · exact va_AO.of (hts0 _ (List.mem_of_getElem? (i := 221) (by decide +kernel)))
  · exact va_AO.of (hts0 _ (List.mem_of_getElem? (i := 126) (by decide +kernel)))
  · exact va_Nw.of rfl (hts0 _ (List.mem_of_getElem? (i := 766) (by decide +kernel)))
  · have hA : ∀ a : Nat, a < s.heap.size → ¬ (fun q : Nat => s.heap.size ≤ q) a := fun a h => Nat.not_le.mpr h
    have hF := flat_of_before _ hgv
    obtain ⟨tH, htH, hTH⟩ := va_Tof (tm := (.static "LateGlass" "HAVING" "[I")) (ty := .int) (N := 5) (f := g5_hav) (A := fun q : Nat => s.heap.size ≤ q) (by decide) (hF (.arrayOf (.static "LateGlass" "HAVING" "[I") .int) (by decide +kernel)) (va_eqt (hF (.eq (.length (.static "LateGlass" "HAVING" "[I")) (.int 5)) (by decide +kernel))) (fun j hj => by
      rcases (show j = 0 ∨ j = 1 ∨ j = 2 ∨ j = 3 ∨ j = 4 by omega) with rfl | rfl | rfl | rfl | rfl
      · exact va_eqt (hF (.eq (.elem (.static "LateGlass" "HAVING" "[I") (.int 0)) (.int (-1431655766))) (by decide +kernel))
      · exact va_eqt (hF (.eq (.elem (.static "LateGlass" "HAVING" "[I") (.int 1)) (.int (-858993460))) (by decide +kernel))
      · exact va_eqt (hF (.eq (.elem (.static "LateGlass" "HAVING" "[I") (.int 2)) (.int (-252645136))) (by decide +kernel))
      · exact va_eqt (hF (.eq (.elem (.static "LateGlass" "HAVING" "[I") (.int 3)) (.int (-16711936))) (by decide +kernel))
      · exact va_eqt (hF (.eq (.elem (.static "LateGlass" "HAVING" "[I") (.int 4)) (.int (-65536))) (by decide +kernel)))  hA
    obtain ⟨tL, htL, hTL⟩ := va_Tof (tm := (.static "LateGlass" "LOWEST_FIRST" "[I")) (ty := .int) (N := 5) (f := g5_low) (A := fun q : Nat => s.heap.size ≤ q) (by decide) (hF (.arrayOf (.static "LateGlass" "LOWEST_FIRST" "[I") .int) (by decide +kernel)) (va_eqt (hF (.eq (.length (.static "LateGlass" "LOWEST_FIRST" "[I")) (.int 5)) (by decide +kernel))) (fun j hj => by
      rcases (show j = 0 ∨ j = 1 ∨ j = 2 ∨ j = 3 ∨ j = 4 by omega) with rfl | rfl | rfl | rfl | rfl
      · exact va_eqt (hF (.eq (.elem (.static "LateGlass" "LOWEST_FIRST" "[I") (.int 0)) (.int 0)) (by decide +kernel))
      · exact va_eqt (hF (.eq (.elem (.static "LateGlass" "LOWEST_FIRST" "[I") (.int 1)) (.int 3)) (by decide +kernel))
      · exact va_eqt (hF (.eq (.elem (.static "LateGlass" "LOWEST_FIRST" "[I") (.int 2)) (.int 4)) (by decide +kernel))
      · exact va_eqt (hF (.eq (.elem (.static "LateGlass" "LOWEST_FIRST" "[I") (.int 3)) (.int 1)) (by decide +kernel))
      · exact va_eqt (hF (.eq (.elem (.static "LateGlass" "LOWEST_FIRST" "[I") (.int 4)) (.int 2)) (by decide +kernel)))  hA
    have hm : ∀ j : Nat, j < 74 → Cond.eq (.elem (.field (.string "LateGlass$Tokens" 41) "java/lang/String" "value" "[B") (.int (Int32.ofNat j))) (.int (g5_by.getD j 0)) ∈ flatC (Jvm.Cond.and given_1 narrow_1) := by decide +kernel
    obtain ⟨adK, adV, hSt, hev⟩ := vk_Sof (s := s) (N := 1) (tm := fun _ => (.string "LateGlass$Tokens" 41)) (len := [74]) (byt := [g5_by]) (A := fun q : Nat => s.heap.size ≤ q) (fun i hi => by obtain rfl : i = 0 := (by omega); decide) (fun i hi => hF (.exactly (.string "LateGlass$Tokens" 41) "java/lang/String") (by decide +kernel)) (fun i hi => hF (.eq (.field (.string "LateGlass$Tokens" 41) "java/lang/String" "coder" "B") (.int 0)) (by decide +kernel)) (fun i hi => hF (.arrayOf (.field (.string "LateGlass$Tokens" 41) "java/lang/String" "value" "[B") .byte) (by decide +kernel)) (fun i hi => by obtain rfl : i = 0 := (by omega); exact hF (.eq (.length (.field (.string "LateGlass$Tokens" 41) "java/lang/String" "value" "[B")) (.int 74)) (by decide +kernel)) (fun i hi j hj => by obtain rfl : i = 0 := (by omega); exact hF _ (hm j hj)) (fun i j hi hj hij => absurd (show i = j by omega) hij) hA
    obtain ⟨v, hv, hvr⟩ := Cond.isRef_spec (hF (.isRef (.static "jdk/internal/util/Preconditions" "SIOOBE_FORMATTER" "Ljava/util/function/BiFunction;")) (by decide +kernel))
    obtain ⟨tF, rfl⟩ : ∃ tF : Option Nat, v = va_rf tF := by
      cases v with
      | null => exact ⟨none, rfl⟩
      | ref a => exact ⟨some a, rfl⟩
      | _ => cases hvr
    exact ⟨tH, tL, adK 0, adV 0, tF, va_Zof (hts0 _ (List.mem_of_getElem? (i := 1008) (by decide +kernel))) (hts _ ini_X11) htH hA, hTH, va_Zof (hts0 _ (List.mem_of_getElem? (i := 1029) (by decide +kernel))) (hts _ ini_X11) htL hA, hTL, vk_R.of (hts0 _ (List.mem_of_getElem? (i := 667) (by decide +kernel))) (hev 0 (by omega)), ⟨fun i hi => by obtain rfl : i = 0 := (by omega); exact hSt.1 0 (by omega), fun i j hi hj _ => by omega⟩, va_Zof (hts0 _ (List.mem_of_getElem? (i := 677) (by decide +kernel))) (hts0 _ (List.mem_of_getElem? (i := 100) (by decide +kernel))) (va_eqt (hF (.eq (.static "java/lang/String" "COMPACT_STRINGS" "Z") (.int 1)) (by decide +kernel))) hA, va_Zof (hts0 _ (List.mem_of_getElem? (i := 693) (by decide +kernel))) (hts0 _ (List.mem_of_getElem? (i := 102) (by decide +kernel))) hv hA⟩
