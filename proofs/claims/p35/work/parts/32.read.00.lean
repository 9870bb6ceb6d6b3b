theorem dgX4_isNext_0 : ∀ r ∈ ([(0, (.aload_n 0, 1)), (1, (.getfield 42, 3)), (4, (.aload_n 0, 1)), (5, (.getfield 12, 3)), (8, (.getfield 96, 3)), (11, (.arraylength, 1)), (12, (.if_icmp .ge 23, 3)), (15, (.aload_n 0, 1)), (16, (.getfield 12, 3)), (19, (.getfield 96, 3)), (22, (.aload_n 0, 1)), (23, (.getfield 42, 3)), (26, (.iaload, 1)), (27, (.iload_n 1, 1)), (28, (.if_icmp .ne 7, 3)), (31, (.iconst 1, 1)), (32, (.goto 4, 3)), (35, (.iconst 0, 1)), (36, (.ireturn, 1))] : List (Nat × (Instr × Nat))), decode cX4_isNext r.1 = .ok r.2 := by decide +kernel
theorem dX4_isNext_0 : decode cX4_isNext 0 = .ok (.aload_n 0, 1) := dgX4_isNext_0 (0, (.aload_n 0, 1)) (List.mem_of_getElem? (i := 0) rfl)
theorem dX4_isNext_1 : decode cX4_isNext 1 = .ok (.getfield 42, 3) := dgX4_isNext_0 (1, (.getfield 42, 3)) (List.mem_of_getElem? (i := 1) rfl)
theorem dX4_isNext_4 : decode cX4_isNext 4 = .ok (.aload_n 0, 1) := dgX4_isNext_0 (4, (.aload_n 0, 1)) (List.mem_of_getElem? (i := 2) rfl)
theorem dX4_isNext_5 : decode cX4_isNext 5 = .ok (.getfield 12, 3) := dgX4_isNext_0 (5, (.getfield 12, 3)) (List.mem_of_getElem? (i := 3) rfl)
theorem dX4_isNext_8 : decode cX4_isNext 8 = .ok (.getfield 96, 3) := dgX4_isNext_0 (8, (.getfield 96, 3)) (List.mem_of_getElem? (i := 4) rfl)
theorem dX4_isNext_11 : decode cX4_isNext 11 = .ok (.arraylength, 1) := dgX4_isNext_0 (11, (.arraylength, 1)) (List.mem_of_getElem? (i := 5) rfl)
theorem dX4_isNext_12 : decode cX4_isNext 12 = .ok (.if_icmp .ge 23, 3) := dgX4_isNext_0 (12, (.if_icmp .ge 23, 3)) (List.mem_of_getElem? (i := 6) rfl)
theorem dX4_isNext_15 : decode cX4_isNext 15 = .ok (.aload_n 0, 1) := dgX4_isNext_0 (15, (.aload_n 0, 1)) (List.mem_of_getElem? (i := 7) rfl)
theorem dX4_isNext_16 : decode cX4_isNext 16 = .ok (.getfield 12, 3) := dgX4_isNext_0 (16, (.getfield 12, 3)) (List.mem_of_getElem? (i := 8) rfl)
theorem dX4_isNext_19 : decode cX4_isNext 19 = .ok (.getfield 96, 3) := dgX4_isNext_0 (19, (.getfield 96, 3)) (List.mem_of_getElem? (i := 9) rfl)
theorem dX4_isNext_22 : decode cX4_isNext 22 = .ok (.aload_n 0, 1) := dgX4_isNext_0 (22, (.aload_n 0, 1)) (List.mem_of_getElem? (i := 10) rfl)
theorem dX4_isNext_23 : decode cX4_isNext 23 = .ok (.getfield 42, 3) := dgX4_isNext_0 (23, (.getfield 42, 3)) (List.mem_of_getElem? (i := 11) rfl)
theorem dX4_isNext_26 : decode cX4_isNext 26 = .ok (.iaload, 1) := dgX4_isNext_0 (26, (.iaload, 1)) (List.mem_of_getElem? (i := 12) rfl)
theorem dX4_isNext_27 : decode cX4_isNext 27 = .ok (.iload_n 1, 1) := dgX4_isNext_0 (27, (.iload_n 1, 1)) (List.mem_of_getElem? (i := 13) rfl)
theorem dX4_isNext_28 : decode cX4_isNext 28 = .ok (.if_icmp .ne 7, 3) := dgX4_isNext_0 (28, (.if_icmp .ne 7, 3)) (List.mem_of_getElem? (i := 14) rfl)
theorem dX4_isNext_31 : decode cX4_isNext 31 = .ok (.iconst 1, 1) := dgX4_isNext_0 (31, (.iconst 1, 1)) (List.mem_of_getElem? (i := 15) rfl)
theorem dX4_isNext_32 : decode cX4_isNext 32 = .ok (.goto 4, 3) := dgX4_isNext_0 (32, (.goto 4, 3)) (List.mem_of_getElem? (i := 16) rfl)
theorem dX4_isNext_35 : decode cX4_isNext 35 = .ok (.iconst 0, 1) := dgX4_isNext_0 (35, (.iconst 0, 1)) (List.mem_of_getElem? (i := 17) rfl)
theorem dX4_isNext_36 : decode cX4_isNext 36 = .ok (.ireturn, 1) := dgX4_isNext_0 (36, (.ireturn, 1)) (List.mem_of_getElem? (i := 18) rfl)
theorem inG_X4 : ∀ w ∈ wsX40, w ∈ tblG := tgs [427, 429, 431, 433, 435, 437, 439, 441] (by decide +kernel) (by decide +kernel)
theorem fl_X4_42 : Cond.fieldLink RX4 42 "LateGlass$LawReader" "at" "I" ∈ tblG := tg 424 (by decide +kernel) (by decide +kernel)
theorem fl_X4_12 : Cond.fieldLink RX4 12 "LateGlass$LawReader" "tokens" "LLateGlass$Tokens;" ∈ tblG := tg 418 (by decide +kernel) (by decide +kernel)
theorem fl_X4_96 : Cond.fieldLink RX4 96 "LateGlass$Tokens" "kinds" "[I" ∈ tblG := tg 406 (by decide +kernel) (by decide +kernel)
theorem dgX4_passed_0 : ∀ r ∈ ([(0, (.aload_n 0, 1)), (1, (.getfield 42, 3)), (4, (.aload_n 0, 1)), (5, (.getfield 12, 3)), (8, (.getfield 96, 3)), (11, (.arraylength, 1)), (12, (.if_icmp .ge 23, 3)), (15, (.aload_n 0, 1)), (16, (.getfield 12, 3)), (19, (.getfield 96, 3)), (22, (.aload_n 0, 1)), (23, (.getfield 42, 3)), (26, (.iaload, 1)), (27, (.iload_n 1, 1)), (28, (.if_icmp .ne 7, 3)), (31, (.iconst 1, 1)), (32, (.goto 4, 3)), (35, (.iconst 0, 1)), (36, (.istore_n 2, 1)), (37, (.aload_n 0, 1)), (38, (.dup, 1)), (39, (.getfield 42, 3)), (42, (.iload_n 2, 1)), (43, (.ifCond .eq 7, 3)), (46, (.iconst 1, 1)), (47, (.goto 4, 3)), (50, (.iconst 0, 1)), (51, (.iadd, 1)), (52, (.putfield 42, 3)), (55, (.iload_n 2, 1)), (56, (.ireturn, 1))] : List (Nat × (Instr × Nat))), decode cX4_passed r.1 = .ok r.2 := by decide +kernel
theorem dX4_passed_0 : decode cX4_passed 0 = .ok (.aload_n 0, 1) := dgX4_passed_0 (0, (.aload_n 0, 1)) (List.mem_of_getElem? (i := 0) rfl)
theorem dX4_passed_1 : decode cX4_passed 1 = .ok (.getfield 42, 3) := dgX4_passed_0 (1, (.getfield 42, 3)) (List.mem_of_getElem? (i := 1) rfl)
theorem dX4_passed_4 : decode cX4_passed 4 = .ok (.aload_n 0, 1) := dgX4_passed_0 (4, (.aload_n 0, 1)) (List.mem_of_getElem? (i := 2) rfl)
theorem dX4_passed_5 : decode cX4_passed 5 = .ok (.getfield 12, 3) := dgX4_passed_0 (5, (.getfield 12, 3)) (List.mem_of_getElem? (i := 3) rfl)
theorem dX4_passed_8 : decode cX4_passed 8 = .ok (.getfield 96, 3) := dgX4_passed_0 (8, (.getfield 96, 3)) (List.mem_of_getElem? (i := 4) rfl)
theorem dX4_passed_11 : decode cX4_passed 11 = .ok (.arraylength, 1) := dgX4_passed_0 (11, (.arraylength, 1)) (List.mem_of_getElem? (i := 5) rfl)
theorem dX4_passed_12 : decode cX4_passed 12 = .ok (.if_icmp .ge 23, 3) := dgX4_passed_0 (12, (.if_icmp .ge 23, 3)) (List.mem_of_getElem? (i := 6) rfl)
theorem dX4_passed_15 : decode cX4_passed 15 = .ok (.aload_n 0, 1) := dgX4_passed_0 (15, (.aload_n 0, 1)) (List.mem_of_getElem? (i := 7) rfl)
theorem dX4_passed_16 : decode cX4_passed 16 = .ok (.getfield 12, 3) := dgX4_passed_0 (16, (.getfield 12, 3)) (List.mem_of_getElem? (i := 8) rfl)
theorem dX4_passed_19 : decode cX4_passed 19 = .ok (.getfield 96, 3) := dgX4_passed_0 (19, (.getfield 96, 3)) (List.mem_of_getElem? (i := 9) rfl)
theorem dX4_passed_22 : decode cX4_passed 22 = .ok (.aload_n 0, 1) := dgX4_passed_0 (22, (.aload_n 0, 1)) (List.mem_of_getElem? (i := 10) rfl)
theorem dX4_passed_23 : decode cX4_passed 23 = .ok (.getfield 42, 3) := dgX4_passed_0 (23, (.getfield 42, 3)) (List.mem_of_getElem? (i := 11) rfl)
theorem dX4_passed_26 : decode cX4_passed 26 = .ok (.iaload, 1) := dgX4_passed_0 (26, (.iaload, 1)) (List.mem_of_getElem? (i := 12) rfl)
theorem dX4_passed_27 : decode cX4_passed 27 = .ok (.iload_n 1, 1) := dgX4_passed_0 (27, (.iload_n 1, 1)) (List.mem_of_getElem? (i := 13) rfl)
theorem dX4_passed_28 : decode cX4_passed 28 = .ok (.if_icmp .ne 7, 3) := dgX4_passed_0 (28, (.if_icmp .ne 7, 3)) (List.mem_of_getElem? (i := 14) rfl)
theorem dX4_passed_31 : decode cX4_passed 31 = .ok (.iconst 1, 1) := dgX4_passed_0 (31, (.iconst 1, 1)) (List.mem_of_getElem? (i := 15) rfl)
theorem dX4_passed_32 : decode cX4_passed 32 = .ok (.goto 4, 3) := dgX4_passed_0 (32, (.goto 4, 3)) (List.mem_of_getElem? (i := 16) rfl)
theorem dX4_passed_35 : decode cX4_passed 35 = .ok (.iconst 0, 1) := dgX4_passed_0 (35, (.iconst 0, 1)) (List.mem_of_getElem? (i := 17) rfl)
theorem dX4_passed_36 : decode cX4_passed 36 = .ok (.istore_n 2, 1) := dgX4_passed_0 (36, (.istore_n 2, 1)) (List.mem_of_getElem? (i := 18) rfl)
theorem dX4_passed_37 : decode cX4_passed 37 = .ok (.aload_n 0, 1) := dgX4_passed_0 (37, (.aload_n 0, 1)) (List.mem_of_getElem? (i := 19) rfl)
theorem dX4_passed_38 : decode cX4_passed 38 = .ok (.dup, 1) := dgX4_passed_0 (38, (.dup, 1)) (List.mem_of_getElem? (i := 20) rfl)
theorem dX4_passed_39 : decode cX4_passed 39 = .ok (.getfield 42, 3) := dgX4_passed_0 (39, (.getfield 42, 3)) (List.mem_of_getElem? (i := 21) rfl)
theorem dX4_passed_42 : decode cX4_passed 42 = .ok (.iload_n 2, 1) := dgX4_passed_0 (42, (.iload_n 2, 1)) (List.mem_of_getElem? (i := 22) rfl)
theorem dX4_passed_43 : decode cX4_passed 43 = .ok (.ifCond .eq 7, 3) := dgX4_passed_0 (43, (.ifCond .eq 7, 3)) (List.mem_of_getElem? (i := 23) rfl)
theorem dX4_passed_46 : decode cX4_passed 46 = .ok (.iconst 1, 1) := dgX4_passed_0 (46, (.iconst 1, 1)) (List.mem_of_getElem? (i := 24) rfl)
theorem dX4_passed_47 : decode cX4_passed 47 = .ok (.goto 4, 3) := dgX4_passed_0 (47, (.goto 4, 3)) (List.mem_of_getElem? (i := 25) rfl)
theorem dX4_passed_50 : decode cX4_passed 50 = .ok (.iconst 0, 1) := dgX4_passed_0 (50, (.iconst 0, 1)) (List.mem_of_getElem? (i := 26) rfl)
theorem dX4_passed_51 : decode cX4_passed 51 = .ok (.iadd, 1) := dgX4_passed_0 (51, (.iadd, 1)) (List.mem_of_getElem? (i := 27) rfl)
theorem dX4_passed_52 : decode cX4_passed 52 = .ok (.putfield 42, 3) := dgX4_passed_0 (52, (.putfield 42, 3)) (List.mem_of_getElem? (i := 28) rfl)
theorem dX4_passed_55 : decode cX4_passed 55 = .ok (.iload_n 2, 1) := dgX4_passed_0 (55, (.iload_n 2, 1)) (List.mem_of_getElem? (i := 29) rfl)
theorem dX4_passed_56 : decode cX4_passed 56 = .ok (.ireturn, 1) := dgX4_passed_0 (56, (.ireturn, 1)) (List.mem_of_getElem? (i := 30) rfl)
theorem dgX4_jumpHere_0 : ∀ r ∈ ([(0, (.iload_n 1, 1)), (1, (.ifCond .lt 25, 3)), (4, (.iload_n 1, 1)), (5, (.aload_n 0, 1)), (6, (.getfield 25, 3)), (9, (.arraylength, 1)), (10, (.if_icmp .ge 16, 3)), (13, (.aload_n 0, 1)), (14, (.getfield 25, 3)), (17, (.iload_n 1, 1)), (18, (.dup2, 1)), (19, (.iaload, 1)), (20, (.aload_n 0, 1)), (21, (.getfield 36, 3)), (24, (.ior, 1)), (25, (.iastore, 1)), (26, (.return_, 1))] : List (Nat × (Instr × Nat))), decode cX4_jumpHere r.1 = .ok r.2 := by decide +kernel
theorem dX4_jumpHere_0 : decode cX4_jumpHere 0 = .ok (.iload_n 1, 1) := dgX4_jumpHere_0 (0, (.iload_n 1, 1)) (List.mem_of_getElem? (i := 0) rfl)
theorem dX4_jumpHere_1 : decode cX4_jumpHere 1 = .ok (.ifCond .lt 25, 3) := dgX4_jumpHere_0 (1, (.ifCond .lt 25, 3)) (List.mem_of_getElem? (i := 1) rfl)
theorem dX4_jumpHere_4 : decode cX4_jumpHere 4 = .ok (.iload_n 1, 1) := dgX4_jumpHere_0 (4, (.iload_n 1, 1)) (List.mem_of_getElem? (i := 2) rfl)
theorem dX4_jumpHere_5 : decode cX4_jumpHere 5 = .ok (.aload_n 0, 1) := dgX4_jumpHere_0 (5, (.aload_n 0, 1)) (List.mem_of_getElem? (i := 3) rfl)
theorem dX4_jumpHere_6 : decode cX4_jumpHere 6 = .ok (.getfield 25, 3) := dgX4_jumpHere_0 (6, (.getfield 25, 3)) (List.mem_of_getElem? (i := 4) rfl)
theorem dX4_jumpHere_9 : decode cX4_jumpHere 9 = .ok (.arraylength, 1) := dgX4_jumpHere_0 (9, (.arraylength, 1)) (List.mem_of_getElem? (i := 5) rfl)
theorem dX4_jumpHere_10 : decode cX4_jumpHere 10 = .ok (.if_icmp .ge 16, 3) := dgX4_jumpHere_0 (10, (.if_icmp .ge 16, 3)) (List.mem_of_getElem? (i := 6) rfl)
theorem dX4_jumpHere_13 : decode cX4_jumpHere 13 = .ok (.aload_n 0, 1) := dgX4_jumpHere_0 (13, (.aload_n 0, 1)) (List.mem_of_getElem? (i := 7) rfl)
theorem dX4_jumpHere_14 : decode cX4_jumpHere 14 = .ok (.getfield 25, 3) := dgX4_jumpHere_0 (14, (.getfield 25, 3)) (List.mem_of_getElem? (i := 8) rfl)
theorem dX4_jumpHere_17 : decode cX4_jumpHere 17 = .ok (.iload_n 1, 1) := dgX4_jumpHere_0 (17, (.iload_n 1, 1)) (List.mem_of_getElem? (i := 9) rfl)
theorem dX4_jumpHere_18 : decode cX4_jumpHere 18 = .ok (.dup2, 1) := dgX4_jumpHere_0 (18, (.dup2, 1)) (List.mem_of_getElem? (i := 10) rfl)
theorem dX4_jumpHere_19 : decode cX4_jumpHere 19 = .ok (.iaload, 1) := dgX4_jumpHere_0 (19, (.iaload, 1)) (List.mem_of_getElem? (i := 11) rfl)
theorem dX4_jumpHere_20 : decode cX4_jumpHere 20 = .ok (.aload_n 0, 1) := dgX4_jumpHere_0 (20, (.aload_n 0, 1)) (List.mem_of_getElem? (i := 12) rfl)
theorem dX4_jumpHere_21 : decode cX4_jumpHere 21 = .ok (.getfield 36, 3) := dgX4_jumpHere_0 (21, (.getfield 36, 3)) (List.mem_of_getElem? (i := 13) rfl)
theorem dX4_jumpHere_24 : decode cX4_jumpHere 24 = .ok (.ior, 1) := dgX4_jumpHere_0 (24, (.ior, 1)) (List.mem_of_getElem? (i := 14) rfl)
theorem dX4_jumpHere_25 : decode cX4_jumpHere 25 = .ok (.iastore, 1) := dgX4_jumpHere_0 (25, (.iastore, 1)) (List.mem_of_getElem? (i := 15) rfl)
theorem dX4_jumpHere_26 : decode cX4_jumpHere 26 = .ok (.return_, 1) := dgX4_jumpHere_0 (26, (.return_, 1)) (List.mem_of_getElem? (i := 16) rfl)
theorem fl_X4_25 : Cond.fieldLink RX4 25 "LateGlass$LawReader" "code" "[I" ∈ tblG := tg 421 (by decide +kernel) (by decide +kernel)
theorem fl_X4_36 : Cond.fieldLink RX4 36 "LateGlass$LawReader" "length" "I" ∈ tblG := tg 422 (by decide +kernel) (by decide +kernel)
theorem dgX4_emit_0 : ∀ r ∈ ([(0, (.aload_n 0, 1)), (1, (.getfield 36, 3)), (4, (.aload_n 0, 1)), (5, (.getfield 25, 3)), (8, (.arraylength, 1)), (9, (.if_icmp .lt 5, 3)), (12, (.iconst (-1), 1)), (13, (.ireturn, 1)), (14, (.aload_n 0, 1)), (15, (.getfield 25, 3)), (18, (.aload_n 0, 1)), (19, (.getfield 36, 3)), (22, (.iload_n 1, 1)), (23, (.bipush 12, 2)), (25, (.ishl, 1)), (26, (.iload_n 2, 1)), (27, (.ior, 1)), (28, (.iastore, 1)), (29, (.aload_n 0, 1)), (30, (.dup, 1)), (31, (.getfield 36, 3)), (34, (.iconst 1, 1)), (35, (.iadd, 1)), (36, (.putfield 36, 3)), (39, (.aload_n 0, 1)), (40, (.getfield 36, 3)), (43, (.iconst 1, 1)), (44, (.isub, 1)), (45, (.ireturn, 1))] : List (Nat × (Instr × Nat))), decode cX4_emit r.1 = .ok r.2 := by decide +kernel
theorem dX4_emit_0 : decode cX4_emit 0 = .ok (.aload_n 0, 1) := dgX4_emit_0 (0, (.aload_n 0, 1)) (List.mem_of_getElem? (i := 0) rfl)
theorem dX4_emit_1 : decode cX4_emit 1 = .ok (.getfield 36, 3) := dgX4_emit_0 (1, (.getfield 36, 3)) (List.mem_of_getElem? (i := 1) rfl)
theorem dX4_emit_4 : decode cX4_emit 4 = .ok (.aload_n 0, 1) := dgX4_emit_0 (4, (.aload_n 0, 1)) (List.mem_of_getElem? (i := 2) rfl)
theorem dX4_emit_5 : decode cX4_emit 5 = .ok (.getfield 25, 3) := dgX4_emit_0 (5, (.getfield 25, 3)) (List.mem_of_getElem? (i := 3) rfl)
theorem dX4_emit_8 : decode cX4_emit 8 = .ok (.arraylength, 1) := dgX4_emit_0 (8, (.arraylength, 1)) (List.mem_of_getElem? (i := 4) rfl)
theorem dX4_emit_9 : decode cX4_emit 9 = .ok (.if_icmp .lt 5, 3) := dgX4_emit_0 (9, (.if_icmp .lt 5, 3)) (List.mem_of_getElem? (i := 5) rfl)
theorem dX4_emit_14 : decode cX4_emit 14 = .ok (.aload_n 0, 1) := dgX4_emit_0 (14, (.aload_n 0, 1)) (List.mem_of_getElem? (i := 8) rfl)
theorem dX4_emit_15 : decode cX4_emit 15 = .ok (.getfield 25, 3) := dgX4_emit_0 (15, (.getfield 25, 3)) (List.mem_of_getElem? (i := 9) rfl)
theorem dX4_emit_18 : decode cX4_emit 18 = .ok (.aload_n 0, 1) := dgX4_emit_0 (18, (.aload_n 0, 1)) (List.mem_of_getElem? (i := 10) rfl)
theorem dX4_emit_19 : decode cX4_emit 19 = .ok (.getfield 36, 3) := dgX4_emit_0 (19, (.getfield 36, 3)) (List.mem_of_getElem? (i := 11) rfl)
theorem dX4_emit_22 : decode cX4_emit 22 = .ok (.iload_n 1, 1) := dgX4_emit_0 (22, (.iload_n 1, 1)) (List.mem_of_getElem? (i := 12) rfl)
theorem dX4_emit_23 : decode cX4_emit 23 = .ok (.bipush 12, 2) := dgX4_emit_0 (23, (.bipush 12, 2)) (List.mem_of_getElem? (i := 13) rfl)
theorem dX4_emit_25 : decode cX4_emit 25 = .ok (.ishl, 1) := dgX4_emit_0 (25, (.ishl, 1)) (List.mem_of_getElem? (i := 14) rfl)
theorem dX4_emit_26 : decode cX4_emit 26 = .ok (.iload_n 2, 1) := dgX4_emit_0 (26, (.iload_n 2, 1)) (List.mem_of_getElem? (i := 15) rfl)
theorem dX4_emit_27 : decode cX4_emit 27 = .ok (.ior, 1) := dgX4_emit_0 (27, (.ior, 1)) (List.mem_of_getElem? (i := 16) rfl)
theorem dX4_emit_28 : decode cX4_emit 28 = .ok (.iastore, 1) := dgX4_emit_0 (28, (.iastore, 1)) (List.mem_of_getElem? (i := 17) rfl)
theorem dX4_emit_29 : decode cX4_emit 29 = .ok (.aload_n 0, 1) := dgX4_emit_0 (29, (.aload_n 0, 1)) (List.mem_of_getElem? (i := 18) rfl)
theorem dX4_emit_30 : decode cX4_emit 30 = .ok (.dup, 1) := dgX4_emit_0 (30, (.dup, 1)) (List.mem_of_getElem? (i := 19) rfl)
theorem dX4_emit_31 : decode cX4_emit 31 = .ok (.getfield 36, 3) := dgX4_emit_0 (31, (.getfield 36, 3)) (List.mem_of_getElem? (i := 20) rfl)
theorem dX4_emit_34 : decode cX4_emit 34 = .ok (.iconst 1, 1) := dgX4_emit_0 (34, (.iconst 1, 1)) (List.mem_of_getElem? (i := 21) rfl)
theorem dX4_emit_35 : decode cX4_emit 35 = .ok (.iadd, 1) := dgX4_emit_0 (35, (.iadd, 1)) (List.mem_of_getElem? (i := 22) rfl)
theorem dX4_emit_36 : decode cX4_emit 36 = .ok (.putfield 36, 3) := dgX4_emit_0 (36, (.putfield 36, 3)) (List.mem_of_getElem? (i := 23) rfl)
theorem dX4_emit_39 : decode cX4_emit 39 = .ok (.aload_n 0, 1) := dgX4_emit_0 (39, (.aload_n 0, 1)) (List.mem_of_getElem? (i := 24) rfl)
theorem dX4_emit_40 : decode cX4_emit 40 = .ok (.getfield 36, 3) := dgX4_emit_0 (40, (.getfield 36, 3)) (List.mem_of_getElem? (i := 25) rfl)
theorem dX4_emit_43 : decode cX4_emit 43 = .ok (.iconst 1, 1) := dgX4_emit_0 (43, (.iconst 1, 1)) (List.mem_of_getElem? (i := 26) rfl)
theorem dX4_emit_44 : decode cX4_emit 44 = .ok (.isub, 1) := dgX4_emit_0 (44, (.isub, 1)) (List.mem_of_getElem? (i := 27) rfl)
theorem dX4_emit_45 : decode cX4_emit 45 = .ok (.ireturn, 1) := dgX4_emit_0 (45, (.ireturn, 1)) (List.mem_of_getElem? (i := 28) rfl)
theorem dgX4_readPart_0 : ∀ r ∈ ([(0, (.aload_n 0, 1)), (1, (.bipush 91, 2)), (3, (.invokevirtual 49, 3)), (6, (.ifCond .eq 43, 3)), (9, (.iload_n 1, 1)), (10, (.bipush 8, 2)), (12, (.if_icmp .ge 35, 3)), (15, (.aload_n 0, 1)), (16, (.bipush 91, 2)), (18, (.invokevirtual 63, 3)), (21, (.ifCond .eq 26, 3)), (24, (.aload_n 0, 1)), (25, (.iload_n 1, 1)), (26, (.iconst 1, 1)), (27, (.iadd, 1)), (28, (.invokevirtual 73, 3)), (31, (.ifCond .eq 16, 3)), (34, (.aload_n 0, 1)), (35, (.bipush 93, 2)), (37, (.invokevirtual 63, 3)), (40, (.ifCond .eq 7, 3)), (43, (.iconst 1, 1)), (44, (.goto 4, 3)), (47, (.iconst 0, 1)), (48, (.ireturn, 1)), (49, (.aload_n 0, 1)), (50, (.getfield 12, 3)), (53, (.aload_n 0, 1)), (54, (.getfield 42, 3)), (57, (.invokevirtual 69, 3)), (60, (.sipush 256, 3)), (63, (.isub, 1)), (64, (.bipush 8, 2)), (66, (.isub, 1)), (67, (.istore_n 2, 1)), (68, (.iload_n 2, 1)), (69, (.ifCond .lt 13, 3)), (72, (.iload_n 2, 1)), (73, (.bipush 8, 2)), (75, (.if_icmp .ge 7, 3))] : List (Nat × (Instr × Nat))), decode cX4_readPart r.1 = .ok r.2 := by decide +kernel
theorem dX4_readPart_0 : decode cX4_readPart 0 = .ok (.aload_n 0, 1) := dgX4_readPart_0 (0, (.aload_n 0, 1)) (List.mem_of_getElem? (i := 0) rfl)
theorem dX4_readPart_1 : decode cX4_readPart 1 = .ok (.bipush 91, 2) := dgX4_readPart_0 (1, (.bipush 91, 2)) (List.mem_of_getElem? (i := 1) rfl)
theorem dX4_readPart_3 : decode cX4_readPart 3 = .ok (.invokevirtual 49, 3) := dgX4_readPart_0 (3, (.invokevirtual 49, 3)) (List.mem_of_getElem? (i := 2) rfl)
theorem dX4_readPart_6 : decode cX4_readPart 6 = .ok (.ifCond .eq 43, 3) := dgX4_readPart_0 (6, (.ifCond .eq 43, 3)) (List.mem_of_getElem? (i := 3) rfl)
theorem dX4_readPart_9 : decode cX4_readPart 9 = .ok (.iload_n 1, 1) := dgX4_readPart_0 (9, (.iload_n 1, 1)) (List.mem_of_getElem? (i := 4) rfl)
theorem dX4_readPart_10 : decode cX4_readPart 10 = .ok (.bipush 8, 2) := dgX4_readPart_0 (10, (.bipush 8, 2)) (List.mem_of_getElem? (i := 5) rfl)
theorem dX4_readPart_12 : decode cX4_readPart 12 = .ok (.if_icmp .ge 35, 3) := dgX4_readPart_0 (12, (.if_icmp .ge 35, 3)) (List.mem_of_getElem? (i := 6) rfl)
theorem dX4_readPart_15 : decode cX4_readPart 15 = .ok (.aload_n 0, 1) := dgX4_readPart_0 (15, (.aload_n 0, 1)) (List.mem_of_getElem? (i := 7) rfl)
theorem dX4_readPart_16 : decode cX4_readPart 16 = .ok (.bipush 91, 2) := dgX4_readPart_0 (16, (.bipush 91, 2)) (List.mem_of_getElem? (i := 8) rfl)
theorem dX4_readPart_18 : decode cX4_readPart 18 = .ok (.invokevirtual 63, 3) := dgX4_readPart_0 (18, (.invokevirtual 63, 3)) (List.mem_of_getElem? (i := 9) rfl)
theorem dX4_readPart_21 : decode cX4_readPart 21 = .ok (.ifCond .eq 26, 3) := dgX4_readPart_0 (21, (.ifCond .eq 26, 3)) (List.mem_of_getElem? (i := 10) rfl)
theorem dX4_readPart_24 : decode cX4_readPart 24 = .ok (.aload_n 0, 1) := dgX4_readPart_0 (24, (.aload_n 0, 1)) (List.mem_of_getElem? (i := 11) rfl)
theorem dX4_readPart_25 : decode cX4_readPart 25 = .ok (.iload_n 1, 1) := dgX4_readPart_0 (25, (.iload_n 1, 1)) (List.mem_of_getElem? (i := 12) rfl)
theorem dX4_readPart_26 : decode cX4_readPart 26 = .ok (.iconst 1, 1) := dgX4_readPart_0 (26, (.iconst 1, 1)) (List.mem_of_getElem? (i := 13) rfl)
theorem dX4_readPart_27 : decode cX4_readPart 27 = .ok (.iadd, 1) := dgX4_readPart_0 (27, (.iadd, 1)) (List.mem_of_getElem? (i := 14) rfl)
theorem dX4_readPart_28 : decode cX4_readPart 28 = .ok (.invokevirtual 73, 3) := dgX4_readPart_0 (28, (.invokevirtual 73, 3)) (List.mem_of_getElem? (i := 15) rfl)
theorem dX4_readPart_31 : decode cX4_readPart 31 = .ok (.ifCond .eq 16, 3) := dgX4_readPart_0 (31, (.ifCond .eq 16, 3)) (List.mem_of_getElem? (i := 16) rfl)
theorem dX4_readPart_34 : decode cX4_readPart 34 = .ok (.aload_n 0, 1) := dgX4_readPart_0 (34, (.aload_n 0, 1)) (List.mem_of_getElem? (i := 17) rfl)
theorem dX4_readPart_35 : decode cX4_readPart 35 = .ok (.bipush 93, 2) := dgX4_readPart_0 (35, (.bipush 93, 2)) (List.mem_of_getElem? (i := 18) rfl)
theorem dX4_readPart_37 : decode cX4_readPart 37 = .ok (.invokevirtual 63, 3) := dgX4_readPart_0 (37, (.invokevirtual 63, 3)) (List.mem_of_getElem? (i := 19) rfl)
theorem dX4_readPart_40 : decode cX4_readPart 40 = .ok (.ifCond .eq 7, 3) := dgX4_readPart_0 (40, (.ifCond .eq 7, 3)) (List.mem_of_getElem? (i := 20) rfl)
theorem dX4_readPart_43 : decode cX4_readPart 43 = .ok (.iconst 1, 1) := dgX4_readPart_0 (43, (.iconst 1, 1)) (List.mem_of_getElem? (i := 21) rfl)
theorem dX4_readPart_44 : decode cX4_readPart 44 = .ok (.goto 4, 3) := dgX4_readPart_0 (44, (.goto 4, 3)) (List.mem_of_getElem? (i := 22) rfl)
theorem dX4_readPart_47 : decode cX4_readPart 47 = .ok (.iconst 0, 1) := dgX4_readPart_0 (47, (.iconst 0, 1)) (List.mem_of_getElem? (i := 23) rfl)
theorem dX4_readPart_48 : decode cX4_readPart 48 = .ok (.ireturn, 1) := dgX4_readPart_0 (48, (.ireturn, 1)) (List.mem_of_getElem? (i := 24) rfl)
theorem dX4_readPart_49 : decode cX4_readPart 49 = .ok (.aload_n 0, 1) := dgX4_readPart_0 (49, (.aload_n 0, 1)) (List.mem_of_getElem? (i := 25) rfl)
theorem dX4_readPart_50 : decode cX4_readPart 50 = .ok (.getfield 12, 3) := dgX4_readPart_0 (50, (.getfield 12, 3)) (List.mem_of_getElem? (i := 26) rfl)
theorem dX4_readPart_53 : decode cX4_readPart 53 = .ok (.aload_n 0, 1) := dgX4_readPart_0 (53, (.aload_n 0, 1)) (List.mem_of_getElem? (i := 27) rfl)
theorem dX4_readPart_54 : decode cX4_readPart 54 = .ok (.getfield 42, 3) := dgX4_readPart_0 (54, (.getfield 42, 3)) (List.mem_of_getElem? (i := 28) rfl)
theorem dX4_readPart_57 : decode cX4_readPart 57 = .ok (.invokevirtual 69, 3) := dgX4_readPart_0 (57, (.invokevirtual 69, 3)) (List.mem_of_getElem? (i := 29) rfl)
theorem dX4_readPart_60 : decode cX4_readPart 60 = .ok (.sipush 256, 3) := dgX4_readPart_0 (60, (.sipush 256, 3)) (List.mem_of_getElem? (i := 30) rfl)
theorem dX4_readPart_63 : decode cX4_readPart 63 = .ok (.isub, 1) := dgX4_readPart_0 (63, (.isub, 1)) (List.mem_of_getElem? (i := 31) rfl)
theorem dX4_readPart_64 : decode cX4_readPart 64 = .ok (.bipush 8, 2) := dgX4_readPart_0 (64, (.bipush 8, 2)) (List.mem_of_getElem? (i := 32) rfl)
theorem dX4_readPart_66 : decode cX4_readPart 66 = .ok (.isub, 1) := dgX4_readPart_0 (66, (.isub, 1)) (List.mem_of_getElem? (i := 33) rfl)
theorem dX4_readPart_67 : decode cX4_readPart 67 = .ok (.istore_n 2, 1) := dgX4_readPart_0 (67, (.istore_n 2, 1)) (List.mem_of_getElem? (i := 34) rfl)
theorem dX4_readPart_68 : decode cX4_readPart 68 = .ok (.iload_n 2, 1) := dgX4_readPart_0 (68, (.iload_n 2, 1)) (List.mem_of_getElem? (i := 35) rfl)
theorem dX4_readPart_69 : decode cX4_readPart 69 = .ok (.ifCond .lt 13, 3) := dgX4_readPart_0 (69, (.ifCond .lt 13, 3)) (List.mem_of_getElem? (i := 36) rfl)
theorem dX4_readPart_72 : decode cX4_readPart 72 = .ok (.iload_n 2, 1) := dgX4_readPart_0 (72, (.iload_n 2, 1)) (List.mem_of_getElem? (i := 37) rfl)
theorem dX4_readPart_73 : decode cX4_readPart 73 = .ok (.bipush 8, 2) := dgX4_readPart_0 (73, (.bipush 8, 2)) (List.mem_of_getElem? (i := 38) rfl)
theorem dX4_readPart_75 : decode cX4_readPart 75 = .ok (.if_icmp .ge 7, 3) := dgX4_readPart_0 (75, (.if_icmp .ge 7, 3)) (List.mem_of_getElem? (i := 39) rfl)
theorem dgX4_readPart_1 : ∀ r ∈ ([(78, (.iconst 1, 1)), (79, (.goto 4, 3)), (82, (.iconst 0, 1)), (83, (.istore_n 3, 1)), (84, (.iload_n 3, 1)), (85, (.ifCond .ne 13, 3)), (88, (.aload_n 0, 1)), (89, (.sipush 300, 3)), (92, (.invokevirtual 49, 3)), (95, (.ifCond .eq 12, 3)), (98, (.aload_n 0, 1)), (99, (.getfield 39, 3)), (102, (.bipush 50, 2)), (104, (.if_icmp .lt 5, 3)), (107, (.iconst 0, 1)), (108, (.ireturn, 1)), (109, (.aload_n 0, 1)), (110, (.iload_n 3, 1)), (111, (.ifCond .eq 7, 3)), (114, (.iconst 1, 1)), (115, (.goto 4, 3)), (118, (.iconst 0, 1)), (119, (.iload_n 3, 1)), (120, (.ifCond .eq 7, 3)), (123, (.iload_n 2, 1)), (124, (.goto 15, 3)), (127, (.aload_n 0, 1)), (128, (.getfield 12, 3)), (131, (.getfield 93, 3)), (134, (.aload_n 0, 1)), (135, (.getfield 42, 3)), (138, (.iaload, 1)), (139, (.invokevirtual 79, 3)), (142, (.pop, 1)), (143, (.aload_n 0, 1)), (144, (.dup, 1)), (145, (.getfield 39, 3)), (148, (.iconst 1, 1)), (149, (.iadd, 1)), (150, (.putfield 39, 3))] : List (Nat × (Instr × Nat))), decode cX4_readPart r.1 = .ok r.2 := by decide +kernel
theorem dX4_readPart_78 : decode cX4_readPart 78 = .ok (.iconst 1, 1) := dgX4_readPart_1 (78, (.iconst 1, 1)) (List.mem_of_getElem? (i := 0) rfl)
theorem dX4_readPart_79 : decode cX4_readPart 79 = .ok (.goto 4, 3) := dgX4_readPart_1 (79, (.goto 4, 3)) (List.mem_of_getElem? (i := 1) rfl)
theorem dX4_readPart_82 : decode cX4_readPart 82 = .ok (.iconst 0, 1) := dgX4_readPart_1 (82, (.iconst 0, 1)) (List.mem_of_getElem? (i := 2) rfl)
theorem dX4_readPart_83 : decode cX4_readPart 83 = .ok (.istore_n 3, 1) := dgX4_readPart_1 (83, (.istore_n 3, 1)) (List.mem_of_getElem? (i := 3) rfl)
theorem dX4_readPart_84 : decode cX4_readPart 84 = .ok (.iload_n 3, 1) := dgX4_readPart_1 (84, (.iload_n 3, 1)) (List.mem_of_getElem? (i := 4) rfl)
theorem dX4_readPart_85 : decode cX4_readPart 85 = .ok (.ifCond .ne 13, 3) := dgX4_readPart_1 (85, (.ifCond .ne 13, 3)) (List.mem_of_getElem? (i := 5) rfl)
theorem dX4_readPart_88 : decode cX4_readPart 88 = .ok (.aload_n 0, 1) := dgX4_readPart_1 (88, (.aload_n 0, 1)) (List.mem_of_getElem? (i := 6) rfl)
theorem dX4_readPart_89 : decode cX4_readPart 89 = .ok (.sipush 300, 3) := dgX4_readPart_1 (89, (.sipush 300, 3)) (List.mem_of_getElem? (i := 7) rfl)
theorem dX4_readPart_92 : decode cX4_readPart 92 = .ok (.invokevirtual 49, 3) := dgX4_readPart_1 (92, (.invokevirtual 49, 3)) (List.mem_of_getElem? (i := 8) rfl)
theorem dX4_readPart_95 : decode cX4_readPart 95 = .ok (.ifCond .eq 12, 3) := dgX4_readPart_1 (95, (.ifCond .eq 12, 3)) (List.mem_of_getElem? (i := 9) rfl)
theorem dX4_readPart_98 : decode cX4_readPart 98 = .ok (.aload_n 0, 1) := dgX4_readPart_1 (98, (.aload_n 0, 1)) (List.mem_of_getElem? (i := 10) rfl)
theorem dX4_readPart_99 : decode cX4_readPart 99 = .ok (.getfield 39, 3) := dgX4_readPart_1 (99, (.getfield 39, 3)) (List.mem_of_getElem? (i := 11) rfl)
theorem dX4_readPart_102 : decode cX4_readPart 102 = .ok (.bipush 50, 2) := dgX4_readPart_1 (102, (.bipush 50, 2)) (List.mem_of_getElem? (i := 12) rfl)
theorem dX4_readPart_104 : decode cX4_readPart 104 = .ok (.if_icmp .lt 5, 3) := dgX4_readPart_1 (104, (.if_icmp .lt 5, 3)) (List.mem_of_getElem? (i := 13) rfl)
theorem dX4_readPart_107 : decode cX4_readPart 107 = .ok (.iconst 0, 1) := dgX4_readPart_1 (107, (.iconst 0, 1)) (List.mem_of_getElem? (i := 14) rfl)
theorem dX4_readPart_108 : decode cX4_readPart 108 = .ok (.ireturn, 1) := dgX4_readPart_1 (108, (.ireturn, 1)) (List.mem_of_getElem? (i := 15) rfl)
theorem dX4_readPart_109 : decode cX4_readPart 109 = .ok (.aload_n 0, 1) := dgX4_readPart_1 (109, (.aload_n 0, 1)) (List.mem_of_getElem? (i := 16) rfl)
theorem dX4_readPart_110 : decode cX4_readPart 110 = .ok (.iload_n 3, 1) := dgX4_readPart_1 (110, (.iload_n 3, 1)) (List.mem_of_getElem? (i := 17) rfl)
theorem dX4_readPart_111 : decode cX4_readPart 111 = .ok (.ifCond .eq 7, 3) := dgX4_readPart_1 (111, (.ifCond .eq 7, 3)) (List.mem_of_getElem? (i := 18) rfl)
theorem dX4_readPart_114 : decode cX4_readPart 114 = .ok (.iconst 1, 1) := dgX4_readPart_1 (114, (.iconst 1, 1)) (List.mem_of_getElem? (i := 19) rfl)
theorem dX4_readPart_115 : decode cX4_readPart 115 = .ok (.goto 4, 3) := dgX4_readPart_1 (115, (.goto 4, 3)) (List.mem_of_getElem? (i := 20) rfl)
theorem dX4_readPart_118 : decode cX4_readPart 118 = .ok (.iconst 0, 1) := dgX4_readPart_1 (118, (.iconst 0, 1)) (List.mem_of_getElem? (i := 21) rfl)
theorem dX4_readPart_119 : decode cX4_readPart 119 = .ok (.iload_n 3, 1) := dgX4_readPart_1 (119, (.iload_n 3, 1)) (List.mem_of_getElem? (i := 22) rfl)
theorem dX4_readPart_120 : decode cX4_readPart 120 = .ok (.ifCond .eq 7, 3) := dgX4_readPart_1 (120, (.ifCond .eq 7, 3)) (List.mem_of_getElem? (i := 23) rfl)
theorem dX4_readPart_123 : decode cX4_readPart 123 = .ok (.iload_n 2, 1) := dgX4_readPart_1 (123, (.iload_n 2, 1)) (List.mem_of_getElem? (i := 24) rfl)
theorem dX4_readPart_124 : decode cX4_readPart 124 = .ok (.goto 15, 3) := dgX4_readPart_1 (124, (.goto 15, 3)) (List.mem_of_getElem? (i := 25) rfl)
theorem dX4_readPart_127 : decode cX4_readPart 127 = .ok (.aload_n 0, 1) := dgX4_readPart_1 (127, (.aload_n 0, 1)) (List.mem_of_getElem? (i := 26) rfl)
theorem dX4_readPart_128 : decode cX4_readPart 128 = .ok (.getfield 12, 3) := dgX4_readPart_1 (128, (.getfield 12, 3)) (List.mem_of_getElem? (i := 27) rfl)
theorem dX4_readPart_131 : decode cX4_readPart 131 = .ok (.getfield 93, 3) := dgX4_readPart_1 (131, (.getfield 93, 3)) (List.mem_of_getElem? (i := 28) rfl)
theorem dX4_readPart_134 : decode cX4_readPart 134 = .ok (.aload_n 0, 1) := dgX4_readPart_1 (134, (.aload_n 0, 1)) (List.mem_of_getElem? (i := 29) rfl)
theorem dX4_readPart_135 : decode cX4_readPart 135 = .ok (.getfield 42, 3) := dgX4_readPart_1 (135, (.getfield 42, 3)) (List.mem_of_getElem? (i := 30) rfl)
theorem dX4_readPart_138 : decode cX4_readPart 138 = .ok (.iaload, 1) := dgX4_readPart_1 (138, (.iaload, 1)) (List.mem_of_getElem? (i := 31) rfl)
theorem dX4_readPart_139 : decode cX4_readPart 139 = .ok (.invokevirtual 79, 3) := dgX4_readPart_1 (139, (.invokevirtual 79, 3)) (List.mem_of_getElem? (i := 32) rfl)
theorem dX4_readPart_142 : decode cX4_readPart 142 = .ok (.pop, 1) := dgX4_readPart_1 (142, (.pop, 1)) (List.mem_of_getElem? (i := 33) rfl)
theorem dX4_readPart_143 : decode cX4_readPart 143 = .ok (.aload_n 0, 1) := dgX4_readPart_1 (143, (.aload_n 0, 1)) (List.mem_of_getElem? (i := 34) rfl)
theorem dX4_readPart_144 : decode cX4_readPart 144 = .ok (.dup, 1) := dgX4_readPart_1 (144, (.dup, 1)) (List.mem_of_getElem? (i := 35) rfl)
theorem dX4_readPart_145 : decode cX4_readPart 145 = .ok (.getfield 39, 3) := dgX4_readPart_1 (145, (.getfield 39, 3)) (List.mem_of_getElem? (i := 36) rfl)
theorem dX4_readPart_148 : decode cX4_readPart 148 = .ok (.iconst 1, 1) := dgX4_readPart_1 (148, (.iconst 1, 1)) (List.mem_of_getElem? (i := 37) rfl)
theorem dX4_readPart_149 : decode cX4_readPart 149 = .ok (.iadd, 1) := dgX4_readPart_1 (149, (.iadd, 1)) (List.mem_of_getElem? (i := 38) rfl)
theorem dX4_readPart_150 : decode cX4_readPart 150 = .ok (.putfield 39, 3) := dgX4_readPart_1 (150, (.putfield 39, 3)) (List.mem_of_getElem? (i := 39) rfl)
theorem dgX4_readPart_2 : ∀ r ∈ ([(153, (.aload_n 0, 1)), (154, (.dup, 1)), (155, (.getfield 42, 3)), (158, (.iconst 1, 1)), (159, (.iadd, 1)), (160, (.putfield 42, 3)), (163, (.iconst 1, 1)), (164, (.ireturn, 1))] : List (Nat × (Instr × Nat))), decode cX4_readPart r.1 = .ok r.2 := by decide +kernel
theorem dX4_readPart_153 : decode cX4_readPart 153 = .ok (.aload_n 0, 1) := dgX4_readPart_2 (153, (.aload_n 0, 1)) (List.mem_of_getElem? (i := 0) rfl)
theorem dX4_readPart_154 : decode cX4_readPart 154 = .ok (.dup, 1) := dgX4_readPart_2 (154, (.dup, 1)) (List.mem_of_getElem? (i := 1) rfl)
theorem dX4_readPart_155 : decode cX4_readPart 155 = .ok (.getfield 42, 3) := dgX4_readPart_2 (155, (.getfield 42, 3)) (List.mem_of_getElem? (i := 2) rfl)
theorem dX4_readPart_158 : decode cX4_readPart 158 = .ok (.iconst 1, 1) := dgX4_readPart_2 (158, (.iconst 1, 1)) (List.mem_of_getElem? (i := 3) rfl)
theorem dX4_readPart_159 : decode cX4_readPart 159 = .ok (.iadd, 1) := dgX4_readPart_2 (159, (.iadd, 1)) (List.mem_of_getElem? (i := 4) rfl)
theorem dX4_readPart_160 : decode cX4_readPart 160 = .ok (.putfield 42, 3) := dgX4_readPart_2 (160, (.putfield 42, 3)) (List.mem_of_getElem? (i := 5) rfl)
theorem dX4_readPart_163 : decode cX4_readPart 163 = .ok (.iconst 1, 1) := dgX4_readPart_2 (163, (.iconst 1, 1)) (List.mem_of_getElem? (i := 6) rfl)
theorem dX4_readPart_164 : decode cX4_readPart 164 = .ok (.ireturn, 1) := dgX4_readPart_2 (164, (.ireturn, 1)) (List.mem_of_getElem? (i := 7) rfl)
theorem ml_X4_49 : Cond.methodLink RX4 49 yX4_isNext ∈ tblG := tg 732 (by decide +kernel) (by decide +kernel)
theorem im_X4_isNext : Cond.instanceMethod yX4_isNext ∈ tblG := tg 734 (by decide +kernel) (by decide +kernel)
theorem se_X4_isNext : Cond.selects RX4 yX4_isNext yX4_isNext ∈ tblG := tg 7 (by decide +kernel) (by decide +kernel)
theorem ini_X4 : Cond.initialized RX4 ∈ tblG := tg 97 (by decide +kernel) (by decide +kernel)
theorem cd_X4_isNext : Cond.code yX4_isNext cX4_isNext 2 (some .boolean) ∈ tblG := tg 735 (by decide +kernel) (by decide +kernel)
theorem gW_X4_isNext : GoodIn tblG (wsG yX4_isNext cX4_isNext 2 (some .boolean)) := tgi cd_X4_isNext
theorem gV_X4_49 : GoodIn tblG (wsV RX4 49 RX4 yX4_isNext (wsG yX4_isNext cX4_isNext 2 (some .boolean))) := tgV ml_X4_49 im_X4_isNext se_X4_isNext ini_X4 gW_X4_isNext
theorem hv_X4_isNext : yX4_isNext.cls = RX4 ∧ yX4_isNext.cls ≠ "java/lang/invoke/MethodHandle" ∧ yX4_isNext.cls ≠ "java/lang/invoke/VarHandle" ∧ (parseMethodDescriptor yX4_isNext.desc).map (fun d => d.parameters.length) = some 1 := by decide +kernel
theorem ml_X4_63 : Cond.methodLink RX4 63 yX4_passed ∈ tblG := tg 736 (by decide +kernel) (by decide +kernel)
theorem im_X4_passed : Cond.instanceMethod yX4_passed ∈ tblG := tg 738 (by decide +kernel) (by decide +kernel)
theorem se_X4_passed : Cond.selects RX4 yX4_passed yX4_passed ∈ tblG := tg 8 (by decide +kernel) (by decide +kernel)
theorem cd_X4_passed : Cond.code yX4_passed cX4_passed 3 (some .boolean) ∈ tblG := tg 739 (by decide +kernel) (by decide +kernel)
theorem gW_X4_passed : GoodIn tblG (wsG yX4_passed cX4_passed 3 (some .boolean)) := tgi cd_X4_passed
theorem gV_X4_63 : GoodIn tblG (wsV RX4 63 RX4 yX4_passed (wsG yX4_passed cX4_passed 3 (some .boolean))) := tgV ml_X4_63 im_X4_passed se_X4_passed ini_X4 gW_X4_passed
theorem hv_X4_passed : yX4_passed.cls = RX4 ∧ yX4_passed.cls ≠ "java/lang/invoke/MethodHandle" ∧ yX4_passed.cls ≠ "java/lang/invoke/VarHandle" ∧ (parseMethodDescriptor yX4_passed.desc).map (fun d => d.parameters.length) = some 1 := by decide +kernel
theorem ml_X4_73 : Cond.methodLink RX4 73 yX4_readSum ∈ tblG := tg 724 (by decide +kernel) (by decide +kernel)
theorem im_X4_readSum : Cond.instanceMethod yX4_readSum ∈ tblG := tg 726 (by decide +kernel) (by decide +kernel)
theorem se_X4_readSum : Cond.selects RX4 yX4_readSum yX4_readSum ∈ tblG := tg 5 (by decide +kernel) (by decide +kernel)
theorem cd_X4_readSum : Cond.code yX4_readSum cX4_readSum 6 (some .boolean) ∈ tblG := tg 727 (by decide +kernel) (by decide +kernel)
theorem gW_X4_readSum : GoodIn tblG (wsG yX4_readSum cX4_readSum 6 (some .boolean)) := tgi cd_X4_readSum
theorem gV_X4_73 : GoodIn tblG (wsV RX4 73 RX4 yX4_readSum (wsG yX4_readSum cX4_readSum 6 (some .boolean))) := tgV ml_X4_73 im_X4_readSum se_X4_readSum ini_X4 gW_X4_readSum
theorem hv_X4_readSum : yX4_readSum.cls = RX4 ∧ yX4_readSum.cls ≠ "java/lang/invoke/MethodHandle" ∧ yX4_readSum.cls ≠ "java/lang/invoke/VarHandle" ∧ (parseMethodDescriptor yX4_readSum.desc).map (fun d => d.parameters.length) = some 1 := by decide +kernel
theorem ml_X4_69 : Cond.methodLink RX4 69 yX8_kindAt ∈ tblG := tg 720 (by decide +kernel) (by decide +kernel)
theorem im_X8_kindAt : Cond.instanceMethod yX8_kindAt ∈ tblG := tg 721 (by decide +kernel) (by decide +kernel)
theorem se_X8_kindAt : Cond.selects RX8 yX8_kindAt yX8_kindAt ∈ tblG := tg 722 (by decide +kernel) (by decide +kernel)
theorem cd_X8_kindAt : Cond.code yX8_kindAt cX8_kindAt 2 (some .int) ∈ tblG := tg 723 (by decide +kernel) (by decide +kernel)
theorem gW_X8_kindAt : GoodIn tblG (wsG yX8_kindAt cX8_kindAt 2 (some .int)) := tgi cd_X8_kindAt
theorem gV_X4_69 : GoodIn tblG (wsV RX4 69 RX8 yX8_kindAt (wsG yX8_kindAt cX8_kindAt 2 (some .int))) := tgV ml_X4_69 im_X8_kindAt se_X8_kindAt ini_X8 gW_X8_kindAt
theorem hv_X8_kindAt : yX8_kindAt.cls = RX8 ∧ yX8_kindAt.cls ≠ "java/lang/invoke/MethodHandle" ∧ yX8_kindAt.cls ≠ "java/lang/invoke/VarHandle" ∧ (parseMethodDescriptor yX8_kindAt.desc).map (fun d => d.parameters.length) = some 1 := by decide +kernel
theorem fl_X4_39 : Cond.fieldLink RX4 39 "LateGlass$LawReader" "parts" "I" ∈ tblG := tg 423 (by decide +kernel) (by decide +kernel)
theorem fl_X4_93 : Cond.fieldLink RX4 93 "LateGlass$Tokens" "numbers" "[I" ∈ tblG := tg 408 (by decide +kernel) (by decide +kernel)
theorem ml_X4_79 : Cond.methodLink RX4 79 yX4_emit ∈ tblG := tg 740 (by decide +kernel) (by decide +kernel)
theorem im_X4_emit : Cond.instanceMethod yX4_emit ∈ tblG := tg 742 (by decide +kernel) (by decide +kernel)
theorem se_X4_emit : Cond.selects RX4 yX4_emit yX4_emit ∈ tblG := tg 9 (by decide +kernel) (by decide +kernel)
theorem cd_X4_emit : Cond.code yX4_emit cX4_emit 3 (some .int) ∈ tblG := tg 743 (by decide +kernel) (by decide +kernel)
theorem gW_X4_emit : GoodIn tblG (wsG yX4_emit cX4_emit 3 (some .int)) := tgi cd_X4_emit
theorem gV_X4_79 : GoodIn tblG (wsV RX4 79 RX4 yX4_emit (wsG yX4_emit cX4_emit 3 (some .int))) := tgV ml_X4_79 im_X4_emit se_X4_emit ini_X4 gW_X4_emit
theorem hv_X4_emit : yX4_emit.cls = RX4 ∧ yX4_emit.cls ≠ "java/lang/invoke/MethodHandle" ∧ yX4_emit.cls ≠ "java/lang/invoke/VarHandle" ∧ (parseMethodDescriptor yX4_emit.desc).map (fun d => d.parameters.length) = some 2 := by decide +kernel
theorem dgX4_readSum_0 : ∀ r ∈ ([(0, (.aload_n 0, 1)), (1, (.iload_n 1, 1)), (2, (.invokevirtual 90, 3)), (5, (.ifCond .ne 5, 3)), (8, (.iconst 0, 1)), (9, (.ireturn, 1)), (10, (.iconst (-1), 1)), (11, (.istore_n 2, 1)), (12, (.iconst 0, 1)), (13, (.istore_n 3, 1)), (14, (.iload_n 3, 1)), (15, (.sipush 400, 3)), (18, (.if_icmp .ge 153, 3)), (21, (.aload_n 0, 1)), (22, (.bipush 43, 2)), (24, (.invokevirtual 49, 3)), (27, (.ifCond .eq 7, 3)), (30, (.iconst 2, 1)), (31, (.goto 43, 3)), (34, (.aload_n 0, 1)), (35, (.bipush 45, 2)), (37, (.invokevirtual 49, 3)), (40, (.ifCond .eq 7, 3)), (43, (.iconst 3, 1)), (44, (.goto 30, 3)), (47, (.aload_n 0, 1)), (48, (.bipush 42, 2)), (50, (.invokevirtual 49, 3)), (53, (.ifCond .eq 7, 3)), (56, (.iconst 4, 1)), (57, (.goto 17, 3)), (60, (.aload_n 0, 1)), (61, (.bipush 47, 2)), (63, (.invokevirtual 49, 3)), (66, (.ifCond .eq 7, 3)), (69, (.iconst 5, 1)), (70, (.goto 4, 3)), (73, (.iconst (-1), 1)), (74, (.istore 4, 2)), (76, (.iload 4, 2))] : List (Nat × (Instr × Nat))), decode cX4_readSum r.1 = .ok r.2 := by decide +kernel
theorem dX4_readSum_0 : decode cX4_readSum 0 = .ok (.aload_n 0, 1) := dgX4_readSum_0 (0, (.aload_n 0, 1)) (List.mem_of_getElem? (i := 0) rfl)
theorem dX4_readSum_1 : decode cX4_readSum 1 = .ok (.iload_n 1, 1) := dgX4_readSum_0 (1, (.iload_n 1, 1)) (List.mem_of_getElem? (i := 1) rfl)
theorem dX4_readSum_2 : decode cX4_readSum 2 = .ok (.invokevirtual 90, 3) := dgX4_readSum_0 (2, (.invokevirtual 90, 3)) (List.mem_of_getElem? (i := 2) rfl)
theorem dX4_readSum_5 : decode cX4_readSum 5 = .ok (.ifCond .ne 5, 3) := dgX4_readSum_0 (5, (.ifCond .ne 5, 3)) (List.mem_of_getElem? (i := 3) rfl)
theorem dX4_readSum_8 : decode cX4_readSum 8 = .ok (.iconst 0, 1) := dgX4_readSum_0 (8, (.iconst 0, 1)) (List.mem_of_getElem? (i := 4) rfl)
theorem dX4_readSum_9 : decode cX4_readSum 9 = .ok (.ireturn, 1) := dgX4_readSum_0 (9, (.ireturn, 1)) (List.mem_of_getElem? (i := 5) rfl)
theorem dX4_readSum_10 : decode cX4_readSum 10 = .ok (.iconst (-1), 1) := dgX4_readSum_0 (10, (.iconst (-1), 1)) (List.mem_of_getElem? (i := 6) rfl)
theorem dX4_readSum_11 : decode cX4_readSum 11 = .ok (.istore_n 2, 1) := dgX4_readSum_0 (11, (.istore_n 2, 1)) (List.mem_of_getElem? (i := 7) rfl)
theorem dX4_readSum_12 : decode cX4_readSum 12 = .ok (.iconst 0, 1) := dgX4_readSum_0 (12, (.iconst 0, 1)) (List.mem_of_getElem? (i := 8) rfl)
theorem dX4_readSum_13 : decode cX4_readSum 13 = .ok (.istore_n 3, 1) := dgX4_readSum_0 (13, (.istore_n 3, 1)) (List.mem_of_getElem? (i := 9) rfl)
theorem dX4_readSum_14 : decode cX4_readSum 14 = .ok (.iload_n 3, 1) := dgX4_readSum_0 (14, (.iload_n 3, 1)) (List.mem_of_getElem? (i := 10) rfl)
theorem dX4_readSum_15 : decode cX4_readSum 15 = .ok (.sipush 400, 3) := dgX4_readSum_0 (15, (.sipush 400, 3)) (List.mem_of_getElem? (i := 11) rfl)
theorem dX4_readSum_18 : decode cX4_readSum 18 = .ok (.if_icmp .ge 153, 3) := dgX4_readSum_0 (18, (.if_icmp .ge 153, 3)) (List.mem_of_getElem? (i := 12) rfl)
theorem dX4_readSum_21 : decode cX4_readSum 21 = .ok (.aload_n 0, 1) := dgX4_readSum_0 (21, (.aload_n 0, 1)) (List.mem_of_getElem? (i := 13) rfl)
theorem dX4_readSum_22 : decode cX4_readSum 22 = .ok (.bipush 43, 2) := dgX4_readSum_0 (22, (.bipush 43, 2)) (List.mem_of_getElem? (i := 14) rfl)
theorem dX4_readSum_24 : decode cX4_readSum 24 = .ok (.invokevirtual 49, 3) := dgX4_readSum_0 (24, (.invokevirtual 49, 3)) (List.mem_of_getElem? (i := 15) rfl)
theorem dX4_readSum_27 : decode cX4_readSum 27 = .ok (.ifCond .eq 7, 3) := dgX4_readSum_0 (27, (.ifCond .eq 7, 3)) (List.mem_of_getElem? (i := 16) rfl)
theorem dX4_readSum_30 : decode cX4_readSum 30 = .ok (.iconst 2, 1) := dgX4_readSum_0 (30, (.iconst 2, 1)) (List.mem_of_getElem? (i := 17) rfl)
theorem dX4_readSum_31 : decode cX4_readSum 31 = .ok (.goto 43, 3) := dgX4_readSum_0 (31, (.goto 43, 3)) (List.mem_of_getElem? (i := 18) rfl)
theorem dX4_readSum_34 : decode cX4_readSum 34 = .ok (.aload_n 0, 1) := dgX4_readSum_0 (34, (.aload_n 0, 1)) (List.mem_of_getElem? (i := 19) rfl)
theorem dX4_readSum_35 : decode cX4_readSum 35 = .ok (.bipush 45, 2) := dgX4_readSum_0 (35, (.bipush 45, 2)) (List.mem_of_getElem? (i := 20) rfl)
theorem dX4_readSum_37 : decode cX4_readSum 37 = .ok (.invokevirtual 49, 3) := dgX4_readSum_0 (37, (.invokevirtual 49, 3)) (List.mem_of_getElem? (i := 21) rfl)
theorem dX4_readSum_40 : decode cX4_readSum 40 = .ok (.ifCond .eq 7, 3) := dgX4_readSum_0 (40, (.ifCond .eq 7, 3)) (List.mem_of_getElem? (i := 22) rfl)
theorem dX4_readSum_43 : decode cX4_readSum 43 = .ok (.iconst 3, 1) := dgX4_readSum_0 (43, (.iconst 3, 1)) (List.mem_of_getElem? (i := 23) rfl)
theorem dX4_readSum_44 : decode cX4_readSum 44 = .ok (.goto 30, 3) := dgX4_readSum_0 (44, (.goto 30, 3)) (List.mem_of_getElem? (i := 24) rfl)
theorem dX4_readSum_47 : decode cX4_readSum 47 = .ok (.aload_n 0, 1) := dgX4_readSum_0 (47, (.aload_n 0, 1)) (List.mem_of_getElem? (i := 25) rfl)
theorem dX4_readSum_48 : decode cX4_readSum 48 = .ok (.bipush 42, 2) := dgX4_readSum_0 (48, (.bipush 42, 2)) (List.mem_of_getElem? (i := 26) rfl)
theorem dX4_readSum_50 : decode cX4_readSum 50 = .ok (.invokevirtual 49, 3) := dgX4_readSum_0 (50, (.invokevirtual 49, 3)) (List.mem_of_getElem? (i := 27) rfl)
theorem dX4_readSum_53 : decode cX4_readSum 53 = .ok (.ifCond .eq 7, 3) := dgX4_readSum_0 (53, (.ifCond .eq 7, 3)) (List.mem_of_getElem? (i := 28) rfl)
theorem dX4_readSum_56 : decode cX4_readSum 56 = .ok (.iconst 4, 1) := dgX4_readSum_0 (56, (.iconst 4, 1)) (List.mem_of_getElem? (i := 29) rfl)
theorem dX4_readSum_57 : decode cX4_readSum 57 = .ok (.goto 17, 3) := dgX4_readSum_0 (57, (.goto 17, 3)) (List.mem_of_getElem? (i := 30) rfl)
theorem dX4_readSum_60 : decode cX4_readSum 60 = .ok (.aload_n 0, 1) := dgX4_readSum_0 (60, (.aload_n 0, 1)) (List.mem_of_getElem? (i := 31) rfl)
theorem dX4_readSum_61 : decode cX4_readSum 61 = .ok (.bipush 47, 2) := dgX4_readSum_0 (61, (.bipush 47, 2)) (List.mem_of_getElem? (i := 32) rfl)
theorem dX4_readSum_63 : decode cX4_readSum 63 = .ok (.invokevirtual 49, 3) := dgX4_readSum_0 (63, (.invokevirtual 49, 3)) (List.mem_of_getElem? (i := 33) rfl)
theorem dX4_readSum_66 : decode cX4_readSum 66 = .ok (.ifCond .eq 7, 3) := dgX4_readSum_0 (66, (.ifCond .eq 7, 3)) (List.mem_of_getElem? (i := 34) rfl)
theorem dX4_readSum_69 : decode cX4_readSum 69 = .ok (.iconst 5, 1) := dgX4_readSum_0 (69, (.iconst 5, 1)) (List.mem_of_getElem? (i := 35) rfl)
theorem dX4_readSum_70 : decode cX4_readSum 70 = .ok (.goto 4, 3) := dgX4_readSum_0 (70, (.goto 4, 3)) (List.mem_of_getElem? (i := 36) rfl)
theorem dX4_readSum_73 : decode cX4_readSum 73 = .ok (.iconst (-1), 1) := dgX4_readSum_0 (73, (.iconst (-1), 1)) (List.mem_of_getElem? (i := 37) rfl)
theorem dX4_readSum_74 : decode cX4_readSum 74 = .ok (.istore 4, 2) := dgX4_readSum_0 (74, (.istore 4, 2)) (List.mem_of_getElem? (i := 38) rfl)
theorem dX4_readSum_76 : decode cX4_readSum 76 = .ok (.iload 4, 2) := dgX4_readSum_0 (76, (.iload 4, 2)) (List.mem_of_getElem? (i := 39) rfl)
theorem dgX4_readSum_1 : ∀ r ∈ ([(78, (.iconst 2, 1)), (79, (.if_icmp .eq 9, 3)), (82, (.iload 4, 2)), (84, (.iconst 3, 1)), (85, (.if_icmp .ne 7, 3)), (88, (.iconst 1, 1)), (89, (.goto 4, 3)), (92, (.iconst 0, 1)), (93, (.istore 5, 2)), (95, (.iload_n 2, 1)), (96, (.iconst (-1), 1)), (97, (.if_icmp .eq 21, 3)), (100, (.iload 5, 2)), (102, (.ifCond .ne 9, 3)), (105, (.iload 4, 2)), (107, (.iconst (-1), 1)), (108, (.if_icmp .ne 10, 3)), (111, (.aload_n 0, 1)), (112, (.iload_n 2, 1)), (113, (.iconst 0, 1)), (114, (.invokevirtual 79, 3)), (117, (.pop, 1)), (118, (.iload 4, 2)), (120, (.iconst (-1), 1)), (121, (.if_icmp .ne 5, 3)), (124, (.iconst 1, 1)), (125, (.ireturn, 1)), (126, (.aload_n 0, 1)), (127, (.dup, 1)), (128, (.getfield 42, 3)), (131, (.iconst 1, 1)), (132, (.iadd, 1)), (133, (.putfield 42, 3)), (136, (.aload_n 0, 1)), (137, (.iload_n 1, 1)), (138, (.invokevirtual 90, 3)), (141, (.ifCond .ne 5, 3)), (144, (.iconst 0, 1)), (145, (.ireturn, 1)), (146, (.iload 5, 2))] : List (Nat × (Instr × Nat))), decode cX4_readSum r.1 = .ok r.2 := by decide +kernel
theorem dX4_readSum_78 : decode cX4_readSum 78 = .ok (.iconst 2, 1) := dgX4_readSum_1 (78, (.iconst 2, 1)) (List.mem_of_getElem? (i := 0) rfl)
theorem dX4_readSum_79 : decode cX4_readSum 79 = .ok (.if_icmp .eq 9, 3) := dgX4_readSum_1 (79, (.if_icmp .eq 9, 3)) (List.mem_of_getElem? (i := 1) rfl)
theorem dX4_readSum_82 : decode cX4_readSum 82 = .ok (.iload 4, 2) := dgX4_readSum_1 (82, (.iload 4, 2)) (List.mem_of_getElem? (i := 2) rfl)
theorem dX4_readSum_84 : decode cX4_readSum 84 = .ok (.iconst 3, 1) := dgX4_readSum_1 (84, (.iconst 3, 1)) (List.mem_of_getElem? (i := 3) rfl)
theorem dX4_readSum_85 : decode cX4_readSum 85 = .ok (.if_icmp .ne 7, 3) := dgX4_readSum_1 (85, (.if_icmp .ne 7, 3)) (List.mem_of_getElem? (i := 4) rfl)
theorem dX4_readSum_88 : decode cX4_readSum 88 = .ok (.iconst 1, 1) := dgX4_readSum_1 (88, (.iconst 1, 1)) (List.mem_of_getElem? (i := 5) rfl)
theorem dX4_readSum_89 : decode cX4_readSum 89 = .ok (.goto 4, 3) := dgX4_readSum_1 (89, (.goto 4, 3)) (List.mem_of_getElem? (i := 6) rfl)
theorem dX4_readSum_92 : decode cX4_readSum 92 = .ok (.iconst 0, 1) := dgX4_readSum_1 (92, (.iconst 0, 1)) (List.mem_of_getElem? (i := 7) rfl)
theorem dX4_readSum_93 : decode cX4_readSum 93 = .ok (.istore 5, 2) := dgX4_readSum_1 (93, (.istore 5, 2)) (List.mem_of_getElem? (i := 8) rfl)
theorem dX4_readSum_95 : decode cX4_readSum 95 = .ok (.iload_n 2, 1) := dgX4_readSum_1 (95, (.iload_n 2, 1)) (List.mem_of_getElem? (i := 9) rfl)
theorem dX4_readSum_96 : decode cX4_readSum 96 = .ok (.iconst (-1), 1) := dgX4_readSum_1 (96, (.iconst (-1), 1)) (List.mem_of_getElem? (i := 10) rfl)
theorem dX4_readSum_97 : decode cX4_readSum 97 = .ok (.if_icmp .eq 21, 3) := dgX4_readSum_1 (97, (.if_icmp .eq 21, 3)) (List.mem_of_getElem? (i := 11) rfl)
theorem dX4_readSum_100 : decode cX4_readSum 100 = .ok (.iload 5, 2) := dgX4_readSum_1 (100, (.iload 5, 2)) (List.mem_of_getElem? (i := 12) rfl)
theorem dX4_readSum_102 : decode cX4_readSum 102 = .ok (.ifCond .ne 9, 3) := dgX4_readSum_1 (102, (.ifCond .ne 9, 3)) (List.mem_of_getElem? (i := 13) rfl)
theorem dX4_readSum_105 : decode cX4_readSum 105 = .ok (.iload 4, 2) := dgX4_readSum_1 (105, (.iload 4, 2)) (List.mem_of_getElem? (i := 14) rfl)
theorem dX4_readSum_107 : decode cX4_readSum 107 = .ok (.iconst (-1), 1) := dgX4_readSum_1 (107, (.iconst (-1), 1)) (List.mem_of_getElem? (i := 15) rfl)
theorem dX4_readSum_108 : decode cX4_readSum 108 = .ok (.if_icmp .ne 10, 3) := dgX4_readSum_1 (108, (.if_icmp .ne 10, 3)) (List.mem_of_getElem? (i := 16) rfl)
theorem dX4_readSum_111 : decode cX4_readSum 111 = .ok (.aload_n 0, 1) := dgX4_readSum_1 (111, (.aload_n 0, 1)) (List.mem_of_getElem? (i := 17) rfl)
theorem dX4_readSum_112 : decode cX4_readSum 112 = .ok (.iload_n 2, 1) := dgX4_readSum_1 (112, (.iload_n 2, 1)) (List.mem_of_getElem? (i := 18) rfl)
theorem dX4_readSum_113 : decode cX4_readSum 113 = .ok (.iconst 0, 1) := dgX4_readSum_1 (113, (.iconst 0, 1)) (List.mem_of_getElem? (i := 19) rfl)
theorem dX4_readSum_114 : decode cX4_readSum 114 = .ok (.invokevirtual 79, 3) := dgX4_readSum_1 (114, (.invokevirtual 79, 3)) (List.mem_of_getElem? (i := 20) rfl)
theorem dX4_readSum_117 : decode cX4_readSum 117 = .ok (.pop, 1) := dgX4_readSum_1 (117, (.pop, 1)) (List.mem_of_getElem? (i := 21) rfl)
theorem dX4_readSum_118 : decode cX4_readSum 118 = .ok (.iload 4, 2) := dgX4_readSum_1 (118, (.iload 4, 2)) (List.mem_of_getElem? (i := 22) rfl)
theorem dX4_readSum_120 : decode cX4_readSum 120 = .ok (.iconst (-1), 1) := dgX4_readSum_1 (120, (.iconst (-1), 1)) (List.mem_of_getElem? (i := 23) rfl)
theorem dX4_readSum_121 : decode cX4_readSum 121 = .ok (.if_icmp .ne 5, 3) := dgX4_readSum_1 (121, (.if_icmp .ne 5, 3)) (List.mem_of_getElem? (i := 24) rfl)
theorem dX4_readSum_124 : decode cX4_readSum 124 = .ok (.iconst 1, 1) := dgX4_readSum_1 (124, (.iconst 1, 1)) (List.mem_of_getElem? (i := 25) rfl)
theorem dX4_readSum_125 : decode cX4_readSum 125 = .ok (.ireturn, 1) := dgX4_readSum_1 (125, (.ireturn, 1)) (List.mem_of_getElem? (i := 26) rfl)
theorem dX4_readSum_126 : decode cX4_readSum 126 = .ok (.aload_n 0, 1) := dgX4_readSum_1 (126, (.aload_n 0, 1)) (List.mem_of_getElem? (i := 27) rfl)
theorem dX4_readSum_127 : decode cX4_readSum 127 = .ok (.dup, 1) := dgX4_readSum_1 (127, (.dup, 1)) (List.mem_of_getElem? (i := 28) rfl)
theorem dX4_readSum_128 : decode cX4_readSum 128 = .ok (.getfield 42, 3) := dgX4_readSum_1 (128, (.getfield 42, 3)) (List.mem_of_getElem? (i := 29) rfl)
theorem dX4_readSum_131 : decode cX4_readSum 131 = .ok (.iconst 1, 1) := dgX4_readSum_1 (131, (.iconst 1, 1)) (List.mem_of_getElem? (i := 30) rfl)
theorem dX4_readSum_132 : decode cX4_readSum 132 = .ok (.iadd, 1) := dgX4_readSum_1 (132, (.iadd, 1)) (List.mem_of_getElem? (i := 31) rfl)
theorem dX4_readSum_133 : decode cX4_readSum 133 = .ok (.putfield 42, 3) := dgX4_readSum_1 (133, (.putfield 42, 3)) (List.mem_of_getElem? (i := 32) rfl)
theorem dX4_readSum_136 : decode cX4_readSum 136 = .ok (.aload_n 0, 1) := dgX4_readSum_1 (136, (.aload_n 0, 1)) (List.mem_of_getElem? (i := 33) rfl)
theorem dX4_readSum_137 : decode cX4_readSum 137 = .ok (.iload_n 1, 1) := dgX4_readSum_1 (137, (.iload_n 1, 1)) (List.mem_of_getElem? (i := 34) rfl)
theorem dX4_readSum_138 : decode cX4_readSum 138 = .ok (.invokevirtual 90, 3) := dgX4_readSum_1 (138, (.invokevirtual 90, 3)) (List.mem_of_getElem? (i := 35) rfl)
theorem dX4_readSum_141 : decode cX4_readSum 141 = .ok (.ifCond .ne 5, 3) := dgX4_readSum_1 (141, (.ifCond .ne 5, 3)) (List.mem_of_getElem? (i := 36) rfl)
theorem dX4_readSum_144 : decode cX4_readSum 144 = .ok (.iconst 0, 1) := dgX4_readSum_1 (144, (.iconst 0, 1)) (List.mem_of_getElem? (i := 37) rfl)
theorem dX4_readSum_145 : decode cX4_readSum 145 = .ok (.ireturn, 1) := dgX4_readSum_1 (145, (.ireturn, 1)) (List.mem_of_getElem? (i := 38) rfl)
theorem dX4_readSum_146 : decode cX4_readSum 146 = .ok (.iload 5, 2) := dgX4_readSum_1 (146, (.iload 5, 2)) (List.mem_of_getElem? (i := 39) rfl)
theorem dgX4_readSum_2 : ∀ r ∈ ([(148, (.ifCond .eq 9, 3)), (151, (.iload 4, 2)), (153, (.istore_n 2, 1)), (154, (.goto 11, 3)), (157, (.aload_n 0, 1)), (158, (.iload 4, 2)), (160, (.iconst 0, 1)), (161, (.invokevirtual 79, 3)), (164, (.pop, 1)), (165, (.iinc 3 1, 3)), (168, (.goto (-154), 3)), (171, (.iconst 0, 1)), (172, (.ireturn, 1))] : List (Nat × (Instr × Nat))), decode cX4_readSum r.1 = .ok r.2 := by decide +kernel
theorem dX4_readSum_148 : decode cX4_readSum 148 = .ok (.ifCond .eq 9, 3) := dgX4_readSum_2 (148, (.ifCond .eq 9, 3)) (List.mem_of_getElem? (i := 0) rfl)
theorem dX4_readSum_151 : decode cX4_readSum 151 = .ok (.iload 4, 2) := dgX4_readSum_2 (151, (.iload 4, 2)) (List.mem_of_getElem? (i := 1) rfl)
theorem dX4_readSum_153 : decode cX4_readSum 153 = .ok (.istore_n 2, 1) := dgX4_readSum_2 (153, (.istore_n 2, 1)) (List.mem_of_getElem? (i := 2) rfl)
theorem dX4_readSum_154 : decode cX4_readSum 154 = .ok (.goto 11, 3) := dgX4_readSum_2 (154, (.goto 11, 3)) (List.mem_of_getElem? (i := 3) rfl)
theorem dX4_readSum_157 : decode cX4_readSum 157 = .ok (.aload_n 0, 1) := dgX4_readSum_2 (157, (.aload_n 0, 1)) (List.mem_of_getElem? (i := 4) rfl)
theorem dX4_readSum_158 : decode cX4_readSum 158 = .ok (.iload 4, 2) := dgX4_readSum_2 (158, (.iload 4, 2)) (List.mem_of_getElem? (i := 5) rfl)
theorem dX4_readSum_160 : decode cX4_readSum 160 = .ok (.iconst 0, 1) := dgX4_readSum_2 (160, (.iconst 0, 1)) (List.mem_of_getElem? (i := 6) rfl)
theorem dX4_readSum_161 : decode cX4_readSum 161 = .ok (.invokevirtual 79, 3) := dgX4_readSum_2 (161, (.invokevirtual 79, 3)) (List.mem_of_getElem? (i := 7) rfl)
theorem dX4_readSum_164 : decode cX4_readSum 164 = .ok (.pop, 1) := dgX4_readSum_2 (164, (.pop, 1)) (List.mem_of_getElem? (i := 8) rfl)
theorem dX4_readSum_165 : decode cX4_readSum 165 = .ok (.iinc 3 1, 3) := dgX4_readSum_2 (165, (.iinc 3 1, 3)) (List.mem_of_getElem? (i := 9) rfl)
theorem dX4_readSum_168 : decode cX4_readSum 168 = .ok (.goto (-154), 3) := dgX4_readSum_2 (168, (.goto (-154), 3)) (List.mem_of_getElem? (i := 10) rfl)
theorem dX4_readSum_171 : decode cX4_readSum 171 = .ok (.iconst 0, 1) := dgX4_readSum_2 (171, (.iconst 0, 1)) (List.mem_of_getElem? (i := 11) rfl)
theorem dX4_readSum_172 : decode cX4_readSum 172 = .ok (.ireturn, 1) := dgX4_readSum_2 (172, (.ireturn, 1)) (List.mem_of_getElem? (i := 12) rfl)
theorem ml_X4_90 : Cond.methodLink RX4 90 yX4_readPart ∈ tblG := tg 728 (by decide +kernel) (by decide +kernel)
theorem im_X4_readPart : Cond.instanceMethod yX4_readPart ∈ tblG := tg 730 (by decide +kernel) (by decide +kernel)
theorem se_X4_readPart : Cond.selects RX4 yX4_readPart yX4_readPart ∈ tblG := tg 6 (by decide +kernel) (by decide +kernel)
theorem cd_X4_readPart : Cond.code yX4_readPart cX4_readPart 4 (some .boolean) ∈ tblG := tg 731 (by decide +kernel) (by decide +kernel)
theorem gW_X4_readPart : GoodIn tblG (wsG yX4_readPart cX4_readPart 4 (some .boolean)) := tgi cd_X4_readPart
theorem gV_X4_90 : GoodIn tblG (wsV RX4 90 RX4 yX4_readPart (wsG yX4_readPart cX4_readPart 4 (some .boolean))) := tgV ml_X4_90 im_X4_readPart se_X4_readPart ini_X4 gW_X4_readPart
theorem hv_X4_readPart : yX4_readPart.cls = RX4 ∧ yX4_readPart.cls ≠ "java/lang/invoke/MethodHandle" ∧ yX4_readPart.cls ≠ "java/lang/invoke/VarHandle" ∧ (parseMethodDescriptor yX4_readPart.desc).map (fun d => d.parameters.length) = some 1 := by decide +kernel
theorem dgX4_readPlain_0 : ∀ r ∈ ([(0, (.iconst 0, 1)), (1, (.istore_n 2, 1)), (2, (.iconst 0, 1)), (3, (.istore_n 3, 1)), (4, (.iload_n 3, 1)), (5, (.sipush 400, 3)), (8, (.if_icmp .ge 29, 3)), (11, (.aload_n 0, 1)), (12, (.sipush 263, 3)), (15, (.invokevirtual 63, 3)), (18, (.ifCond .eq 19, 3)), (21, (.iload_n 2, 1)), (22, (.ifCond .ne 7, 3)), (25, (.iconst 1, 1)), (26, (.goto 4, 3)), (29, (.iconst 0, 1)), (30, (.istore_n 2, 1)), (31, (.iinc 3 1, 3)), (34, (.goto (-30), 3)), (37, (.aload_n 0, 1)), (38, (.bipush 40, 2)), (40, (.invokevirtual 49, 3)), (43, (.ifCond .eq 39, 3)), (46, (.iload_n 1, 1)), (47, (.bipush 8, 2)), (49, (.if_icmp .ge 31, 3)), (52, (.aload_n 0, 1)), (53, (.bipush 40, 2)), (55, (.invokevirtual 63, 3)), (58, (.ifCond .eq 22, 3)), (61, (.aload_n 0, 1)), (62, (.iload_n 1, 1)), (63, (.iconst 1, 1)), (64, (.iadd, 1)), (65, (.invokevirtual 76, 3)), (68, (.ifCond .eq 12, 3)), (71, (.aload_n 0, 1)), (72, (.bipush 41, 2)), (74, (.invokevirtual 63, 3)), (77, (.ifCond .ne 93, 3))] : List (Nat × (Instr × Nat))), decode cX4_readPlain r.1 = .ok r.2 := by decide +kernel
theorem dX4_readPlain_0 : decode cX4_readPlain 0 = .ok (.iconst 0, 1) := dgX4_readPlain_0 (0, (.iconst 0, 1)) (List.mem_of_getElem? (i := 0) rfl)
theorem dX4_readPlain_1 : decode cX4_readPlain 1 = .ok (.istore_n 2, 1) := dgX4_readPlain_0 (1, (.istore_n 2, 1)) (List.mem_of_getElem? (i := 1) rfl)
theorem dX4_readPlain_2 : decode cX4_readPlain 2 = .ok (.iconst 0, 1) := dgX4_readPlain_0 (2, (.iconst 0, 1)) (List.mem_of_getElem? (i := 2) rfl)
theorem dX4_readPlain_3 : decode cX4_readPlain 3 = .ok (.istore_n 3, 1) := dgX4_readPlain_0 (3, (.istore_n 3, 1)) (List.mem_of_getElem? (i := 3) rfl)
theorem dX4_readPlain_4 : decode cX4_readPlain 4 = .ok (.iload_n 3, 1) := dgX4_readPlain_0 (4, (.iload_n 3, 1)) (List.mem_of_getElem? (i := 4) rfl)
theorem dX4_readPlain_5 : decode cX4_readPlain 5 = .ok (.sipush 400, 3) := dgX4_readPlain_0 (5, (.sipush 400, 3)) (List.mem_of_getElem? (i := 5) rfl)
theorem dX4_readPlain_8 : decode cX4_readPlain 8 = .ok (.if_icmp .ge 29, 3) := dgX4_readPlain_0 (8, (.if_icmp .ge 29, 3)) (List.mem_of_getElem? (i := 6) rfl)
theorem dX4_readPlain_11 : decode cX4_readPlain 11 = .ok (.aload_n 0, 1) := dgX4_readPlain_0 (11, (.aload_n 0, 1)) (List.mem_of_getElem? (i := 7) rfl)
theorem dX4_readPlain_12 : decode cX4_readPlain 12 = .ok (.sipush 263, 3) := dgX4_readPlain_0 (12, (.sipush 263, 3)) (List.mem_of_getElem? (i := 8) rfl)
theorem dX4_readPlain_15 : decode cX4_readPlain 15 = .ok (.invokevirtual 63, 3) := dgX4_readPlain_0 (15, (.invokevirtual 63, 3)) (List.mem_of_getElem? (i := 9) rfl)
theorem dX4_readPlain_18 : decode cX4_readPlain 18 = .ok (.ifCond .eq 19, 3) := dgX4_readPlain_0 (18, (.ifCond .eq 19, 3)) (List.mem_of_getElem? (i := 10) rfl)
theorem dX4_readPlain_21 : decode cX4_readPlain 21 = .ok (.iload_n 2, 1) := dgX4_readPlain_0 (21, (.iload_n 2, 1)) (List.mem_of_getElem? (i := 11) rfl)
theorem dX4_readPlain_22 : decode cX4_readPlain 22 = .ok (.ifCond .ne 7, 3) := dgX4_readPlain_0 (22, (.ifCond .ne 7, 3)) (List.mem_of_getElem? (i := 12) rfl)
theorem dX4_readPlain_25 : decode cX4_readPlain 25 = .ok (.iconst 1, 1) := dgX4_readPlain_0 (25, (.iconst 1, 1)) (List.mem_of_getElem? (i := 13) rfl)
theorem dX4_readPlain_26 : decode cX4_readPlain 26 = .ok (.goto 4, 3) := dgX4_readPlain_0 (26, (.goto 4, 3)) (List.mem_of_getElem? (i := 14) rfl)
theorem dX4_readPlain_29 : decode cX4_readPlain 29 = .ok (.iconst 0, 1) := dgX4_readPlain_0 (29, (.iconst 0, 1)) (List.mem_of_getElem? (i := 15) rfl)
theorem dX4_readPlain_30 : decode cX4_readPlain 30 = .ok (.istore_n 2, 1) := dgX4_readPlain_0 (30, (.istore_n 2, 1)) (List.mem_of_getElem? (i := 16) rfl)
theorem dX4_readPlain_31 : decode cX4_readPlain 31 = .ok (.iinc 3 1, 3) := dgX4_readPlain_0 (31, (.iinc 3 1, 3)) (List.mem_of_getElem? (i := 17) rfl)
theorem dX4_readPlain_34 : decode cX4_readPlain 34 = .ok (.goto (-30), 3) := dgX4_readPlain_0 (34, (.goto (-30), 3)) (List.mem_of_getElem? (i := 18) rfl)
theorem dX4_readPlain_37 : decode cX4_readPlain 37 = .ok (.aload_n 0, 1) := dgX4_readPlain_0 (37, (.aload_n 0, 1)) (List.mem_of_getElem? (i := 19) rfl)
theorem dX4_readPlain_38 : decode cX4_readPlain 38 = .ok (.bipush 40, 2) := dgX4_readPlain_0 (38, (.bipush 40, 2)) (List.mem_of_getElem? (i := 20) rfl)
theorem dX4_readPlain_40 : decode cX4_readPlain 40 = .ok (.invokevirtual 49, 3) := dgX4_readPlain_0 (40, (.invokevirtual 49, 3)) (List.mem_of_getElem? (i := 21) rfl)
theorem dX4_readPlain_43 : decode cX4_readPlain 43 = .ok (.ifCond .eq 39, 3) := dgX4_readPlain_0 (43, (.ifCond .eq 39, 3)) (List.mem_of_getElem? (i := 22) rfl)
theorem dX4_readPlain_46 : decode cX4_readPlain 46 = .ok (.iload_n 1, 1) := dgX4_readPlain_0 (46, (.iload_n 1, 1)) (List.mem_of_getElem? (i := 23) rfl)
theorem dX4_readPlain_47 : decode cX4_readPlain 47 = .ok (.bipush 8, 2) := dgX4_readPlain_0 (47, (.bipush 8, 2)) (List.mem_of_getElem? (i := 24) rfl)
theorem dX4_readPlain_49 : decode cX4_readPlain 49 = .ok (.if_icmp .ge 31, 3) := dgX4_readPlain_0 (49, (.if_icmp .ge 31, 3)) (List.mem_of_getElem? (i := 25) rfl)
theorem dX4_readPlain_52 : decode cX4_readPlain 52 = .ok (.aload_n 0, 1) := dgX4_readPlain_0 (52, (.aload_n 0, 1)) (List.mem_of_getElem? (i := 26) rfl)
theorem dX4_readPlain_53 : decode cX4_readPlain 53 = .ok (.bipush 40, 2) := dgX4_readPlain_0 (53, (.bipush 40, 2)) (List.mem_of_getElem? (i := 27) rfl)
theorem dX4_readPlain_55 : decode cX4_readPlain 55 = .ok (.invokevirtual 63, 3) := dgX4_readPlain_0 (55, (.invokevirtual 63, 3)) (List.mem_of_getElem? (i := 28) rfl)
theorem dX4_readPlain_58 : decode cX4_readPlain 58 = .ok (.ifCond .eq 22, 3) := dgX4_readPlain_0 (58, (.ifCond .eq 22, 3)) (List.mem_of_getElem? (i := 29) rfl)
theorem dX4_readPlain_61 : decode cX4_readPlain 61 = .ok (.aload_n 0, 1) := dgX4_readPlain_0 (61, (.aload_n 0, 1)) (List.mem_of_getElem? (i := 30) rfl)
theorem dX4_readPlain_62 : decode cX4_readPlain 62 = .ok (.iload_n 1, 1) := dgX4_readPlain_0 (62, (.iload_n 1, 1)) (List.mem_of_getElem? (i := 31) rfl)
theorem dX4_readPlain_63 : decode cX4_readPlain 63 = .ok (.iconst 1, 1) := dgX4_readPlain_0 (63, (.iconst 1, 1)) (List.mem_of_getElem? (i := 32) rfl)
theorem dX4_readPlain_64 : decode cX4_readPlain 64 = .ok (.iadd, 1) := dgX4_readPlain_0 (64, (.iadd, 1)) (List.mem_of_getElem? (i := 33) rfl)
theorem dX4_readPlain_65 : decode cX4_readPlain 65 = .ok (.invokevirtual 76, 3) := dgX4_readPlain_0 (65, (.invokevirtual 76, 3)) (List.mem_of_getElem? (i := 34) rfl)
theorem dX4_readPlain_68 : decode cX4_readPlain 68 = .ok (.ifCond .eq 12, 3) := dgX4_readPlain_0 (68, (.ifCond .eq 12, 3)) (List.mem_of_getElem? (i := 35) rfl)
theorem dX4_readPlain_71 : decode cX4_readPlain 71 = .ok (.aload_n 0, 1) := dgX4_readPlain_0 (71, (.aload_n 0, 1)) (List.mem_of_getElem? (i := 36) rfl)
theorem dX4_readPlain_72 : decode cX4_readPlain 72 = .ok (.bipush 41, 2) := dgX4_readPlain_0 (72, (.bipush 41, 2)) (List.mem_of_getElem? (i := 37) rfl)
theorem dX4_readPlain_74 : decode cX4_readPlain 74 = .ok (.invokevirtual 63, 3) := dgX4_readPlain_0 (74, (.invokevirtual 63, 3)) (List.mem_of_getElem? (i := 38) rfl)
theorem dX4_readPlain_77 : decode cX4_readPlain 77 = .ok (.ifCond .ne 93, 3) := dgX4_readPlain_0 (77, (.ifCond .ne 93, 3)) (List.mem_of_getElem? (i := 39) rfl)
theorem dgX4_readPlain_1 : ∀ r ∈ ([(80, (.iconst 0, 1)), (81, (.ireturn, 1)), (82, (.aload_n 0, 1)), (83, (.iload_n 1, 1)), (84, (.invokevirtual 73, 3)), (87, (.ifCond .ne 5, 3)), (90, (.iconst 0, 1)), (91, (.ireturn, 1)), (92, (.aload_n 0, 1)), (93, (.bipush 60, 2)), (95, (.invokevirtual 49, 3)), (98, (.ifCond .eq 8, 3)), (101, (.bipush 6, 2)), (103, (.goto 32, 3)), (106, (.aload_n 0, 1)), (107, (.bipush 62, 2)), (109, (.invokevirtual 49, 3)), (112, (.ifCond .eq 8, 3)), (115, (.bipush 7, 2)), (117, (.goto 18, 3)), (120, (.aload_n 0, 1)), (121, (.bipush 61, 2)), (123, (.invokevirtual 49, 3)), (126, (.ifCond .eq 8, 3)), (129, (.bipush 8, 2)), (131, (.goto 4, 3)), (134, (.iconst (-1), 1)), (135, (.istore_n 3, 1)), (136, (.iload_n 3, 1)), (137, (.iconst (-1), 1)), (138, (.if_icmp .ne 5, 3)), (141, (.iconst 0, 1)), (142, (.ireturn, 1)), (143, (.aload_n 0, 1)), (144, (.dup, 1)), (145, (.getfield 42, 3)), (148, (.iconst 1, 1)), (149, (.iadd, 1)), (150, (.putfield 42, 3)), (153, (.aload_n 0, 1))] : List (Nat × (Instr × Nat))), decode cX4_readPlain r.1 = .ok r.2 := by decide +kernel
theorem dX4_readPlain_80 : decode cX4_readPlain 80 = .ok (.iconst 0, 1) := dgX4_readPlain_1 (80, (.iconst 0, 1)) (List.mem_of_getElem? (i := 0) rfl)
theorem dX4_readPlain_81 : decode cX4_readPlain 81 = .ok (.ireturn, 1) := dgX4_readPlain_1 (81, (.ireturn, 1)) (List.mem_of_getElem? (i := 1) rfl)
theorem dX4_readPlain_82 : decode cX4_readPlain 82 = .ok (.aload_n 0, 1) := dgX4_readPlain_1 (82, (.aload_n 0, 1)) (List.mem_of_getElem? (i := 2) rfl)
theorem dX4_readPlain_83 : decode cX4_readPlain 83 = .ok (.iload_n 1, 1) := dgX4_readPlain_1 (83, (.iload_n 1, 1)) (List.mem_of_getElem? (i := 3) rfl)
theorem dX4_readPlain_84 : decode cX4_readPlain 84 = .ok (.invokevirtual 73, 3) := dgX4_readPlain_1 (84, (.invokevirtual 73, 3)) (List.mem_of_getElem? (i := 4) rfl)
theorem dX4_readPlain_87 : decode cX4_readPlain 87 = .ok (.ifCond .ne 5, 3) := dgX4_readPlain_1 (87, (.ifCond .ne 5, 3)) (List.mem_of_getElem? (i := 5) rfl)
theorem dX4_readPlain_90 : decode cX4_readPlain 90 = .ok (.iconst 0, 1) := dgX4_readPlain_1 (90, (.iconst 0, 1)) (List.mem_of_getElem? (i := 6) rfl)
theorem dX4_readPlain_91 : decode cX4_readPlain 91 = .ok (.ireturn, 1) := dgX4_readPlain_1 (91, (.ireturn, 1)) (List.mem_of_getElem? (i := 7) rfl)
theorem dX4_readPlain_92 : decode cX4_readPlain 92 = .ok (.aload_n 0, 1) := dgX4_readPlain_1 (92, (.aload_n 0, 1)) (List.mem_of_getElem? (i := 8) rfl)
theorem dX4_readPlain_93 : decode cX4_readPlain 93 = .ok (.bipush 60, 2) := dgX4_readPlain_1 (93, (.bipush 60, 2)) (List.mem_of_getElem? (i := 9) rfl)
theorem dX4_readPlain_95 : decode cX4_readPlain 95 = .ok (.invokevirtual 49, 3) := dgX4_readPlain_1 (95, (.invokevirtual 49, 3)) (List.mem_of_getElem? (i := 10) rfl)
theorem dX4_readPlain_98 : decode cX4_readPlain 98 = .ok (.ifCond .eq 8, 3) := dgX4_readPlain_1 (98, (.ifCond .eq 8, 3)) (List.mem_of_getElem? (i := 11) rfl)
theorem dX4_readPlain_101 : decode cX4_readPlain 101 = .ok (.bipush 6, 2) := dgX4_readPlain_1 (101, (.bipush 6, 2)) (List.mem_of_getElem? (i := 12) rfl)
theorem dX4_readPlain_103 : decode cX4_readPlain 103 = .ok (.goto 32, 3) := dgX4_readPlain_1 (103, (.goto 32, 3)) (List.mem_of_getElem? (i := 13) rfl)
theorem dX4_readPlain_106 : decode cX4_readPlain 106 = .ok (.aload_n 0, 1) := dgX4_readPlain_1 (106, (.aload_n 0, 1)) (List.mem_of_getElem? (i := 14) rfl)
theorem dX4_readPlain_107 : decode cX4_readPlain 107 = .ok (.bipush 62, 2) := dgX4_readPlain_1 (107, (.bipush 62, 2)) (List.mem_of_getElem? (i := 15) rfl)
theorem dX4_readPlain_109 : decode cX4_readPlain 109 = .ok (.invokevirtual 49, 3) := dgX4_readPlain_1 (109, (.invokevirtual 49, 3)) (List.mem_of_getElem? (i := 16) rfl)
theorem dX4_readPlain_112 : decode cX4_readPlain 112 = .ok (.ifCond .eq 8, 3) := dgX4_readPlain_1 (112, (.ifCond .eq 8, 3)) (List.mem_of_getElem? (i := 17) rfl)
theorem dX4_readPlain_115 : decode cX4_readPlain 115 = .ok (.bipush 7, 2) := dgX4_readPlain_1 (115, (.bipush 7, 2)) (List.mem_of_getElem? (i := 18) rfl)
theorem dX4_readPlain_117 : decode cX4_readPlain 117 = .ok (.goto 18, 3) := dgX4_readPlain_1 (117, (.goto 18, 3)) (List.mem_of_getElem? (i := 19) rfl)
theorem dX4_readPlain_120 : decode cX4_readPlain 120 = .ok (.aload_n 0, 1) := dgX4_readPlain_1 (120, (.aload_n 0, 1)) (List.mem_of_getElem? (i := 20) rfl)
theorem dX4_readPlain_121 : decode cX4_readPlain 121 = .ok (.bipush 61, 2) := dgX4_readPlain_1 (121, (.bipush 61, 2)) (List.mem_of_getElem? (i := 21) rfl)
theorem dX4_readPlain_123 : decode cX4_readPlain 123 = .ok (.invokevirtual 49, 3) := dgX4_readPlain_1 (123, (.invokevirtual 49, 3)) (List.mem_of_getElem? (i := 22) rfl)
theorem dX4_readPlain_126 : decode cX4_readPlain 126 = .ok (.ifCond .eq 8, 3) := dgX4_readPlain_1 (126, (.ifCond .eq 8, 3)) (List.mem_of_getElem? (i := 23) rfl)
theorem dX4_readPlain_129 : decode cX4_readPlain 129 = .ok (.bipush 8, 2) := dgX4_readPlain_1 (129, (.bipush 8, 2)) (List.mem_of_getElem? (i := 24) rfl)
theorem dX4_readPlain_131 : decode cX4_readPlain 131 = .ok (.goto 4, 3) := dgX4_readPlain_1 (131, (.goto 4, 3)) (List.mem_of_getElem? (i := 25) rfl)
theorem dX4_readPlain_134 : decode cX4_readPlain 134 = .ok (.iconst (-1), 1) := dgX4_readPlain_1 (134, (.iconst (-1), 1)) (List.mem_of_getElem? (i := 26) rfl)
theorem dX4_readPlain_135 : decode cX4_readPlain 135 = .ok (.istore_n 3, 1) := dgX4_readPlain_1 (135, (.istore_n 3, 1)) (List.mem_of_getElem? (i := 27) rfl)
theorem dX4_readPlain_136 : decode cX4_readPlain 136 = .ok (.iload_n 3, 1) := dgX4_readPlain_1 (136, (.iload_n 3, 1)) (List.mem_of_getElem? (i := 28) rfl)
theorem dX4_readPlain_137 : decode cX4_readPlain 137 = .ok (.iconst (-1), 1) := dgX4_readPlain_1 (137, (.iconst (-1), 1)) (List.mem_of_getElem? (i := 29) rfl)
theorem dX4_readPlain_138 : decode cX4_readPlain 138 = .ok (.if_icmp .ne 5, 3) := dgX4_readPlain_1 (138, (.if_icmp .ne 5, 3)) (List.mem_of_getElem? (i := 30) rfl)
theorem dX4_readPlain_141 : decode cX4_readPlain 141 = .ok (.iconst 0, 1) := dgX4_readPlain_1 (141, (.iconst 0, 1)) (List.mem_of_getElem? (i := 31) rfl)
theorem dX4_readPlain_142 : decode cX4_readPlain 142 = .ok (.ireturn, 1) := dgX4_readPlain_1 (142, (.ireturn, 1)) (List.mem_of_getElem? (i := 32) rfl)
theorem dX4_readPlain_143 : decode cX4_readPlain 143 = .ok (.aload_n 0, 1) := dgX4_readPlain_1 (143, (.aload_n 0, 1)) (List.mem_of_getElem? (i := 33) rfl)
theorem dX4_readPlain_144 : decode cX4_readPlain 144 = .ok (.dup, 1) := dgX4_readPlain_1 (144, (.dup, 1)) (List.mem_of_getElem? (i := 34) rfl)
theorem dX4_readPlain_145 : decode cX4_readPlain 145 = .ok (.getfield 42, 3) := dgX4_readPlain_1 (145, (.getfield 42, 3)) (List.mem_of_getElem? (i := 35) rfl)
theorem dX4_readPlain_148 : decode cX4_readPlain 148 = .ok (.iconst 1, 1) := dgX4_readPlain_1 (148, (.iconst 1, 1)) (List.mem_of_getElem? (i := 36) rfl)
theorem dX4_readPlain_149 : decode cX4_readPlain 149 = .ok (.iadd, 1) := dgX4_readPlain_1 (149, (.iadd, 1)) (List.mem_of_getElem? (i := 37) rfl)
theorem dX4_readPlain_150 : decode cX4_readPlain 150 = .ok (.putfield 42, 3) := dgX4_readPlain_1 (150, (.putfield 42, 3)) (List.mem_of_getElem? (i := 38) rfl)
theorem dX4_readPlain_153 : decode cX4_readPlain 153 = .ok (.aload_n 0, 1) := dgX4_readPlain_1 (153, (.aload_n 0, 1)) (List.mem_of_getElem? (i := 39) rfl)
theorem dgX4_readPlain_2 : ∀ r ∈ ([(154, (.iload_n 1, 1)), (155, (.invokevirtual 73, 3)), (158, (.ifCond .ne 5, 3)), (161, (.iconst 0, 1)), (162, (.ireturn, 1)), (163, (.aload_n 0, 1)), (164, (.iload_n 3, 1)), (165, (.iconst 0, 1)), (166, (.invokevirtual 79, 3)), (169, (.pop, 1)), (170, (.iload_n 2, 1)), (171, (.ifCond .eq 11, 3)), (174, (.aload_n 0, 1)), (175, (.bipush 9, 2)), (177, (.iconst 0, 1)), (178, (.invokevirtual 79, 3)), (181, (.pop, 1)), (182, (.iconst 1, 1)), (183, (.ireturn, 1))] : List (Nat × (Instr × Nat))), decode cX4_readPlain r.1 = .ok r.2 := by decide +kernel
theorem dX4_readPlain_154 : decode cX4_readPlain 154 = .ok (.iload_n 1, 1) := dgX4_readPlain_2 (154, (.iload_n 1, 1)) (List.mem_of_getElem? (i := 0) rfl)
theorem dX4_readPlain_155 : decode cX4_readPlain 155 = .ok (.invokevirtual 73, 3) := dgX4_readPlain_2 (155, (.invokevirtual 73, 3)) (List.mem_of_getElem? (i := 1) rfl)
theorem dX4_readPlain_158 : decode cX4_readPlain 158 = .ok (.ifCond .ne 5, 3) := dgX4_readPlain_2 (158, (.ifCond .ne 5, 3)) (List.mem_of_getElem? (i := 2) rfl)
theorem dX4_readPlain_161 : decode cX4_readPlain 161 = .ok (.iconst 0, 1) := dgX4_readPlain_2 (161, (.iconst 0, 1)) (List.mem_of_getElem? (i := 3) rfl)
theorem dX4_readPlain_162 : decode cX4_readPlain 162 = .ok (.ireturn, 1) := dgX4_readPlain_2 (162, (.ireturn, 1)) (List.mem_of_getElem? (i := 4) rfl)
theorem dX4_readPlain_163 : decode cX4_readPlain 163 = .ok (.aload_n 0, 1) := dgX4_readPlain_2 (163, (.aload_n 0, 1)) (List.mem_of_getElem? (i := 5) rfl)
theorem dX4_readPlain_164 : decode cX4_readPlain 164 = .ok (.iload_n 3, 1) := dgX4_readPlain_2 (164, (.iload_n 3, 1)) (List.mem_of_getElem? (i := 6) rfl)
theorem dX4_readPlain_165 : decode cX4_readPlain 165 = .ok (.iconst 0, 1) := dgX4_readPlain_2 (165, (.iconst 0, 1)) (List.mem_of_getElem? (i := 7) rfl)
theorem dX4_readPlain_166 : decode cX4_readPlain 166 = .ok (.invokevirtual 79, 3) := dgX4_readPlain_2 (166, (.invokevirtual 79, 3)) (List.mem_of_getElem? (i := 8) rfl)
theorem dX4_readPlain_169 : decode cX4_readPlain 169 = .ok (.pop, 1) := dgX4_readPlain_2 (169, (.pop, 1)) (List.mem_of_getElem? (i := 9) rfl)
theorem dX4_readPlain_170 : decode cX4_readPlain 170 = .ok (.iload_n 2, 1) := dgX4_readPlain_2 (170, (.iload_n 2, 1)) (List.mem_of_getElem? (i := 10) rfl)
theorem dX4_readPlain_171 : decode cX4_readPlain 171 = .ok (.ifCond .eq 11, 3) := dgX4_readPlain_2 (171, (.ifCond .eq 11, 3)) (List.mem_of_getElem? (i := 11) rfl)
theorem dX4_readPlain_174 : decode cX4_readPlain 174 = .ok (.aload_n 0, 1) := dgX4_readPlain_2 (174, (.aload_n 0, 1)) (List.mem_of_getElem? (i := 12) rfl)
theorem dX4_readPlain_175 : decode cX4_readPlain 175 = .ok (.bipush 9, 2) := dgX4_readPlain_2 (175, (.bipush 9, 2)) (List.mem_of_getElem? (i := 13) rfl)
theorem dX4_readPlain_177 : decode cX4_readPlain 177 = .ok (.iconst 0, 1) := dgX4_readPlain_2 (177, (.iconst 0, 1)) (List.mem_of_getElem? (i := 14) rfl)
theorem dX4_readPlain_178 : decode cX4_readPlain 178 = .ok (.invokevirtual 79, 3) := dgX4_readPlain_2 (178, (.invokevirtual 79, 3)) (List.mem_of_getElem? (i := 15) rfl)
theorem dX4_readPlain_181 : decode cX4_readPlain 181 = .ok (.pop, 1) := dgX4_readPlain_2 (181, (.pop, 1)) (List.mem_of_getElem? (i := 16) rfl)
theorem dX4_readPlain_182 : decode cX4_readPlain 182 = .ok (.iconst 1, 1) := dgX4_readPlain_2 (182, (.iconst 1, 1)) (List.mem_of_getElem? (i := 17) rfl)
theorem dX4_readPlain_183 : decode cX4_readPlain 183 = .ok (.ireturn, 1) := dgX4_readPlain_2 (183, (.ireturn, 1)) (List.mem_of_getElem? (i := 18) rfl)
theorem ml_X4_76 : Cond.methodLink RX4 76 yX4_readTest ∈ tblG := tg 744 (by decide +kernel) (by decide +kernel)
theorem im_X4_readTest : Cond.instanceMethod yX4_readTest ∈ tblG := tg 746 (by decide +kernel) (by decide +kernel)
theorem se_X4_readTest : Cond.selects RX4 yX4_readTest yX4_readTest ∈ tblG := tg 10 (by decide +kernel) (by decide +kernel)
theorem cd_X4_readTest : Cond.code yX4_readTest cX4_readTest 6 (some .boolean) ∈ tblG := tg 747 (by decide +kernel) (by decide +kernel)
theorem gW_X4_readTest : GoodIn tblG (wsG yX4_readTest cX4_readTest 6 (some .boolean)) := tgi cd_X4_readTest
theorem gV_X4_76 : GoodIn tblG (wsV RX4 76 RX4 yX4_readTest (wsG yX4_readTest cX4_readTest 6 (some .boolean))) := tgV ml_X4_76 im_X4_readTest se_X4_readTest ini_X4 gW_X4_readTest
theorem hv_X4_readTest : yX4_readTest.cls = RX4 ∧ yX4_readTest.cls ≠ "java/lang/invoke/MethodHandle" ∧ yX4_readTest.cls ≠ "java/lang/invoke/VarHandle" ∧ (parseMethodDescriptor yX4_readTest.desc).map (fun d => d.parameters.length) = some 1 := by decide +kernel
theorem dgX4_readTest_0 : ∀ r ∈ ([(0, (.aload_n 0, 1)), (1, (.iload_n 1, 1)), (2, (.invokevirtual 83, 3)), (5, (.ifCond .ne 5, 3)), (8, (.iconst 0, 1)), (9, (.ireturn, 1)), (10, (.iconst (-1), 1)), (11, (.istore_n 2, 1)), (12, (.iconst 0, 1)), (13, (.istore_n 3, 1)), (14, (.iload_n 3, 1)), (15, (.sipush 400, 3)), (18, (.if_icmp .ge 104, 3)), (21, (.aload_n 0, 1)), (22, (.sipush 261, 3)), (25, (.invokevirtual 49, 3)), (28, (.ifCond .ne 13, 3)), (31, (.aload_n 0, 1)), (32, (.sipush 262, 3)), (35, (.invokevirtual 49, 3)), (38, (.ifCond .eq 84, 3)), (41, (.aload_n 0, 1)), (42, (.sipush 261, 3)), (45, (.invokevirtual 49, 3)), (48, (.istore 4, 2)), (50, (.aload_n 0, 1)), (51, (.dup, 1)), (52, (.getfield 42, 3)), (55, (.iconst 1, 1)), (56, (.iadd, 1)), (57, (.putfield 42, 3)), (60, (.iload 4, 2)), (62, (.ifCond .eq 8, 3)), (65, (.aload_n 0, 1)), (66, (.iload_n 2, 1)), (67, (.invokevirtual 86, 3)), (70, (.aload_n 0, 1)), (71, (.iload 4, 2)), (73, (.ifCond .eq 8, 3)), (76, (.bipush 11, 2))] : List (Nat × (Instr × Nat))), decode cX4_readTest r.1 = .ok r.2 := by decide +kernel
theorem dX4_readTest_0 : decode cX4_readTest 0 = .ok (.aload_n 0, 1) := dgX4_readTest_0 (0, (.aload_n 0, 1)) (List.mem_of_getElem? (i := 0) rfl)
theorem dX4_readTest_1 : decode cX4_readTest 1 = .ok (.iload_n 1, 1) := dgX4_readTest_0 (1, (.iload_n 1, 1)) (List.mem_of_getElem? (i := 1) rfl)
theorem dX4_readTest_2 : decode cX4_readTest 2 = .ok (.invokevirtual 83, 3) := dgX4_readTest_0 (2, (.invokevirtual 83, 3)) (List.mem_of_getElem? (i := 2) rfl)
theorem dX4_readTest_5 : decode cX4_readTest 5 = .ok (.ifCond .ne 5, 3) := dgX4_readTest_0 (5, (.ifCond .ne 5, 3)) (List.mem_of_getElem? (i := 3) rfl)
theorem dX4_readTest_8 : decode cX4_readTest 8 = .ok (.iconst 0, 1) := dgX4_readTest_0 (8, (.iconst 0, 1)) (List.mem_of_getElem? (i := 4) rfl)
theorem dX4_readTest_9 : decode cX4_readTest 9 = .ok (.ireturn, 1) := dgX4_readTest_0 (9, (.ireturn, 1)) (List.mem_of_getElem? (i := 5) rfl)
theorem dX4_readTest_10 : decode cX4_readTest 10 = .ok (.iconst (-1), 1) := dgX4_readTest_0 (10, (.iconst (-1), 1)) (List.mem_of_getElem? (i := 6) rfl)
theorem dX4_readTest_11 : decode cX4_readTest 11 = .ok (.istore_n 2, 1) := dgX4_readTest_0 (11, (.istore_n 2, 1)) (List.mem_of_getElem? (i := 7) rfl)
theorem dX4_readTest_12 : decode cX4_readTest 12 = .ok (.iconst 0, 1) := dgX4_readTest_0 (12, (.iconst 0, 1)) (List.mem_of_getElem? (i := 8) rfl)
theorem dX4_readTest_13 : decode cX4_readTest 13 = .ok (.istore_n 3, 1) := dgX4_readTest_0 (13, (.istore_n 3, 1)) (List.mem_of_getElem? (i := 9) rfl)
theorem dX4_readTest_14 : decode cX4_readTest 14 = .ok (.iload_n 3, 1) := dgX4_readTest_0 (14, (.iload_n 3, 1)) (List.mem_of_getElem? (i := 10) rfl)
theorem dX4_readTest_15 : decode cX4_readTest 15 = .ok (.sipush 400, 3) := dgX4_readTest_0 (15, (.sipush 400, 3)) (List.mem_of_getElem? (i := 11) rfl)
theorem dX4_readTest_18 : decode cX4_readTest 18 = .ok (.if_icmp .ge 104, 3) := dgX4_readTest_0 (18, (.if_icmp .ge 104, 3)) (List.mem_of_getElem? (i := 12) rfl)
theorem dX4_readTest_21 : decode cX4_readTest 21 = .ok (.aload_n 0, 1) := dgX4_readTest_0 (21, (.aload_n 0, 1)) (List.mem_of_getElem? (i := 13) rfl)
theorem dX4_readTest_22 : decode cX4_readTest 22 = .ok (.sipush 261, 3) := dgX4_readTest_0 (22, (.sipush 261, 3)) (List.mem_of_getElem? (i := 14) rfl)
theorem dX4_readTest_25 : decode cX4_readTest 25 = .ok (.invokevirtual 49, 3) := dgX4_readTest_0 (25, (.invokevirtual 49, 3)) (List.mem_of_getElem? (i := 15) rfl)
theorem dX4_readTest_28 : decode cX4_readTest 28 = .ok (.ifCond .ne 13, 3) := dgX4_readTest_0 (28, (.ifCond .ne 13, 3)) (List.mem_of_getElem? (i := 16) rfl)
theorem dX4_readTest_31 : decode cX4_readTest 31 = .ok (.aload_n 0, 1) := dgX4_readTest_0 (31, (.aload_n 0, 1)) (List.mem_of_getElem? (i := 17) rfl)
theorem dX4_readTest_32 : decode cX4_readTest 32 = .ok (.sipush 262, 3) := dgX4_readTest_0 (32, (.sipush 262, 3)) (List.mem_of_getElem? (i := 18) rfl)
theorem dX4_readTest_35 : decode cX4_readTest 35 = .ok (.invokevirtual 49, 3) := dgX4_readTest_0 (35, (.invokevirtual 49, 3)) (List.mem_of_getElem? (i := 19) rfl)
theorem dX4_readTest_38 : decode cX4_readTest 38 = .ok (.ifCond .eq 84, 3) := dgX4_readTest_0 (38, (.ifCond .eq 84, 3)) (List.mem_of_getElem? (i := 20) rfl)
theorem dX4_readTest_41 : decode cX4_readTest 41 = .ok (.aload_n 0, 1) := dgX4_readTest_0 (41, (.aload_n 0, 1)) (List.mem_of_getElem? (i := 21) rfl)
theorem dX4_readTest_42 : decode cX4_readTest 42 = .ok (.sipush 261, 3) := dgX4_readTest_0 (42, (.sipush 261, 3)) (List.mem_of_getElem? (i := 22) rfl)
theorem dX4_readTest_45 : decode cX4_readTest 45 = .ok (.invokevirtual 49, 3) := dgX4_readTest_0 (45, (.invokevirtual 49, 3)) (List.mem_of_getElem? (i := 23) rfl)
theorem dX4_readTest_48 : decode cX4_readTest 48 = .ok (.istore 4, 2) := dgX4_readTest_0 (48, (.istore 4, 2)) (List.mem_of_getElem? (i := 24) rfl)
theorem dX4_readTest_50 : decode cX4_readTest 50 = .ok (.aload_n 0, 1) := dgX4_readTest_0 (50, (.aload_n 0, 1)) (List.mem_of_getElem? (i := 25) rfl)
theorem dX4_readTest_51 : decode cX4_readTest 51 = .ok (.dup, 1) := dgX4_readTest_0 (51, (.dup, 1)) (List.mem_of_getElem? (i := 26) rfl)
theorem dX4_readTest_52 : decode cX4_readTest 52 = .ok (.getfield 42, 3) := dgX4_readTest_0 (52, (.getfield 42, 3)) (List.mem_of_getElem? (i := 27) rfl)
theorem dX4_readTest_55 : decode cX4_readTest 55 = .ok (.iconst 1, 1) := dgX4_readTest_0 (55, (.iconst 1, 1)) (List.mem_of_getElem? (i := 28) rfl)
theorem dX4_readTest_56 : decode cX4_readTest 56 = .ok (.iadd, 1) := dgX4_readTest_0 (56, (.iadd, 1)) (List.mem_of_getElem? (i := 29) rfl)
theorem dX4_readTest_57 : decode cX4_readTest 57 = .ok (.putfield 42, 3) := dgX4_readTest_0 (57, (.putfield 42, 3)) (List.mem_of_getElem? (i := 30) rfl)
theorem dX4_readTest_60 : decode cX4_readTest 60 = .ok (.iload 4, 2) := dgX4_readTest_0 (60, (.iload 4, 2)) (List.mem_of_getElem? (i := 31) rfl)
theorem dX4_readTest_62 : decode cX4_readTest 62 = .ok (.ifCond .eq 8, 3) := dgX4_readTest_0 (62, (.ifCond .eq 8, 3)) (List.mem_of_getElem? (i := 32) rfl)
theorem dX4_readTest_65 : decode cX4_readTest 65 = .ok (.aload_n 0, 1) := dgX4_readTest_0 (65, (.aload_n 0, 1)) (List.mem_of_getElem? (i := 33) rfl)
theorem dX4_readTest_66 : decode cX4_readTest 66 = .ok (.iload_n 2, 1) := dgX4_readTest_0 (66, (.iload_n 2, 1)) (List.mem_of_getElem? (i := 34) rfl)
theorem dX4_readTest_67 : decode cX4_readTest 67 = .ok (.invokevirtual 86, 3) := dgX4_readTest_0 (67, (.invokevirtual 86, 3)) (List.mem_of_getElem? (i := 35) rfl)
theorem dX4_readTest_70 : decode cX4_readTest 70 = .ok (.aload_n 0, 1) := dgX4_readTest_0 (70, (.aload_n 0, 1)) (List.mem_of_getElem? (i := 36) rfl)
theorem dX4_readTest_71 : decode cX4_readTest 71 = .ok (.iload 4, 2) := dgX4_readTest_0 (71, (.iload 4, 2)) (List.mem_of_getElem? (i := 37) rfl)
theorem dX4_readTest_73 : decode cX4_readTest 73 = .ok (.ifCond .eq 8, 3) := dgX4_readTest_0 (73, (.ifCond .eq 8, 3)) (List.mem_of_getElem? (i := 38) rfl)
theorem dX4_readTest_76 : decode cX4_readTest 76 = .ok (.bipush 11, 2) := dgX4_readTest_0 (76, (.bipush 11, 2)) (List.mem_of_getElem? (i := 39) rfl)
theorem dgX4_readTest_1 : ∀ r ∈ ([(78, (.goto 5, 3)), (81, (.bipush 12, 2)), (83, (.iconst 0, 1)), (84, (.invokevirtual 79, 3)), (87, (.istore 5, 2)), (89, (.aload_n 0, 1)), (90, (.iload_n 1, 1)), (91, (.invokevirtual 83, 3)), (94, (.ifCond .ne 5, 3)), (97, (.iconst 0, 1)), (98, (.ireturn, 1)), (99, (.iload 4, 2)), (101, (.ifCond .eq 9, 3)), (104, (.iload 5, 2)), (106, (.istore_n 2, 1)), (107, (.goto 9, 3)), (110, (.aload_n 0, 1)), (111, (.iload 5, 2)), (113, (.invokevirtual 86, 3)), (116, (.iinc 3 1, 3)), (119, (.goto (-105), 3)), (122, (.aload_n 0, 1)), (123, (.iload_n 2, 1)), (124, (.invokevirtual 86, 3)), (127, (.iconst 1, 1)), (128, (.ireturn, 1))] : List (Nat × (Instr × Nat))), decode cX4_readTest r.1 = .ok r.2 := by decide +kernel
theorem dX4_readTest_78 : decode cX4_readTest 78 = .ok (.goto 5, 3) := dgX4_readTest_1 (78, (.goto 5, 3)) (List.mem_of_getElem? (i := 0) rfl)
theorem dX4_readTest_81 : decode cX4_readTest 81 = .ok (.bipush 12, 2) := dgX4_readTest_1 (81, (.bipush 12, 2)) (List.mem_of_getElem? (i := 1) rfl)
theorem dX4_readTest_83 : decode cX4_readTest 83 = .ok (.iconst 0, 1) := dgX4_readTest_1 (83, (.iconst 0, 1)) (List.mem_of_getElem? (i := 2) rfl)
theorem dX4_readTest_84 : decode cX4_readTest 84 = .ok (.invokevirtual 79, 3) := dgX4_readTest_1 (84, (.invokevirtual 79, 3)) (List.mem_of_getElem? (i := 3) rfl)
theorem dX4_readTest_87 : decode cX4_readTest 87 = .ok (.istore 5, 2) := dgX4_readTest_1 (87, (.istore 5, 2)) (List.mem_of_getElem? (i := 4) rfl)
theorem dX4_readTest_89 : decode cX4_readTest 89 = .ok (.aload_n 0, 1) := dgX4_readTest_1 (89, (.aload_n 0, 1)) (List.mem_of_getElem? (i := 5) rfl)
theorem dX4_readTest_90 : decode cX4_readTest 90 = .ok (.iload_n 1, 1) := dgX4_readTest_1 (90, (.iload_n 1, 1)) (List.mem_of_getElem? (i := 6) rfl)
theorem dX4_readTest_91 : decode cX4_readTest 91 = .ok (.invokevirtual 83, 3) := dgX4_readTest_1 (91, (.invokevirtual 83, 3)) (List.mem_of_getElem? (i := 7) rfl)
theorem dX4_readTest_94 : decode cX4_readTest 94 = .ok (.ifCond .ne 5, 3) := dgX4_readTest_1 (94, (.ifCond .ne 5, 3)) (List.mem_of_getElem? (i := 8) rfl)
theorem dX4_readTest_97 : decode cX4_readTest 97 = .ok (.iconst 0, 1) := dgX4_readTest_1 (97, (.iconst 0, 1)) (List.mem_of_getElem? (i := 9) rfl)
theorem dX4_readTest_98 : decode cX4_readTest 98 = .ok (.ireturn, 1) := dgX4_readTest_1 (98, (.ireturn, 1)) (List.mem_of_getElem? (i := 10) rfl)
theorem dX4_readTest_99 : decode cX4_readTest 99 = .ok (.iload 4, 2) := dgX4_readTest_1 (99, (.iload 4, 2)) (List.mem_of_getElem? (i := 11) rfl)
theorem dX4_readTest_101 : decode cX4_readTest 101 = .ok (.ifCond .eq 9, 3) := dgX4_readTest_1 (101, (.ifCond .eq 9, 3)) (List.mem_of_getElem? (i := 12) rfl)
theorem dX4_readTest_104 : decode cX4_readTest 104 = .ok (.iload 5, 2) := dgX4_readTest_1 (104, (.iload 5, 2)) (List.mem_of_getElem? (i := 13) rfl)
theorem dX4_readTest_106 : decode cX4_readTest 106 = .ok (.istore_n 2, 1) := dgX4_readTest_1 (106, (.istore_n 2, 1)) (List.mem_of_getElem? (i := 14) rfl)
theorem dX4_readTest_107 : decode cX4_readTest 107 = .ok (.goto 9, 3) := dgX4_readTest_1 (107, (.goto 9, 3)) (List.mem_of_getElem? (i := 15) rfl)
theorem dX4_readTest_110 : decode cX4_readTest 110 = .ok (.aload_n 0, 1) := dgX4_readTest_1 (110, (.aload_n 0, 1)) (List.mem_of_getElem? (i := 16) rfl)
theorem dX4_readTest_111 : decode cX4_readTest 111 = .ok (.iload 5, 2) := dgX4_readTest_1 (111, (.iload 5, 2)) (List.mem_of_getElem? (i := 17) rfl)
theorem dX4_readTest_113 : decode cX4_readTest 113 = .ok (.invokevirtual 86, 3) := dgX4_readTest_1 (113, (.invokevirtual 86, 3)) (List.mem_of_getElem? (i := 18) rfl)
theorem dX4_readTest_116 : decode cX4_readTest 116 = .ok (.iinc 3 1, 3) := dgX4_readTest_1 (116, (.iinc 3 1, 3)) (List.mem_of_getElem? (i := 19) rfl)
theorem dX4_readTest_119 : decode cX4_readTest 119 = .ok (.goto (-105), 3) := dgX4_readTest_1 (119, (.goto (-105), 3)) (List.mem_of_getElem? (i := 20) rfl)
theorem dX4_readTest_122 : decode cX4_readTest 122 = .ok (.aload_n 0, 1) := dgX4_readTest_1 (122, (.aload_n 0, 1)) (List.mem_of_getElem? (i := 21) rfl)
theorem dX4_readTest_123 : decode cX4_readTest 123 = .ok (.iload_n 2, 1) := dgX4_readTest_1 (123, (.iload_n 2, 1)) (List.mem_of_getElem? (i := 22) rfl)
theorem dX4_readTest_124 : decode cX4_readTest 124 = .ok (.invokevirtual 86, 3) := dgX4_readTest_1 (124, (.invokevirtual 86, 3)) (List.mem_of_getElem? (i := 23) rfl)
theorem dX4_readTest_127 : decode cX4_readTest 127 = .ok (.iconst 1, 1) := dgX4_readTest_1 (127, (.iconst 1, 1)) (List.mem_of_getElem? (i := 24) rfl)
theorem dX4_readTest_128 : decode cX4_readTest 128 = .ok (.ireturn, 1) := dgX4_readTest_1 (128, (.ireturn, 1)) (List.mem_of_getElem? (i := 25) rfl)
theorem ml_X4_83 : Cond.methodLink RX4 83 yX4_readPlain ∈ tblG := tg 748 (by decide +kernel) (by decide +kernel)
theorem im_X4_readPlain : Cond.instanceMethod yX4_readPlain ∈ tblG := tg 750 (by decide +kernel) (by decide +kernel)
theorem se_X4_readPlain : Cond.selects RX4 yX4_readPlain yX4_readPlain ∈ tblG := tg 11 (by decide +kernel) (by decide +kernel)
theorem cd_X4_readPlain : Cond.code yX4_readPlain cX4_readPlain 4 (some .boolean) ∈ tblG := tg 751 (by decide +kernel) (by decide +kernel)
theorem gW_X4_readPlain : GoodIn tblG (wsG yX4_readPlain cX4_readPlain 4 (some .boolean)) := tgi cd_X4_readPlain
theorem gV_X4_83 : GoodIn tblG (wsV RX4 83 RX4 yX4_readPlain (wsG yX4_readPlain cX4_readPlain 4 (some .boolean))) := tgV ml_X4_83 im_X4_readPlain se_X4_readPlain ini_X4 gW_X4_readPlain
theorem hv_X4_readPlain : yX4_readPlain.cls = RX4 ∧ yX4_readPlain.cls ≠ "java/lang/invoke/MethodHandle" ∧ yX4_readPlain.cls ≠ "java/lang/invoke/VarHandle" ∧ (parseMethodDescriptor yX4_readPlain.desc).map (fun d => d.parameters.length) = some 1 := by decide +kernel
theorem ml_X4_86 : Cond.methodLink RX4 86 yX4_jumpHere ∈ tblG := tg 752 (by decide +kernel) (by decide +kernel)
theorem im_X4_jumpHere : Cond.instanceMethod yX4_jumpHere ∈ tblG := tg 754 (by decide +kernel) (by decide +kernel)
theorem se_X4_jumpHere : Cond.selects RX4 yX4_jumpHere yX4_jumpHere ∈ tblG := tg 12 (by decide +kernel) (by decide +kernel)
theorem cd_X4_jumpHere : Cond.code yX4_jumpHere cX4_jumpHere 2 none ∈ tblG := tg 755 (by decide +kernel) (by decide +kernel)
theorem gW_X4_jumpHere : GoodIn tblG (wsG yX4_jumpHere cX4_jumpHere 2 none) := tgi cd_X4_jumpHere
theorem gV_X4_86 : GoodIn tblG (wsV RX4 86 RX4 yX4_jumpHere (wsG yX4_jumpHere cX4_jumpHere 2 none)) := tgV ml_X4_86 im_X4_jumpHere se_X4_jumpHere ini_X4 gW_X4_jumpHere
theorem hv_X4_jumpHere : yX4_jumpHere.cls = RX4 ∧ yX4_jumpHere.cls ≠ "java/lang/invoke/MethodHandle" ∧ yX4_jumpHere.cls ≠ "java/lang/invoke/VarHandle" ∧ (parseMethodDescriptor yX4_jumpHere.desc).map (fun d => d.parameters.length) = some 1 := by decide +kernel
theorem dgJ7_copyOf_59c91_0 : ∀ r ∈ ([(0, (.iload_n 1, 1)), (1, (.aload_n 0, 1)), (2, (.arraylength, 1)), (3, (.if_icmp .ne 11, 3)), (6, (.aload_n 0, 1)), (7, (.invokevirtual 316, 3)), (10, (.checkcast 317, 3)), (13, (.areturn, 1)), (14, (.iload_n 1, 1)), (15, (.newarray .int, 2)), (17, (.astore_n 2, 1)), (18, (.aload_n 0, 1)), (19, (.iconst 0, 1)), (20, (.aload_n 2, 1)), (21, (.iconst 0, 1)), (22, (.aload_n 0, 1)), (23, (.arraylength, 1)), (24, (.iload_n 1, 1)), (25, (.invokestatic 304, 3)), (28, (.invokestatic 150, 3)), (31, (.aload_n 2, 1)), (32, (.areturn, 1))] : List (Nat × (Instr × Nat))), decode cJ7_copyOf_59c91 r.1 = .ok r.2 := by decide +kernel
theorem dJ7_copyOf_59c91_0 : decode cJ7_copyOf_59c91 0 = .ok (.iload_n 1, 1) := dgJ7_copyOf_59c91_0 (0, (.iload_n 1, 1)) (List.mem_of_getElem? (i := 0) rfl)
theorem dJ7_copyOf_59c91_1 : decode cJ7_copyOf_59c91 1 = .ok (.aload_n 0, 1) := dgJ7_copyOf_59c91_0 (1, (.aload_n 0, 1)) (List.mem_of_getElem? (i := 1) rfl)
theorem dJ7_copyOf_59c91_2 : decode cJ7_copyOf_59c91 2 = .ok (.arraylength, 1) := dgJ7_copyOf_59c91_0 (2, (.arraylength, 1)) (List.mem_of_getElem? (i := 2) rfl)
theorem dJ7_copyOf_59c91_3 : decode cJ7_copyOf_59c91 3 = .ok (.if_icmp .ne 11, 3) := dgJ7_copyOf_59c91_0 (3, (.if_icmp .ne 11, 3)) (List.mem_of_getElem? (i := 3) rfl)
theorem dJ7_copyOf_59c91_6 : decode cJ7_copyOf_59c91 6 = .ok (.aload_n 0, 1) := dgJ7_copyOf_59c91_0 (6, (.aload_n 0, 1)) (List.mem_of_getElem? (i := 4) rfl)
theorem dJ7_copyOf_59c91_7 : decode cJ7_copyOf_59c91 7 = .ok (.invokevirtual 316, 3) := dgJ7_copyOf_59c91_0 (7, (.invokevirtual 316, 3)) (List.mem_of_getElem? (i := 5) rfl)
theorem dJ7_copyOf_59c91_10 : decode cJ7_copyOf_59c91 10 = .ok (.checkcast 317, 3) := dgJ7_copyOf_59c91_0 (10, (.checkcast 317, 3)) (List.mem_of_getElem? (i := 6) rfl)
theorem dJ7_copyOf_59c91_13 : decode cJ7_copyOf_59c91 13 = .ok (.areturn, 1) := dgJ7_copyOf_59c91_0 (13, (.areturn, 1)) (List.mem_of_getElem? (i := 7) rfl)
theorem dJ7_copyOf_59c91_14 : decode cJ7_copyOf_59c91 14 = .ok (.iload_n 1, 1) := dgJ7_copyOf_59c91_0 (14, (.iload_n 1, 1)) (List.mem_of_getElem? (i := 8) rfl)
theorem dJ7_copyOf_59c91_15 : decode cJ7_copyOf_59c91 15 = .ok (.newarray .int, 2) := dgJ7_copyOf_59c91_0 (15, (.newarray .int, 2)) (List.mem_of_getElem? (i := 9) rfl)
theorem dJ7_copyOf_59c91_17 : decode cJ7_copyOf_59c91 17 = .ok (.astore_n 2, 1) := dgJ7_copyOf_59c91_0 (17, (.astore_n 2, 1)) (List.mem_of_getElem? (i := 10) rfl)
theorem dJ7_copyOf_59c91_18 : decode cJ7_copyOf_59c91 18 = .ok (.aload_n 0, 1) := dgJ7_copyOf_59c91_0 (18, (.aload_n 0, 1)) (List.mem_of_getElem? (i := 11) rfl)
theorem dJ7_copyOf_59c91_19 : decode cJ7_copyOf_59c91 19 = .ok (.iconst 0, 1) := dgJ7_copyOf_59c91_0 (19, (.iconst 0, 1)) (List.mem_of_getElem? (i := 12) rfl)
theorem dJ7_copyOf_59c91_20 : decode cJ7_copyOf_59c91 20 = .ok (.aload_n 2, 1) := dgJ7_copyOf_59c91_0 (20, (.aload_n 2, 1)) (List.mem_of_getElem? (i := 13) rfl)
theorem dJ7_copyOf_59c91_21 : decode cJ7_copyOf_59c91 21 = .ok (.iconst 0, 1) := dgJ7_copyOf_59c91_0 (21, (.iconst 0, 1)) (List.mem_of_getElem? (i := 14) rfl)
theorem dJ7_copyOf_59c91_22 : decode cJ7_copyOf_59c91 22 = .ok (.aload_n 0, 1) := dgJ7_copyOf_59c91_0 (22, (.aload_n 0, 1)) (List.mem_of_getElem? (i := 15) rfl)
theorem dJ7_copyOf_59c91_23 : decode cJ7_copyOf_59c91 23 = .ok (.arraylength, 1) := dgJ7_copyOf_59c91_0 (23, (.arraylength, 1)) (List.mem_of_getElem? (i := 16) rfl)
theorem dJ7_copyOf_59c91_24 : decode cJ7_copyOf_59c91 24 = .ok (.iload_n 1, 1) := dgJ7_copyOf_59c91_0 (24, (.iload_n 1, 1)) (List.mem_of_getElem? (i := 17) rfl)
theorem dJ7_copyOf_59c91_25 : decode cJ7_copyOf_59c91 25 = .ok (.invokestatic 304, 3) := dgJ7_copyOf_59c91_0 (25, (.invokestatic 304, 3)) (List.mem_of_getElem? (i := 18) rfl)
theorem dJ7_copyOf_59c91_28 : decode cJ7_copyOf_59c91 28 = .ok (.invokestatic 150, 3) := dgJ7_copyOf_59c91_0 (28, (.invokestatic 150, 3)) (List.mem_of_getElem? (i := 19) rfl)
theorem dJ7_copyOf_59c91_31 : decode cJ7_copyOf_59c91 31 = .ok (.aload_n 2, 1) := dgJ7_copyOf_59c91_0 (31, (.aload_n 2, 1)) (List.mem_of_getElem? (i := 20) rfl)
theorem dJ7_copyOf_59c91_32 : decode cJ7_copyOf_59c91 32 = .ok (.areturn, 1) := dgJ7_copyOf_59c91_0 (32, (.areturn, 1)) (List.mem_of_getElem? (i := 21) rfl)
theorem acl_I : Cond.arrayClass .int ∈ tblG := tg 152 (by decide +kernel) (by decide +kernel)
theorem ml_J7_304 : Cond.methodLink RJ7 304 Lib.Math.min.name ∈ tblG := tg 768 (by decide +kernel) (by decide +kernel)
theorem st_Math_minI : Cond.static Lib.Math.min.name ∈ tblG := tg 769 (by decide +kernel) (by decide +kernel)
theorem cd_Math_minI : Cond.code Lib.Math.min.name Lib.Math.min.code 2 (some .int) ∈ tblG := tg 770 (by decide +kernel) (by decide +kernel)
theorem ml_J7_150 : Cond.methodLink RJ7 150 arraycopyName ∈ tblG := tg 771 (by decide +kernel) (by decide +kernel)
theorem ml_clone : Cond.methodLink RJ7 316 ⟨"[I", "clone", "()Ljava/lang/Object;"⟩ ∈ tblG := tg 761 (by decide +kernel) (by decide +kernel)
theorem sm_clone : Cond.sameMethod "[I" "java/lang/Object" "clone" "()Ljava/lang/Object;" ∈ tblG := tg 762 (by decide +kernel) (by decide +kernel)
theorem na_clone : Cond.native ⟨"java/lang/Object", "clone", "()Ljava/lang/Object;"⟩ ∈ tblG := tg 763 (by decide +kernel) (by decide +kernel)
theorem im_clone : Cond.instanceMethod ⟨"java/lang/Object", "clone", "()Ljava/lang/Object;"⟩ ∈ tblG := tg 764 (by decide +kernel) (by decide +kernel)
theorem se_clone : Cond.selects "[I" ⟨"[I", "clone", "()Ljava/lang/Object;"⟩ ⟨"java/lang/Object", "clone", "()Ljava/lang/Object;"⟩ ∈ tblG := tg 765 (by decide +kernel) (by decide +kernel)
theorem cl_J7_317 : Cond.classLink RJ7 317 "[I" ∈ tblG := tg 767 (by decide +kernel) (by decide +kernel)
set_option maxHeartbeats 4000000 in
set_option maxRecDepth 100000 in
theorem k_copyOf12 (l : Launch) (G : g5_G) (a_0 : Nat) (sz : Nat) (p_n : Int32) (f_a : Nat → Int32) (h_p_n : 0 ≤ p_n.toInt ∧ p_n.toInt ≤ 12) : Met l yJ7_copyOf_59c91 (wsG yJ7_copyOf_59c91 cJ7_copyOf_59c91 3 (some (.array .int))) ({ frames := 1, cells := 1, slots := 12, locals := 60 }) (va_Pc [.ref a_0, .int p_n] (g5_P G [(a_0, (arI G 12 f_a))] sz)) (va_Qq (fun (r : Option Nat) (u : va_W) => (∃ (o_q : Nat) (o_n : Nat) (o_f : Nat → Int32), ((o_n : Int) = p_n.toInt) ∧ (∀ j : Nat, j < o_n → o_f j = f_a j) ∧ (r = some o_q) ∧ (u = [(a_0, (arI G 12 f_a)), (o_q, (arI G o_n o_f))]))) (g5_B G (va_A [(a_0, (arI G 12 f_a))] sz)) (va_A [(a_0, (arI G 12 f_a))] sz)) 1 12 (va_A [(a_0, (arI G 12 f_a))] sz) := by
  refine Met.ofW (cc := cJ7_copyOf_59c91) (maxL := 3) (ret := (some (.array .int))) (by decide +kernel) rfl ?_
  intro p e s m args below meth c s₁ B hml hv
  obtain ⟨rfl, hsz, hP, hK, hD0, hN, hT⟩ := hv
  have hx := B.exec
  have hb := B.bytes
  have hr := B.returns
  have hts : ∀ w ∈ tblG, w.before _ s = true := fun w h => atoms_spec (ws := (wsG yJ7_copyOf_59c91 cJ7_copyOf_59c91 3 (some (.array .int)))) B.pre w (List.mem_cons_of_mem _ h)
  have hown : s.vm.findClass RJ7 = some m.cls := findClass_of_methodNamed B.named
  have hlocks := B.notSynchronized
  subst hsz
  have hD := hD0.self (sz := s.heap.size)
  generalize hAe : va_A [(a_0, (arI G 12 f_a))] s.heap.size = A at hD hT ⊢
  have hA : ∀ q : Nat, s.heap.size ≤ q → A q := fun q h => by rw [← hAe]; exact Or.inr h
  have hS : va_S A s.heap s.heap [] := va_S.rf
  replace hP : va_P G.1 vwCl [(a_0, (arI G 12 f_a))] s.heap := hP
  have hl := lv_entry ([.ref a_0, .int p_n]) (n := 3) (Nat.le_of_ble_eq_true rfl)
  rw [lg_entry_eq]
  generalize (lg_sl ([.ref a_0, .int p_n]) ++ List.replicate (3 - (lg_sl ([.ref a_0, .int p_n])).length) Slot.unset).toArray = ls at hl ⊢
  replace hl : lv_has ls 3 [(0, .ref a_0), (1, .int p_n)] := hl
  refine lv_iload_n hx hb dJ7_copyOf_59c91_0 rfl (lv_at hl 1 rfl) ?_
  refine lv_aload_n hx hb dJ7_copyOf_59c91_1 rfl (lv_at hl 0 rfl) ?_
  refine va_alen hx hb hK hP 0 0 rfl rfl (v := 12) (by show Int32.ofNat 12 = 12; decide) dJ7_copyOf_59c91_2 ?_
  refine lv_icmp_ne (tgt := 14) hx hb dJ7_copyOf_59c91_3 (by decide +kernel) (fun c_1 => ?_) (fun c_1 => ?_)
  ·
    have n_1 : gNe (p_n.toInt) (12) := g5_ne (a := p_n.toInt) (b := 12) rfl (by decide +kernel) c_1
    have i_1 : p_n.toInt ≤ 11 := by have z := g5_ne (a := p_n.toInt) (b := 12) (by rfl) (by decide +kernel) c_1; omega
    refine lv_iload_n hx hb dJ7_copyOf_59c91_14 rfl (lv_at hl 1 rfl) ?_
    refine va_newa (D := G.1) (atype := .int) (ty := .int) hx hb (hts _ acl_I) rfl hK hP hD hS hA (n := p_n) (N' := p_n.toNatClampNeg) (a0 := (p_n.toNatClampNeg, .inl (fun _ => 0))) (fun _ => rfl) (g_nlt0 (by omega)) rfl (by have zz := g5_clamp p_n; show p_n.toNatClampNeg * 4 ≤ _; omega) (Nat.le_of_ble_eq_true rfl) (by have zz := g5_clamp p_n; show 0 + p_n.toNatClampNeg ≤ 12; omega) dJ7_copyOf_59c91_15 (fun q2 cA H hKn hP hD hS => ?_)
    obtain rfl : cA = G.2 0 := g5_cI hKn
    refine g5_rs [(a_0, (arI G 12 f_a)), (q2, (arI G p_n.toNatClampNeg (fun _ => 0)))] hP hD ?_
    clear hP hD
    intro hP hD
    refine W.widen (k := 1) (n := 11) (Nat.le_of_ble_eq_true rfl) (by have zz := g5_clamp p_n; omega) ?_
    refine lv_astore_n (lv' := [(2, .ref q2), (0, .ref a_0), (1, .int p_n)]) hx hb dJ7_copyOf_59c91_17 rfl hl (by decide +kernel) rfl ?_
    clear hl
    intro ls hl
    refine lv_aload_n hx hb dJ7_copyOf_59c91_18 rfl (lv_at hl 1 rfl) ?_
    refine W.eq (g2 := F0 m 19 ls [.ref a_0]) rfl ?_
    refine lv_iconst (v := 0) hx hb dJ7_copyOf_59c91_19 (by decide +kernel) ?_
    refine lv_aload_n hx hb dJ7_copyOf_59c91_20 rfl (lv_at hl 0 rfl) ?_
    refine lv_iconst (v := 0) hx hb dJ7_copyOf_59c91_21 (by decide +kernel) ?_
    refine lv_aload_n hx hb dJ7_copyOf_59c91_22 rfl (lv_at hl 1 rfl) ?_
    refine va_alen hx hb hK hP 0 0 rfl rfl (v := 12) (by show Int32.ofNat 12 = 12; decide) dJ7_copyOf_59c91_23 ?_
    refine W.eq (g2 := F0 m 24 ls [.int 12, .int 0, .ref q2, .int 0, .ref a_0]) rfl ?_
    refine lv_iload_n hx hb dJ7_copyOf_59c91_24 rfl (lv_at hl 2 rfl) ?_
    refine va_mmin hx hb (hml.trans hl.1.symm) hown (hts _ ml_J7_304) (hts _ st_Math_minI) (hts _ ini_Math) (hts _ cd_Math_minI) (Nat.le_of_ble_eq_true rfl) (Nat.le_of_ble_eq_true rfl) (Nat.le_of_ble_eq_true rfl) (Nat.le_of_ble_eq_true rfl) dJ7_copyOf_59c91_25 ?_
    have zk_3 : (12 : Int32).toInt = 12 := (by decide +kernel)
    have hm_4 := g_minI 12 p_n
    refine va_copyi hx hb (hml.trans hl.1.symm) hown (hts _ ml_J7_150) (hts _ ac_nat) (hts _ ac_st) (hts _ ac_ini) hK hP hD hS 0 1 0 0 rfl rfl rfl rfl rfl (sp := 0) (dp := 0) (n := (if p_n < 12 then p_n else 12)) (by decide +kernel) (by decide +kernel) (g_nlt0 (by omega)) (by have z5 : (0 : Int32).toNatClampNeg = 0 := (by decide +kernel); have z6 := g5_clamp (if p_n < 12 then p_n else 12); have z7 := g5_clamp p_n; omega) (by have z8 : (0 : Int32).toNatClampNeg = 0 := (by decide +kernel); have z9 := g5_clamp (if p_n < 12 then p_n else 12); have z10 := g5_clamp p_n; omega) (fun _ _ => rfl) (Nat.le_of_ble_eq_true rfl) (by decide +kernel) dJ7_copyOf_59c91_28 ?_
    clear hP hD hS
    intro H locs hP hD hS
    refine g5_rs [(a_0, (arI G 12 f_a)), (q2, (arI G p_n.toNatClampNeg (va_cpy f_a (fun _ => 0) 0 0 (if p_n < 12 then p_n else 12).toNatClampNeg)))] hP hD ?_
    clear hP hD
    intro hP hD
    refine lv_aload_n hx hb dJ7_copyOf_59c91_31 rfl (lv_at hl 0 rfl) ?_
    refine W.widen (k := 1) (n := 12) (by decide +kernel) (by decide +kernel) ?_
    exact W.aret (v := .ref q2) hx hb hr (Or.inr ⟨_, rfl⟩) (Or.inr ⟨_, rfl⟩) (fun t ht hW => ⟨⟨some q2, [(a_0, (arI G 12 f_a)), (q2, (arI G p_n.toNatClampNeg (va_cpy f_a (fun _ => 0) 0 0 (if p_n < 12 then p_n else 12).toNatClampNeg)))], rfl, ⟨q2, p_n.toNatClampNeg, (va_cpy f_a (fun _ => 0) 0 0 (if p_n < 12 then p_n else 12).toNatClampNeg), by have zz := g5_clamp p_n; omega, cpy_ok (by have zz := g5_clamp p_n; omega), rfl, rfl⟩, by rw [ht]; exact hP.sub [0, 1] rfl, hD.sub [0, 1] (by decide +kernel) rfl⟩, hS.F ht⟩) hS.2.2 dJ7_copyOf_59c91_32
  ·
    have i_1 : p_n.toInt = 12 := g5_neN (a := p_n.toInt) (b := 12) rfl (by decide +kernel) c_1
    refine lv_aload_n hx hb dJ7_copyOf_59c91_6 rfl (lv_at hl 0 rfl) ?_
    refine va_clone hx hb (hml.trans hl.1.symm) hown (hts _ ml_clone) (hts _ sm_clone) (hts _ na_clone) (hts _ im_clone) (hts _ se_clone) hN.2.2.2 hK hP hD hS hA 0 0 rfl rfl (g_find hK) g_fitI (Nat.le_of_ble_eq_true rfl) (by decide +kernel) (Nat.le_of_ble_eq_true rfl) (Nat.le_of_ble_eq_true rfl) dJ7_copyOf_59c91_7 (fun q11 H hKn hP hD hS => ?_)
    refine g5_rs [(a_0, (arI G 12 f_a)), (q11, (arI G 12 f_a))] hP hD ?_
    clear hP hD
    intro hP hD
    refine W.widen (k := 1) (n := 12) (Nat.le_of_ble_eq_true rfl) (Nat.le_of_ble_eq_true rfl) ?_
    refine va_castA hx hb hown (hts _ cl_J7_317) hP 1 rfl (g_find hK) dJ7_copyOf_59c91_10 ?_
    exact W.aret (v := .ref q11) hx hb hr (Or.inr ⟨_, rfl⟩) (Or.inr ⟨_, rfl⟩) (fun t ht hW => ⟨⟨some q11, [(a_0, (arI G 12 f_a)), (q11, (arI G 12 f_a))], rfl, ⟨q11, 12, f_a, by have zz := g5_clamp p_n; omega, fun _ _ => rfl, rfl, rfl⟩, by rw [ht]; exact hP.sub [0, 1] rfl, hD.sub [0, 1] (by decide +kernel) rfl⟩, hS.F ht⟩) hS.2.2 dJ7_copyOf_59c91_13
set_option maxHeartbeats 4000000 in
set_option maxRecDepth 100000 in
theorem k_copyOf13 (l : Launch) (G : g5_G) (a_0 : Nat) (sz : Nat) (p_n : Int32) (f_a : Nat → Int32) (h_p_n : 0 ≤ p_n.toInt ∧ p_n.toInt ≤ 13) : Met l yJ7_copyOf_59c91 (wsG yJ7_copyOf_59c91 cJ7_copyOf_59c91 3 (some (.array .int))) ({ frames := 1, cells := 1, slots := 13, locals := 60 }) (va_Pc [.ref a_0, .int p_n] (g5_P G [(a_0, (arI G 13 f_a))] sz)) (va_Qq (fun (r : Option Nat) (u : va_W) => (∃ (o_q : Nat) (o_n : Nat) (o_f : Nat → Int32), ((o_n : Int) = p_n.toInt) ∧ (∀ j : Nat, j < o_n → o_f j = f_a j) ∧ (r = some o_q) ∧ (u = [(a_0, (arI G 13 f_a)), (o_q, (arI G o_n o_f))]))) (g5_B G (va_A [(a_0, (arI G 13 f_a))] sz)) (va_A [(a_0, (arI G 13 f_a))] sz)) 1 13 (va_A [(a_0, (arI G 13 f_a))] sz) := by
  refine Met.ofW (cc := cJ7_copyOf_59c91) (maxL := 3) (ret := (some (.array .int))) (by decide +kernel) rfl ?_
  intro p e s m args below meth c s₁ B hml hv
  obtain ⟨rfl, hsz, hP, hK, hD0, hN, hT⟩ := hv
  have hx := B.exec
  have hb := B.bytes
  have hr := B.returns
  have hts : ∀ w ∈ tblG, w.before _ s = true := fun w h => atoms_spec (ws := (wsG yJ7_copyOf_59c91 cJ7_copyOf_59c91 3 (some (.array .int)))) B.pre w (List.mem_cons_of_mem _ h)
  have hown : s.vm.findClass RJ7 = some m.cls := findClass_of_methodNamed B.named
  have hlocks := B.notSynchronized
  subst hsz
  have hD := hD0.self (sz := s.heap.size)
  generalize hAe : va_A [(a_0, (arI G 13 f_a))] s.heap.size = A at hD hT ⊢
  have hA : ∀ q : Nat, s.heap.size ≤ q → A q := fun q h => by rw [← hAe]; exact Or.inr h
  have hS : va_S A s.heap s.heap [] := va_S.rf
  replace hP : va_P G.1 vwCl [(a_0, (arI G 13 f_a))] s.heap := hP
  have hl := lv_entry ([.ref a_0, .int p_n]) (n := 3) (Nat.le_of_ble_eq_true rfl)
  rw [lg_entry_eq]
  generalize (lg_sl ([.ref a_0, .int p_n]) ++ List.replicate (3 - (lg_sl ([.ref a_0, .int p_n])).length) Slot.unset).toArray = ls at hl ⊢
  replace hl : lv_has ls 3 [(0, .ref a_0), (1, .int p_n)] := hl
  refine lv_iload_n hx hb dJ7_copyOf_59c91_0 rfl (lv_at hl 1 rfl) ?_
  refine lv_aload_n hx hb dJ7_copyOf_59c91_1 rfl (lv_at hl 0 rfl) ?_
  refine va_alen hx hb hK hP 0 0 rfl rfl (v := 13) (by show Int32.ofNat 13 = 13; decide) dJ7_copyOf_59c91_2 ?_
  refine lv_icmp_ne (tgt := 14) hx hb dJ7_copyOf_59c91_3 (by decide +kernel) (fun c_1 => ?_) (fun c_1 => ?_)
  ·
    have n_1 : gNe (p_n.toInt) (13) := g5_ne (a := p_n.toInt) (b := 13) rfl (by decide +kernel) c_1
    have i_1 : p_n.toInt ≤ 12 := by have z := g5_ne (a := p_n.toInt) (b := 13) (by rfl) (by decide +kernel) c_1; omega
    refine lv_iload_n hx hb dJ7_copyOf_59c91_14 rfl (lv_at hl 1 rfl) ?_
    refine va_newa (D := G.1) (atype := .int) (ty := .int) hx hb (hts _ acl_I) rfl hK hP hD hS hA (n := p_n) (N' := p_n.toNatClampNeg) (a0 := (p_n.toNatClampNeg, .inl (fun _ => 0))) (fun _ => rfl) (g_nlt0 (by omega)) rfl (by have zz := g5_clamp p_n; show p_n.toNatClampNeg * 4 ≤ _; omega) (Nat.le_of_ble_eq_true rfl) (by have zz := g5_clamp p_n; show 0 + p_n.toNatClampNeg ≤ 13; omega) dJ7_copyOf_59c91_15 (fun q2 cA H hKn hP hD hS => ?_)
    obtain rfl : cA = G.2 0 := g5_cI hKn
    refine g5_rs [(a_0, (arI G 13 f_a)), (q2, (arI G p_n.toNatClampNeg (fun _ => 0)))] hP hD ?_
    clear hP hD
    intro hP hD
    refine W.widen (k := 1) (n := 12) (Nat.le_of_ble_eq_true rfl) (by have zz := g5_clamp p_n; omega) ?_
    refine lv_astore_n (lv' := [(2, .ref q2), (0, .ref a_0), (1, .int p_n)]) hx hb dJ7_copyOf_59c91_17 rfl hl (by decide +kernel) rfl ?_
    clear hl
    intro ls hl
    refine lv_aload_n hx hb dJ7_copyOf_59c91_18 rfl (lv_at hl 1 rfl) ?_
    refine W.eq (g2 := F0 m 19 ls [.ref a_0]) rfl ?_
    refine lv_iconst (v := 0) hx hb dJ7_copyOf_59c91_19 (by decide +kernel) ?_
    refine lv_aload_n hx hb dJ7_copyOf_59c91_20 rfl (lv_at hl 0 rfl) ?_
    refine lv_iconst (v := 0) hx hb dJ7_copyOf_59c91_21 (by decide +kernel) ?_
    refine lv_aload_n hx hb dJ7_copyOf_59c91_22 rfl (lv_at hl 1 rfl) ?_
    refine va_alen hx hb hK hP 0 0 rfl rfl (v := 13) (by show Int32.ofNat 13 = 13; decide) dJ7_copyOf_59c91_23 ?_
    refine W.eq (g2 := F0 m 24 ls [.int 13, .int 0, .ref q2, .int 0, .ref a_0]) rfl ?_
    refine lv_iload_n hx hb dJ7_copyOf_59c91_24 rfl (lv_at hl 2 rfl) ?_
    refine va_mmin hx hb (hml.trans hl.1.symm) hown (hts _ ml_J7_304) (hts _ st_Math_minI) (hts _ ini_Math) (hts _ cd_Math_minI) (Nat.le_of_ble_eq_true rfl) (Nat.le_of_ble_eq_true rfl) (Nat.le_of_ble_eq_true rfl) (Nat.le_of_ble_eq_true rfl) dJ7_copyOf_59c91_25 ?_
    have zk_3 : (13 : Int32).toInt = 13 := (by decide +kernel)
    have hm_4 := g_minI 13 p_n
    refine va_copyi hx hb (hml.trans hl.1.symm) hown (hts _ ml_J7_150) (hts _ ac_nat) (hts _ ac_st) (hts _ ac_ini) hK hP hD hS 0 1 0 0 rfl rfl rfl rfl rfl (sp := 0) (dp := 0) (n := (if p_n < 13 then p_n else 13)) (by decide +kernel) (by decide +kernel) (g_nlt0 (by omega)) (by have z5 : (0 : Int32).toNatClampNeg = 0 := (by decide +kernel); have z6 := g5_clamp (if p_n < 13 then p_n else 13); have z7 := g5_clamp p_n; omega) (by have z8 : (0 : Int32).toNatClampNeg = 0 := (by decide +kernel); have z9 := g5_clamp (if p_n < 13 then p_n else 13); have z10 := g5_clamp p_n; omega) (fun _ _ => rfl) (Nat.le_of_ble_eq_true rfl) (by decide +kernel) dJ7_copyOf_59c91_28 ?_
    clear hP hD hS
    intro H locs hP hD hS
    refine g5_rs [(a_0, (arI G 13 f_a)), (q2, (arI G p_n.toNatClampNeg (va_cpy f_a (fun _ => 0) 0 0 (if p_n < 13 then p_n else 13).toNatClampNeg)))] hP hD ?_
    clear hP hD
    intro hP hD
    refine lv_aload_n hx hb dJ7_copyOf_59c91_31 rfl (lv_at hl 0 rfl) ?_
    refine W.widen (k := 1) (n := 13) (by decide +kernel) (by decide +kernel) ?_
    exact W.aret (v := .ref q2) hx hb hr (Or.inr ⟨_, rfl⟩) (Or.inr ⟨_, rfl⟩) (fun t ht hW => ⟨⟨some q2, [(a_0, (arI G 13 f_a)), (q2, (arI G p_n.toNatClampNeg (va_cpy f_a (fun _ => 0) 0 0 (if p_n < 13 then p_n else 13).toNatClampNeg)))], rfl, ⟨q2, p_n.toNatClampNeg, (va_cpy f_a (fun _ => 0) 0 0 (if p_n < 13 then p_n else 13).toNatClampNeg), by have zz := g5_clamp p_n; omega, cpy_ok (by have zz := g5_clamp p_n; omega), rfl, rfl⟩, by rw [ht]; exact hP.sub [0, 1] rfl, hD.sub [0, 1] (by decide +kernel) rfl⟩, hS.F ht⟩) hS.2.2 dJ7_copyOf_59c91_32
  ·
    have i_1 : p_n.toInt = 13 := g5_neN (a := p_n.toInt) (b := 13) rfl (by decide +kernel) c_1
    refine lv_aload_n hx hb dJ7_copyOf_59c91_6 rfl (lv_at hl 0 rfl) ?_
    refine va_clone hx hb (hml.trans hl.1.symm) hown (hts _ ml_clone) (hts _ sm_clone) (hts _ na_clone) (hts _ im_clone) (hts _ se_clone) hN.2.2.2 hK hP hD hS hA 0 0 rfl rfl (g_find hK) g_fitI (Nat.le_of_ble_eq_true rfl) (by decide +kernel) (Nat.le_of_ble_eq_true rfl) (Nat.le_of_ble_eq_true rfl) dJ7_copyOf_59c91_7 (fun q11 H hKn hP hD hS => ?_)
    refine g5_rs [(a_0, (arI G 13 f_a)), (q11, (arI G 13 f_a))] hP hD ?_
    clear hP hD
    intro hP hD
    refine W.widen (k := 1) (n := 13) (Nat.le_of_ble_eq_true rfl) (Nat.le_of_ble_eq_true rfl) ?_
    refine va_castA hx hb hown (hts _ cl_J7_317) hP 1 rfl (g_find hK) dJ7_copyOf_59c91_10 ?_
    exact W.aret (v := .ref q11) hx hb hr (Or.inr ⟨_, rfl⟩) (Or.inr ⟨_, rfl⟩) (fun t ht hW => ⟨⟨some q11, [(a_0, (arI G 13 f_a)), (q11, (arI G 13 f_a))], rfl, ⟨q11, 13, f_a, by have zz := g5_clamp p_n; omega, fun _ _ => rfl, rfl, rfl⟩, by rw [ht]; exact hP.sub [0, 1] rfl, hD.sub [0, 1] (by decide +kernel) rfl⟩, hS.F ht⟩) hS.2.2 dJ7_copyOf_59c91_13
set_option maxHeartbeats 4000000 in
set_option maxRecDepth 100000 in
theorem k_copyOf400 (l : Launch) (G : g5_G) (a_0 : Nat) (sz : Nat) (p_n : Int32) (f_a : Nat → Int32) (h_p_n : 0 ≤ p_n.toInt ∧ p_n.toInt ≤ 400) : Met l yJ7_copyOf_59c91 (wsG yJ7_copyOf_59c91 cJ7_copyOf_59c91 3 (some (.array .int))) ({ frames := 1, cells := 1, slots := 400, locals := 60 }) (va_Pc [.ref a_0, .int p_n] (g5_P G [(a_0, (arI G 400 f_a))] sz)) (va_Qq (fun (r : Option Nat) (u : va_W) => (∃ (o_q : Nat) (o_n : Nat) (o_f : Nat → Int32), ((o_n : Int) = p_n.toInt) ∧ (∀ j : Nat, j < o_n → o_f j = f_a j) ∧ (r = some o_q) ∧ (u = [(a_0, (arI G 400 f_a)), (o_q, (arI G o_n o_f))]))) (g5_B G (va_A [(a_0, (arI G 400 f_a))] sz)) (va_A [(a_0, (arI G 400 f_a))] sz)) 1 400 (va_A [(a_0, (arI G 400 f_a))] sz) := by
  refine Met.ofW (cc := cJ7_copyOf_59c91) (maxL := 3) (ret := (some (.array .int))) (by decide +kernel) rfl ?_
  intro p e s m args below meth c s₁ B hml hv
  obtain ⟨rfl, hsz, hP, hK, hD0, hN, hT⟩ := hv
  have hx := B.exec
  have hb := B.bytes
  have hr := B.returns
  have hts : ∀ w ∈ tblG, w.before _ s = true := fun w h => atoms_spec (ws := (wsG yJ7_copyOf_59c91 cJ7_copyOf_59c91 3 (some (.array .int)))) B.pre w (List.mem_cons_of_mem _ h)
  have hown : s.vm.findClass RJ7 = some m.cls := findClass_of_methodNamed B.named
  have hlocks := B.notSynchronized
  subst hsz
  have hD := hD0.self (sz := s.heap.size)
  generalize hAe : va_A [(a_0, (arI G 400 f_a))] s.heap.size = A at hD hT ⊢
  have hA : ∀ q : Nat, s.heap.size ≤ q → A q := fun q h => by rw [← hAe]; exact Or.inr h
  have hS : va_S A s.heap s.heap [] := va_S.rf
  replace hP : va_P G.1 vwCl [(a_0, (arI G 400 f_a))] s.heap := hP
  have hl := lv_entry ([.ref a_0, .int p_n]) (n := 3) (Nat.le_of_ble_eq_true rfl)
  rw [lg_entry_eq]
  generalize (lg_sl ([.ref a_0, .int p_n]) ++ List.replicate (3 - (lg_sl ([.ref a_0, .int p_n])).length) Slot.unset).toArray = ls at hl ⊢
  replace hl : lv_has ls 3 [(0, .ref a_0), (1, .int p_n)] := hl
  refine lv_iload_n hx hb dJ7_copyOf_59c91_0 rfl (lv_at hl 1 rfl) ?_
  refine lv_aload_n hx hb dJ7_copyOf_59c91_1 rfl (lv_at hl 0 rfl) ?_
  refine va_alen hx hb hK hP 0 0 rfl rfl (v := 400) (by show Int32.ofNat 400 = 400; decide) dJ7_copyOf_59c91_2 ?_
  refine lv_icmp_ne (tgt := 14) hx hb dJ7_copyOf_59c91_3 (by decide +kernel) (fun c_1 => ?_) (fun c_1 => ?_)
  ·
    have n_1 : gNe (p_n.toInt) (400) := g5_ne (a := p_n.toInt) (b := 400) rfl (by decide +kernel) c_1
    have i_1 : p_n.toInt ≤ 399 := by have z := g5_ne (a := p_n.toInt) (b := 400) (by rfl) (by decide +kernel) c_1; omega
    refine lv_iload_n hx hb dJ7_copyOf_59c91_14 rfl (lv_at hl 1 rfl) ?_
    refine va_newa (D := G.1) (atype := .int) (ty := .int) hx hb (hts _ acl_I) rfl hK hP hD hS hA (n := p_n) (N' := p_n.toNatClampNeg) (a0 := (p_n.toNatClampNeg, .inl (fun _ => 0))) (fun _ => rfl) (g_nlt0 (by omega)) rfl (by have zz := g5_clamp p_n; show p_n.toNatClampNeg * 4 ≤ _; omega) (Nat.le_of_ble_eq_true rfl) (by have zz := g5_clamp p_n; show 0 + p_n.toNatClampNeg ≤ 400; omega) dJ7_copyOf_59c91_15 (fun q2 cA H hKn hP hD hS => ?_)
    obtain rfl : cA = G.2 0 := g5_cI hKn
    refine g5_rs [(a_0, (arI G 400 f_a)), (q2, (arI G p_n.toNatClampNeg (fun _ => 0)))] hP hD ?_
    clear hP hD
    intro hP hD
    refine W.widen (k := 1) (n := 399) (Nat.le_of_ble_eq_true rfl) (by have zz := g5_clamp p_n; omega) ?_
    refine lv_astore_n (lv' := [(2, .ref q2), (0, .ref a_0), (1, .int p_n)]) hx hb dJ7_copyOf_59c91_17 rfl hl (by decide +kernel) rfl ?_
    clear hl
    intro ls hl
    refine lv_aload_n hx hb dJ7_copyOf_59c91_18 rfl (lv_at hl 1 rfl) ?_
    refine W.eq (g2 := F0 m 19 ls [.ref a_0]) rfl ?_
    refine lv_iconst (v := 0) hx hb dJ7_copyOf_59c91_19 (by decide +kernel) ?_
    refine lv_aload_n hx hb dJ7_copyOf_59c91_20 rfl (lv_at hl 0 rfl) ?_
    refine lv_iconst (v := 0) hx hb dJ7_copyOf_59c91_21 (by decide +kernel) ?_
    refine lv_aload_n hx hb dJ7_copyOf_59c91_22 rfl (lv_at hl 1 rfl) ?_
    refine va_alen hx hb hK hP 0 0 rfl rfl (v := 400) (by show Int32.ofNat 400 = 400; decide) dJ7_copyOf_59c91_23 ?_
    refine W.eq (g2 := F0 m 24 ls [.int 400, .int 0, .ref q2, .int 0, .ref a_0]) rfl ?_
    refine lv_iload_n hx hb dJ7_copyOf_59c91_24 rfl (lv_at hl 2 rfl) ?_
    refine va_mmin hx hb (hml.trans hl.1.symm) hown (hts _ ml_J7_304) (hts _ st_Math_minI) (hts _ ini_Math) (hts _ cd_Math_minI) (Nat.le_of_ble_eq_true rfl) (Nat.le_of_ble_eq_true rfl) (Nat.le_of_ble_eq_true rfl) (Nat.le_of_ble_eq_true rfl) dJ7_copyOf_59c91_25 ?_
    have zk_3 : (400 : Int32).toInt = 400 := (by decide +kernel)
    have hm_4 := g_minI 400 p_n
    refine va_copyi hx hb (hml.trans hl.1.symm) hown (hts _ ml_J7_150) (hts _ ac_nat) (hts _ ac_st) (hts _ ac_ini) hK hP hD hS 0 1 0 0 rfl rfl rfl rfl rfl (sp := 0) (dp := 0) (n := (if p_n < 400 then p_n else 400)) (by decide +kernel) (by decide +kernel) (g_nlt0 (by omega)) (by have z5 : (0 : Int32).toNatClampNeg = 0 := (by decide +kernel); have z6 := g5_clamp (if p_n < 400 then p_n else 400); have z7 := g5_clamp p_n; omega) (by have z8 : (0 : Int32).toNatClampNeg = 0 := (by decide +kernel); have z9 := g5_clamp (if p_n < 400 then p_n else 400); have z10 := g5_clamp p_n; omega) (fun _ _ => rfl) (Nat.le_of_ble_eq_true rfl) (by decide +kernel) dJ7_copyOf_59c91_28 ?_
    clear hP hD hS
    intro H locs hP hD hS
    refine g5_rs [(a_0, (arI G 400 f_a)), (q2, (arI G p_n.toNatClampNeg (va_cpy f_a (fun _ => 0) 0 0 (if p_n < 400 then p_n else 400).toNatClampNeg)))] hP hD ?_
    clear hP hD
    intro hP hD
    refine lv_aload_n hx hb dJ7_copyOf_59c91_31 rfl (lv_at hl 0 rfl) ?_
    refine W.widen (k := 1) (n := 400) (by decide +kernel) (by decide +kernel) ?_
    exact W.aret (v := .ref q2) hx hb hr (Or.inr ⟨_, rfl⟩) (Or.inr ⟨_, rfl⟩) (fun t ht hW => ⟨⟨some q2, [(a_0, (arI G 400 f_a)), (q2, (arI G p_n.toNatClampNeg (va_cpy f_a (fun _ => 0) 0 0 (if p_n < 400 then p_n else 400).toNatClampNeg)))], rfl, ⟨q2, p_n.toNatClampNeg, (va_cpy f_a (fun _ => 0) 0 0 (if p_n < 400 then p_n else 400).toNatClampNeg), by have zz := g5_clamp p_n; omega, cpy_ok (by have zz := g5_clamp p_n; omega), rfl, rfl⟩, by rw [ht]; exact hP.sub [0, 1] rfl, hD.sub [0, 1] (by decide +kernel) rfl⟩, hS.F ht⟩) hS.2.2 dJ7_copyOf_59c91_32
  ·
    have i_1 : p_n.toInt = 400 := g5_neN (a := p_n.toInt) (b := 400) rfl (by decide +kernel) c_1
    refine lv_aload_n hx hb dJ7_copyOf_59c91_6 rfl (lv_at hl 0 rfl) ?_
    refine va_clone hx hb (hml.trans hl.1.symm) hown (hts _ ml_clone) (hts _ sm_clone) (hts _ na_clone) (hts _ im_clone) (hts _ se_clone) hN.2.2.2 hK hP hD hS hA 0 0 rfl rfl (g_find hK) g_fitI (Nat.le_of_ble_eq_true rfl) (by decide +kernel) (Nat.le_of_ble_eq_true rfl) (Nat.le_of_ble_eq_true rfl) dJ7_copyOf_59c91_7 (fun q11 H hKn hP hD hS => ?_)
    refine g5_rs [(a_0, (arI G 400 f_a)), (q11, (arI G 400 f_a))] hP hD ?_
    clear hP hD
    intro hP hD
    refine W.widen (k := 1) (n := 400) (Nat.le_of_ble_eq_true rfl) (Nat.le_of_ble_eq_true rfl) ?_
    refine va_castA hx hb hown (hts _ cl_J7_317) hP 1 rfl (g_find hK) dJ7_copyOf_59c91_10 ?_
    exact W.aret (v := .ref q11) hx hb hr (Or.inr ⟨_, rfl⟩) (Or.inr ⟨_, rfl⟩) (fun t ht hW => ⟨⟨some q11, [(a_0, (arI G 400 f_a)), (q11, (arI G 400 f_a))], rfl, ⟨q11, 400, f_a, by have zz := g5_clamp p_n; omega, fun _ _ => rfl, rfl, rfl⟩, by rw [ht]; exact hP.sub [0, 1] rfl, hD.sub [0, 1] (by decide +kernel) rfl⟩, hS.F ht⟩) hS.2.2 dJ7_copyOf_59c91_13
theorem dgX4_readClause_0 : ∀ r ∈ ([(0, (.aload_n 0, 1)), (1, (.getfield 12, 3)), (4, (.aload_n 0, 1)), (5, (.getfield 42, 3)), (8, (.invokevirtual 69, 3)), (11, (.sipush 256, 3)), (14, (.isub, 1)), (15, (.istore_n 2, 1)), (16, (.iload_n 2, 1)), (17, (.ifCond .lt 8, 3)), (20, (.iload_n 2, 1)), (21, (.iconst 4, 1)), (22, (.if_icmp .lt 5, 3)), (25, (.iconst 0, 1)), (26, (.ireturn, 1)), (27, (.aload_n 0, 1)), (28, (.dup, 1)), (29, (.getfield 42, 3)), (32, (.iconst 1, 1)), (33, (.iadd, 1)), (34, (.putfield 42, 3)), (37, (.aload_n 0, 1)), (38, (.getfield 18, 3)), (41, (.iload_n 1, 1)), (42, (.iload_n 2, 1)), (43, (.iastore, 1)), (44, (.aload_n 0, 1)), (45, (.getfield 22, 3)), (48, (.iload_n 1, 1)), (49, (.aload_n 0, 1)), (50, (.getfield 36, 3)), (53, (.iastore, 1)), (54, (.iload_n 2, 1)), (55, (.ifCond .eq 8, 3)), (58, (.iload_n 2, 1)), (59, (.iconst 1, 1)), (60, (.if_icmp .ne 13, 3)), (63, (.aload_n 0, 1)), (64, (.iconst 0, 1)), (65, (.invokevirtual 73, 3))] : List (Nat × (Instr × Nat))), decode cX4_readClause r.1 = .ok r.2 := by decide +kernel
theorem dX4_readClause_0 : decode cX4_readClause 0 = .ok (.aload_n 0, 1) := dgX4_readClause_0 (0, (.aload_n 0, 1)) (List.mem_of_getElem? (i := 0) rfl)
theorem dX4_readClause_1 : decode cX4_readClause 1 = .ok (.getfield 12, 3) := dgX4_readClause_0 (1, (.getfield 12, 3)) (List.mem_of_getElem? (i := 1) rfl)
theorem dX4_readClause_4 : decode cX4_readClause 4 = .ok (.aload_n 0, 1) := dgX4_readClause_0 (4, (.aload_n 0, 1)) (List.mem_of_getElem? (i := 2) rfl)
theorem dX4_readClause_5 : decode cX4_readClause 5 = .ok (.getfield 42, 3) := dgX4_readClause_0 (5, (.getfield 42, 3)) (List.mem_of_getElem? (i := 3) rfl)
theorem dX4_readClause_8 : decode cX4_readClause 8 = .ok (.invokevirtual 69, 3) := dgX4_readClause_0 (8, (.invokevirtual 69, 3)) (List.mem_of_getElem? (i := 4) rfl)
theorem dX4_readClause_11 : decode cX4_readClause 11 = .ok (.sipush 256, 3) := dgX4_readClause_0 (11, (.sipush 256, 3)) (List.mem_of_getElem? (i := 5) rfl)
theorem dX4_readClause_14 : decode cX4_readClause 14 = .ok (.isub, 1) := dgX4_readClause_0 (14, (.isub, 1)) (List.mem_of_getElem? (i := 6) rfl)
theorem dX4_readClause_15 : decode cX4_readClause 15 = .ok (.istore_n 2, 1) := dgX4_readClause_0 (15, (.istore_n 2, 1)) (List.mem_of_getElem? (i := 7) rfl)
theorem dX4_readClause_16 : decode cX4_readClause 16 = .ok (.iload_n 2, 1) := dgX4_readClause_0 (16, (.iload_n 2, 1)) (List.mem_of_getElem? (i := 8) rfl)
theorem dX4_readClause_17 : decode cX4_readClause 17 = .ok (.ifCond .lt 8, 3) := dgX4_readClause_0 (17, (.ifCond .lt 8, 3)) (List.mem_of_getElem? (i := 9) rfl)
theorem dX4_readClause_20 : decode cX4_readClause 20 = .ok (.iload_n 2, 1) := dgX4_readClause_0 (20, (.iload_n 2, 1)) (List.mem_of_getElem? (i := 10) rfl)
theorem dX4_readClause_21 : decode cX4_readClause 21 = .ok (.iconst 4, 1) := dgX4_readClause_0 (21, (.iconst 4, 1)) (List.mem_of_getElem? (i := 11) rfl)
theorem dX4_readClause_22 : decode cX4_readClause 22 = .ok (.if_icmp .lt 5, 3) := dgX4_readClause_0 (22, (.if_icmp .lt 5, 3)) (List.mem_of_getElem? (i := 12) rfl)
theorem dX4_readClause_25 : decode cX4_readClause 25 = .ok (.iconst 0, 1) := dgX4_readClause_0 (25, (.iconst 0, 1)) (List.mem_of_getElem? (i := 13) rfl)
theorem dX4_readClause_26 : decode cX4_readClause 26 = .ok (.ireturn, 1) := dgX4_readClause_0 (26, (.ireturn, 1)) (List.mem_of_getElem? (i := 14) rfl)
theorem dX4_readClause_27 : decode cX4_readClause 27 = .ok (.aload_n 0, 1) := dgX4_readClause_0 (27, (.aload_n 0, 1)) (List.mem_of_getElem? (i := 15) rfl)
theorem dX4_readClause_28 : decode cX4_readClause 28 = .ok (.dup, 1) := dgX4_readClause_0 (28, (.dup, 1)) (List.mem_of_getElem? (i := 16) rfl)
theorem dX4_readClause_29 : decode cX4_readClause 29 = .ok (.getfield 42, 3) := dgX4_readClause_0 (29, (.getfield 42, 3)) (List.mem_of_getElem? (i := 17) rfl)
theorem dX4_readClause_32 : decode cX4_readClause 32 = .ok (.iconst 1, 1) := dgX4_readClause_0 (32, (.iconst 1, 1)) (List.mem_of_getElem? (i := 18) rfl)
theorem dX4_readClause_33 : decode cX4_readClause 33 = .ok (.iadd, 1) := dgX4_readClause_0 (33, (.iadd, 1)) (List.mem_of_getElem? (i := 19) rfl)
theorem dX4_readClause_34 : decode cX4_readClause 34 = .ok (.putfield 42, 3) := dgX4_readClause_0 (34, (.putfield 42, 3)) (List.mem_of_getElem? (i := 20) rfl)
theorem dX4_readClause_37 : decode cX4_readClause 37 = .ok (.aload_n 0, 1) := dgX4_readClause_0 (37, (.aload_n 0, 1)) (List.mem_of_getElem? (i := 21) rfl)
theorem dX4_readClause_38 : decode cX4_readClause 38 = .ok (.getfield 18, 3) := dgX4_readClause_0 (38, (.getfield 18, 3)) (List.mem_of_getElem? (i := 22) rfl)
theorem dX4_readClause_41 : decode cX4_readClause 41 = .ok (.iload_n 1, 1) := dgX4_readClause_0 (41, (.iload_n 1, 1)) (List.mem_of_getElem? (i := 23) rfl)
theorem dX4_readClause_42 : decode cX4_readClause 42 = .ok (.iload_n 2, 1) := dgX4_readClause_0 (42, (.iload_n 2, 1)) (List.mem_of_getElem? (i := 24) rfl)
theorem dX4_readClause_43 : decode cX4_readClause 43 = .ok (.iastore, 1) := dgX4_readClause_0 (43, (.iastore, 1)) (List.mem_of_getElem? (i := 25) rfl)
theorem dX4_readClause_44 : decode cX4_readClause 44 = .ok (.aload_n 0, 1) := dgX4_readClause_0 (44, (.aload_n 0, 1)) (List.mem_of_getElem? (i := 26) rfl)
theorem dX4_readClause_45 : decode cX4_readClause 45 = .ok (.getfield 22, 3) := dgX4_readClause_0 (45, (.getfield 22, 3)) (List.mem_of_getElem? (i := 27) rfl)
theorem dX4_readClause_48 : decode cX4_readClause 48 = .ok (.iload_n 1, 1) := dgX4_readClause_0 (48, (.iload_n 1, 1)) (List.mem_of_getElem? (i := 28) rfl)
theorem dX4_readClause_49 : decode cX4_readClause 49 = .ok (.aload_n 0, 1) := dgX4_readClause_0 (49, (.aload_n 0, 1)) (List.mem_of_getElem? (i := 29) rfl)
theorem dX4_readClause_50 : decode cX4_readClause 50 = .ok (.getfield 36, 3) := dgX4_readClause_0 (50, (.getfield 36, 3)) (List.mem_of_getElem? (i := 30) rfl)
theorem dX4_readClause_53 : decode cX4_readClause 53 = .ok (.iastore, 1) := dgX4_readClause_0 (53, (.iastore, 1)) (List.mem_of_getElem? (i := 31) rfl)
theorem dX4_readClause_54 : decode cX4_readClause 54 = .ok (.iload_n 2, 1) := dgX4_readClause_0 (54, (.iload_n 2, 1)) (List.mem_of_getElem? (i := 32) rfl)
theorem dX4_readClause_55 : decode cX4_readClause 55 = .ok (.ifCond .eq 8, 3) := dgX4_readClause_0 (55, (.ifCond .eq 8, 3)) (List.mem_of_getElem? (i := 33) rfl)
theorem dX4_readClause_58 : decode cX4_readClause 58 = .ok (.iload_n 2, 1) := dgX4_readClause_0 (58, (.iload_n 2, 1)) (List.mem_of_getElem? (i := 34) rfl)
theorem dX4_readClause_59 : decode cX4_readClause 59 = .ok (.iconst 1, 1) := dgX4_readClause_0 (59, (.iconst 1, 1)) (List.mem_of_getElem? (i := 35) rfl)
theorem dX4_readClause_60 : decode cX4_readClause 60 = .ok (.if_icmp .ne 13, 3) := dgX4_readClause_0 (60, (.if_icmp .ne 13, 3)) (List.mem_of_getElem? (i := 36) rfl)
theorem dX4_readClause_63 : decode cX4_readClause 63 = .ok (.aload_n 0, 1) := dgX4_readClause_0 (63, (.aload_n 0, 1)) (List.mem_of_getElem? (i := 37) rfl)
theorem dX4_readClause_64 : decode cX4_readClause 64 = .ok (.iconst 0, 1) := dgX4_readClause_0 (64, (.iconst 0, 1)) (List.mem_of_getElem? (i := 38) rfl)
theorem dX4_readClause_65 : decode cX4_readClause 65 = .ok (.invokevirtual 73, 3) := dgX4_readClause_0 (65, (.invokevirtual 73, 3)) (List.mem_of_getElem? (i := 39) rfl)
theorem dgX4_readClause_1 : ∀ r ∈ ([(68, (.ifCond .ne 5, 3)), (71, (.iconst 0, 1)), (72, (.ireturn, 1)), (73, (.aload_n 0, 1)), (74, (.sipush 260, 3)), (77, (.invokevirtual 63, 3)), (80, (.ifCond .ne 5, 3)), (83, (.iconst 1, 1)), (84, (.ireturn, 1)), (85, (.aload_n 0, 1)), (86, (.iconst 0, 1)), (87, (.invokevirtual 76, 3)), (90, (.ifCond .ne 5, 3)), (93, (.iconst 0, 1)), (94, (.ireturn, 1)), (95, (.aload_n 0, 1)), (96, (.bipush 10, 2)), (98, (.iconst 0, 1)), (99, (.invokevirtual 79, 3)), (102, (.pop, 1)), (103, (.iconst 1, 1)), (104, (.ireturn, 1))] : List (Nat × (Instr × Nat))), decode cX4_readClause r.1 = .ok r.2 := by decide +kernel
theorem dX4_readClause_68 : decode cX4_readClause 68 = .ok (.ifCond .ne 5, 3) := dgX4_readClause_1 (68, (.ifCond .ne 5, 3)) (List.mem_of_getElem? (i := 0) rfl)
theorem dX4_readClause_71 : decode cX4_readClause 71 = .ok (.iconst 0, 1) := dgX4_readClause_1 (71, (.iconst 0, 1)) (List.mem_of_getElem? (i := 1) rfl)
theorem dX4_readClause_72 : decode cX4_readClause 72 = .ok (.ireturn, 1) := dgX4_readClause_1 (72, (.ireturn, 1)) (List.mem_of_getElem? (i := 2) rfl)
theorem dX4_readClause_73 : decode cX4_readClause 73 = .ok (.aload_n 0, 1) := dgX4_readClause_1 (73, (.aload_n 0, 1)) (List.mem_of_getElem? (i := 3) rfl)
theorem dX4_readClause_74 : decode cX4_readClause 74 = .ok (.sipush 260, 3) := dgX4_readClause_1 (74, (.sipush 260, 3)) (List.mem_of_getElem? (i := 4) rfl)
theorem dX4_readClause_77 : decode cX4_readClause 77 = .ok (.invokevirtual 63, 3) := dgX4_readClause_1 (77, (.invokevirtual 63, 3)) (List.mem_of_getElem? (i := 5) rfl)
theorem dX4_readClause_80 : decode cX4_readClause 80 = .ok (.ifCond .ne 5, 3) := dgX4_readClause_1 (80, (.ifCond .ne 5, 3)) (List.mem_of_getElem? (i := 6) rfl)
theorem dX4_readClause_83 : decode cX4_readClause 83 = .ok (.iconst 1, 1) := dgX4_readClause_1 (83, (.iconst 1, 1)) (List.mem_of_getElem? (i := 7) rfl)
theorem dX4_readClause_84 : decode cX4_readClause 84 = .ok (.ireturn, 1) := dgX4_readClause_1 (84, (.ireturn, 1)) (List.mem_of_getElem? (i := 8) rfl)
theorem dX4_readClause_85 : decode cX4_readClause 85 = .ok (.aload_n 0, 1) := dgX4_readClause_1 (85, (.aload_n 0, 1)) (List.mem_of_getElem? (i := 9) rfl)
theorem dX4_readClause_86 : decode cX4_readClause 86 = .ok (.iconst 0, 1) := dgX4_readClause_1 (86, (.iconst 0, 1)) (List.mem_of_getElem? (i := 10) rfl)
theorem dX4_readClause_87 : decode cX4_readClause 87 = .ok (.invokevirtual 76, 3) := dgX4_readClause_1 (87, (.invokevirtual 76, 3)) (List.mem_of_getElem? (i := 11) rfl)
theorem dX4_readClause_90 : decode cX4_readClause 90 = .ok (.ifCond .ne 5, 3) := dgX4_readClause_1 (90, (.ifCond .ne 5, 3)) (List.mem_of_getElem? (i := 12) rfl)
theorem dX4_readClause_93 : decode cX4_readClause 93 = .ok (.iconst 0, 1) := dgX4_readClause_1 (93, (.iconst 0, 1)) (List.mem_of_getElem? (i := 13) rfl)
theorem dX4_readClause_94 : decode cX4_readClause 94 = .ok (.ireturn, 1) := dgX4_readClause_1 (94, (.ireturn, 1)) (List.mem_of_getElem? (i := 14) rfl)
theorem dX4_readClause_95 : decode cX4_readClause 95 = .ok (.aload_n 0, 1) := dgX4_readClause_1 (95, (.aload_n 0, 1)) (List.mem_of_getElem? (i := 15) rfl)
theorem dX4_readClause_96 : decode cX4_readClause 96 = .ok (.bipush 10, 2) := dgX4_readClause_1 (96, (.bipush 10, 2)) (List.mem_of_getElem? (i := 16) rfl)
theorem dX4_readClause_98 : decode cX4_readClause 98 = .ok (.iconst 0, 1) := dgX4_readClause_1 (98, (.iconst 0, 1)) (List.mem_of_getElem? (i := 17) rfl)
theorem dX4_readClause_99 : decode cX4_readClause 99 = .ok (.invokevirtual 79, 3) := dgX4_readClause_1 (99, (.invokevirtual 79, 3)) (List.mem_of_getElem? (i := 18) rfl)
theorem dX4_readClause_102 : decode cX4_readClause 102 = .ok (.pop, 1) := dgX4_readClause_1 (102, (.pop, 1)) (List.mem_of_getElem? (i := 19) rfl)
theorem dX4_readClause_103 : decode cX4_readClause 103 = .ok (.iconst 1, 1) := dgX4_readClause_1 (103, (.iconst 1, 1)) (List.mem_of_getElem? (i := 20) rfl)
theorem dX4_readClause_104 : decode cX4_readClause 104 = .ok (.ireturn, 1) := dgX4_readClause_1 (104, (.ireturn, 1)) (List.mem_of_getElem? (i := 21) rfl)
theorem fl_X4_18 : Cond.fieldLink RX4 18 "LateGlass$LawReader" "heads" "[I" ∈ tblG := tg 419 (by decide +kernel) (by decide +kernel)
theorem fl_X4_22 : Cond.fieldLink RX4 22 "LateGlass$LawReader" "starts" "[I" ∈ tblG := tg 420 (by decide +kernel) (by decide +kernel)
theorem g_stiN {f : Nat → Int32} {k k' : Int32} {l : Int} (h : STI f (k.toInt + 1) l) (hk : k'.toInt = k.toInt + 1) : STI f k'.toInt l := by rw [hk]; exact h
theorem g_sti {f g : Nat → Int32} {k k' x : Int32} {n m : Nat} (h : STI f (k.toInt + 1) x.toInt) (h0 : 0 ≤ k.toInt) (hk : k'.toInt = k.toInt + 1) (hx : 0 ≤ x.toInt) (hm : (m : Int) = x.toInt) (hn : (n : Int) = k.toInt + 2) (e : ∀ j : Nat, j < n → g j = upd f k'.toNatClampNeg x j) : ∀ j : Nat, j < n → 0 ≤ (g j).toInt ∧ (g j).toInt ≤ (m : Int) := by
  have z : STI (upd f k'.toNatClampNeg x) (k'.toInt + 1) x.toInt := sti_set (by rw [hk]; exact h) (by omega) ⟨hx, Int.le_refl _⟩ (Int.le_refl _)
  rw [hm]
  exact sti_at z (by omega) e
theorem dgX4_read_0 : ∀ r ∈ ([(0, (.aload_n 0, 1)), (1, (.getfield 12, 3)), (4, (.aload_n 1, 1)), (5, (.iload_n 2, 1)), (6, (.invokevirtual 32, 3)), (9, (.aload_n 0, 1)), (10, (.iconst 0, 1)), (11, (.putfield 36, 3)), (14, (.aload_n 0, 1)), (15, (.iconst 0, 1)), (16, (.putfield 39, 3)), (19, (.aload_n 0, 1)), (20, (.iconst 0, 1)), (21, (.putfield 42, 3)), (24, (.iconst 0, 1)), (25, (.istore_n 3, 1)), (26, (.iload_n 3, 1)), (27, (.bipush 12, 2)), (29, (.if_icmp .ge 98, 3)), (32, (.aload_n 0, 1)), (33, (.iload_n 3, 1)), (34, (.invokevirtual 45, 3)), (37, (.ifCond .eq 90, 3)), (40, (.aload_n 0, 1)), (41, (.sipush 302, 3)), (44, (.invokevirtual 49, 3)), (47, (.ifCond .eq 62, 3)), (50, (.aload_n 0, 1)), (51, (.iconst (-1), 1)), (52, (.putfield 28, 3)), (55, (.aload_n 0, 1)), (56, (.getfield 22, 3)), (59, (.iload_n 3, 1)), (60, (.iconst 1, 1)), (61, (.iadd, 1)), (62, (.aload_n 0, 1)), (63, (.getfield 36, 3)), (66, (.iastore, 1)), (67, (.new 52, 3)), (70, (.dup, 1))] : List (Nat × (Instr × Nat))), decode cX4_read r.1 = .ok r.2 := by decide +kernel
theorem dX4_read_0 : decode cX4_read 0 = .ok (.aload_n 0, 1) := dgX4_read_0 (0, (.aload_n 0, 1)) (List.mem_of_getElem? (i := 0) rfl)
theorem dX4_read_1 : decode cX4_read 1 = .ok (.getfield 12, 3) := dgX4_read_0 (1, (.getfield 12, 3)) (List.mem_of_getElem? (i := 1) rfl)
theorem dX4_read_4 : decode cX4_read 4 = .ok (.aload_n 1, 1) := dgX4_read_0 (4, (.aload_n 1, 1)) (List.mem_of_getElem? (i := 2) rfl)
theorem dX4_read_5 : decode cX4_read 5 = .ok (.iload_n 2, 1) := dgX4_read_0 (5, (.iload_n 2, 1)) (List.mem_of_getElem? (i := 3) rfl)
theorem dX4_read_6 : decode cX4_read 6 = .ok (.invokevirtual 32, 3) := dgX4_read_0 (6, (.invokevirtual 32, 3)) (List.mem_of_getElem? (i := 4) rfl)
theorem dX4_read_9 : decode cX4_read 9 = .ok (.aload_n 0, 1) := dgX4_read_0 (9, (.aload_n 0, 1)) (List.mem_of_getElem? (i := 5) rfl)
theorem dX4_read_10 : decode cX4_read 10 = .ok (.iconst 0, 1) := dgX4_read_0 (10, (.iconst 0, 1)) (List.mem_of_getElem? (i := 6) rfl)
theorem dX4_read_11 : decode cX4_read 11 = .ok (.putfield 36, 3) := dgX4_read_0 (11, (.putfield 36, 3)) (List.mem_of_getElem? (i := 7) rfl)
theorem dX4_read_14 : decode cX4_read 14 = .ok (.aload_n 0, 1) := dgX4_read_0 (14, (.aload_n 0, 1)) (List.mem_of_getElem? (i := 8) rfl)
theorem dX4_read_15 : decode cX4_read 15 = .ok (.iconst 0, 1) := dgX4_read_0 (15, (.iconst 0, 1)) (List.mem_of_getElem? (i := 9) rfl)
theorem dX4_read_16 : decode cX4_read 16 = .ok (.putfield 39, 3) := dgX4_read_0 (16, (.putfield 39, 3)) (List.mem_of_getElem? (i := 10) rfl)
theorem dX4_read_19 : decode cX4_read 19 = .ok (.aload_n 0, 1) := dgX4_read_0 (19, (.aload_n 0, 1)) (List.mem_of_getElem? (i := 11) rfl)
theorem dX4_read_20 : decode cX4_read 20 = .ok (.iconst 0, 1) := dgX4_read_0 (20, (.iconst 0, 1)) (List.mem_of_getElem? (i := 12) rfl)
theorem dX4_read_21 : decode cX4_read 21 = .ok (.putfield 42, 3) := dgX4_read_0 (21, (.putfield 42, 3)) (List.mem_of_getElem? (i := 13) rfl)
theorem dX4_read_24 : decode cX4_read 24 = .ok (.iconst 0, 1) := dgX4_read_0 (24, (.iconst 0, 1)) (List.mem_of_getElem? (i := 14) rfl)
theorem dX4_read_25 : decode cX4_read 25 = .ok (.istore_n 3, 1) := dgX4_read_0 (25, (.istore_n 3, 1)) (List.mem_of_getElem? (i := 15) rfl)
theorem dX4_read_26 : decode cX4_read 26 = .ok (.iload_n 3, 1) := dgX4_read_0 (26, (.iload_n 3, 1)) (List.mem_of_getElem? (i := 16) rfl)
theorem dX4_read_27 : decode cX4_read 27 = .ok (.bipush 12, 2) := dgX4_read_0 (27, (.bipush 12, 2)) (List.mem_of_getElem? (i := 17) rfl)
theorem dX4_read_29 : decode cX4_read 29 = .ok (.if_icmp .ge 98, 3) := dgX4_read_0 (29, (.if_icmp .ge 98, 3)) (List.mem_of_getElem? (i := 18) rfl)
theorem dX4_read_32 : decode cX4_read 32 = .ok (.aload_n 0, 1) := dgX4_read_0 (32, (.aload_n 0, 1)) (List.mem_of_getElem? (i := 19) rfl)
theorem dX4_read_33 : decode cX4_read 33 = .ok (.iload_n 3, 1) := dgX4_read_0 (33, (.iload_n 3, 1)) (List.mem_of_getElem? (i := 20) rfl)
theorem dX4_read_34 : decode cX4_read 34 = .ok (.invokevirtual 45, 3) := dgX4_read_0 (34, (.invokevirtual 45, 3)) (List.mem_of_getElem? (i := 21) rfl)
theorem dX4_read_37 : decode cX4_read 37 = .ok (.ifCond .eq 90, 3) := dgX4_read_0 (37, (.ifCond .eq 90, 3)) (List.mem_of_getElem? (i := 22) rfl)
theorem dX4_read_40 : decode cX4_read 40 = .ok (.aload_n 0, 1) := dgX4_read_0 (40, (.aload_n 0, 1)) (List.mem_of_getElem? (i := 23) rfl)
theorem dX4_read_41 : decode cX4_read 41 = .ok (.sipush 302, 3) := dgX4_read_0 (41, (.sipush 302, 3)) (List.mem_of_getElem? (i := 24) rfl)
theorem dX4_read_44 : decode cX4_read 44 = .ok (.invokevirtual 49, 3) := dgX4_read_0 (44, (.invokevirtual 49, 3)) (List.mem_of_getElem? (i := 25) rfl)
theorem dX4_read_47 : decode cX4_read 47 = .ok (.ifCond .eq 62, 3) := dgX4_read_0 (47, (.ifCond .eq 62, 3)) (List.mem_of_getElem? (i := 26) rfl)
theorem dX4_read_50 : decode cX4_read 50 = .ok (.aload_n 0, 1) := dgX4_read_0 (50, (.aload_n 0, 1)) (List.mem_of_getElem? (i := 27) rfl)
theorem dX4_read_51 : decode cX4_read 51 = .ok (.iconst (-1), 1) := dgX4_read_0 (51, (.iconst (-1), 1)) (List.mem_of_getElem? (i := 28) rfl)
theorem dX4_read_52 : decode cX4_read 52 = .ok (.putfield 28, 3) := dgX4_read_0 (52, (.putfield 28, 3)) (List.mem_of_getElem? (i := 29) rfl)
theorem dX4_read_55 : decode cX4_read 55 = .ok (.aload_n 0, 1) := dgX4_read_0 (55, (.aload_n 0, 1)) (List.mem_of_getElem? (i := 30) rfl)
theorem dX4_read_56 : decode cX4_read 56 = .ok (.getfield 22, 3) := dgX4_read_0 (56, (.getfield 22, 3)) (List.mem_of_getElem? (i := 31) rfl)
theorem dX4_read_59 : decode cX4_read 59 = .ok (.iload_n 3, 1) := dgX4_read_0 (59, (.iload_n 3, 1)) (List.mem_of_getElem? (i := 32) rfl)
theorem dX4_read_60 : decode cX4_read 60 = .ok (.iconst 1, 1) := dgX4_read_0 (60, (.iconst 1, 1)) (List.mem_of_getElem? (i := 33) rfl)
theorem dX4_read_61 : decode cX4_read 61 = .ok (.iadd, 1) := dgX4_read_0 (61, (.iadd, 1)) (List.mem_of_getElem? (i := 34) rfl)
theorem dX4_read_62 : decode cX4_read 62 = .ok (.aload_n 0, 1) := dgX4_read_0 (62, (.aload_n 0, 1)) (List.mem_of_getElem? (i := 35) rfl)
theorem dX4_read_63 : decode cX4_read 63 = .ok (.getfield 36, 3) := dgX4_read_0 (63, (.getfield 36, 3)) (List.mem_of_getElem? (i := 36) rfl)
theorem dX4_read_66 : decode cX4_read 66 = .ok (.iastore, 1) := dgX4_read_0 (66, (.iastore, 1)) (List.mem_of_getElem? (i := 37) rfl)
theorem dX4_read_67 : decode cX4_read 67 = .ok (.new 52, 3) := dgX4_read_0 (67, (.new 52, 3)) (List.mem_of_getElem? (i := 38) rfl)
theorem dX4_read_70 : decode cX4_read 70 = .ok (.dup, 1) := dgX4_read_0 (70, (.dup, 1)) (List.mem_of_getElem? (i := 39) rfl)
theorem dgX4_read_1 : ∀ r ∈ ([(71, (.iload_n 3, 1)), (72, (.iconst 1, 1)), (73, (.iadd, 1)), (74, (.aload_n 0, 1)), (75, (.getfield 18, 3)), (78, (.iload_n 3, 1)), (79, (.iconst 1, 1)), (80, (.iadd, 1)), (81, (.invokestatic 54, 3)), (84, (.aload_n 0, 1)), (85, (.getfield 22, 3)), (88, (.iload_n 3, 1)), (89, (.iconst 2, 1)), (90, (.iadd, 1)), (91, (.invokestatic 54, 3)), (94, (.aload_n 0, 1)), (95, (.getfield 25, 3)), (98, (.aload_n 0, 1)), (99, (.getfield 36, 3)), (102, (.invokestatic 54, 3)), (105, (.invokespecial 60, 3)), (108, (.areturn, 1)), (109, (.aload_n 0, 1)), (110, (.bipush 59, 2)), (112, (.invokevirtual 63, 3)), (115, (.ifCond .ne 6, 3)), (118, (.goto 9, 3)), (121, (.iinc 3 1, 3)), (124, (.goto (-98), 3)), (127, (.aload_n 0, 1)), (128, (.aload_n 0, 1)), (129, (.getfield 42, 3)), (132, (.aload_n 0, 1)), (133, (.getfield 12, 3)), (136, (.getfield 66, 3)), (139, (.arraylength, 1)), (140, (.if_icmp .ge 18, 3)), (143, (.aload_n 0, 1)), (144, (.getfield 12, 3)), (147, (.getfield 66, 3))] : List (Nat × (Instr × Nat))), decode cX4_read r.1 = .ok r.2 := by decide +kernel
theorem dX4_read_71 : decode cX4_read 71 = .ok (.iload_n 3, 1) := dgX4_read_1 (71, (.iload_n 3, 1)) (List.mem_of_getElem? (i := 0) rfl)
theorem dX4_read_72 : decode cX4_read 72 = .ok (.iconst 1, 1) := dgX4_read_1 (72, (.iconst 1, 1)) (List.mem_of_getElem? (i := 1) rfl)
theorem dX4_read_73 : decode cX4_read 73 = .ok (.iadd, 1) := dgX4_read_1 (73, (.iadd, 1)) (List.mem_of_getElem? (i := 2) rfl)
theorem dX4_read_74 : decode cX4_read 74 = .ok (.aload_n 0, 1) := dgX4_read_1 (74, (.aload_n 0, 1)) (List.mem_of_getElem? (i := 3) rfl)
theorem dX4_read_75 : decode cX4_read 75 = .ok (.getfield 18, 3) := dgX4_read_1 (75, (.getfield 18, 3)) (List.mem_of_getElem? (i := 4) rfl)
theorem dX4_read_78 : decode cX4_read 78 = .ok (.iload_n 3, 1) := dgX4_read_1 (78, (.iload_n 3, 1)) (List.mem_of_getElem? (i := 5) rfl)
theorem dX4_read_79 : decode cX4_read 79 = .ok (.iconst 1, 1) := dgX4_read_1 (79, (.iconst 1, 1)) (List.mem_of_getElem? (i := 6) rfl)
theorem dX4_read_80 : decode cX4_read 80 = .ok (.iadd, 1) := dgX4_read_1 (80, (.iadd, 1)) (List.mem_of_getElem? (i := 7) rfl)
theorem dX4_read_81 : decode cX4_read 81 = .ok (.invokestatic 54, 3) := dgX4_read_1 (81, (.invokestatic 54, 3)) (List.mem_of_getElem? (i := 8) rfl)
theorem dX4_read_84 : decode cX4_read 84 = .ok (.aload_n 0, 1) := dgX4_read_1 (84, (.aload_n 0, 1)) (List.mem_of_getElem? (i := 9) rfl)
theorem dX4_read_85 : decode cX4_read 85 = .ok (.getfield 22, 3) := dgX4_read_1 (85, (.getfield 22, 3)) (List.mem_of_getElem? (i := 10) rfl)
theorem dX4_read_88 : decode cX4_read 88 = .ok (.iload_n 3, 1) := dgX4_read_1 (88, (.iload_n 3, 1)) (List.mem_of_getElem? (i := 11) rfl)
theorem dX4_read_89 : decode cX4_read 89 = .ok (.iconst 2, 1) := dgX4_read_1 (89, (.iconst 2, 1)) (List.mem_of_getElem? (i := 12) rfl)
theorem dX4_read_90 : decode cX4_read 90 = .ok (.iadd, 1) := dgX4_read_1 (90, (.iadd, 1)) (List.mem_of_getElem? (i := 13) rfl)
theorem dX4_read_91 : decode cX4_read 91 = .ok (.invokestatic 54, 3) := dgX4_read_1 (91, (.invokestatic 54, 3)) (List.mem_of_getElem? (i := 14) rfl)
theorem dX4_read_94 : decode cX4_read 94 = .ok (.aload_n 0, 1) := dgX4_read_1 (94, (.aload_n 0, 1)) (List.mem_of_getElem? (i := 15) rfl)
theorem dX4_read_95 : decode cX4_read 95 = .ok (.getfield 25, 3) := dgX4_read_1 (95, (.getfield 25, 3)) (List.mem_of_getElem? (i := 16) rfl)
theorem dX4_read_98 : decode cX4_read 98 = .ok (.aload_n 0, 1) := dgX4_read_1 (98, (.aload_n 0, 1)) (List.mem_of_getElem? (i := 17) rfl)
theorem dX4_read_99 : decode cX4_read 99 = .ok (.getfield 36, 3) := dgX4_read_1 (99, (.getfield 36, 3)) (List.mem_of_getElem? (i := 18) rfl)
theorem dX4_read_102 : decode cX4_read 102 = .ok (.invokestatic 54, 3) := dgX4_read_1 (102, (.invokestatic 54, 3)) (List.mem_of_getElem? (i := 19) rfl)
theorem dX4_read_105 : decode cX4_read 105 = .ok (.invokespecial 60, 3) := dgX4_read_1 (105, (.invokespecial 60, 3)) (List.mem_of_getElem? (i := 20) rfl)
theorem dX4_read_108 : decode cX4_read 108 = .ok (.areturn, 1) := dgX4_read_1 (108, (.areturn, 1)) (List.mem_of_getElem? (i := 21) rfl)
theorem dX4_read_109 : decode cX4_read 109 = .ok (.aload_n 0, 1) := dgX4_read_1 (109, (.aload_n 0, 1)) (List.mem_of_getElem? (i := 22) rfl)
theorem dX4_read_110 : decode cX4_read 110 = .ok (.bipush 59, 2) := dgX4_read_1 (110, (.bipush 59, 2)) (List.mem_of_getElem? (i := 23) rfl)
theorem dX4_read_112 : decode cX4_read 112 = .ok (.invokevirtual 63, 3) := dgX4_read_1 (112, (.invokevirtual 63, 3)) (List.mem_of_getElem? (i := 24) rfl)
theorem dX4_read_115 : decode cX4_read 115 = .ok (.ifCond .ne 6, 3) := dgX4_read_1 (115, (.ifCond .ne 6, 3)) (List.mem_of_getElem? (i := 25) rfl)
theorem dX4_read_118 : decode cX4_read 118 = .ok (.goto 9, 3) := dgX4_read_1 (118, (.goto 9, 3)) (List.mem_of_getElem? (i := 26) rfl)
theorem dX4_read_121 : decode cX4_read 121 = .ok (.iinc 3 1, 3) := dgX4_read_1 (121, (.iinc 3 1, 3)) (List.mem_of_getElem? (i := 27) rfl)
theorem dX4_read_124 : decode cX4_read 124 = .ok (.goto (-98), 3) := dgX4_read_1 (124, (.goto (-98), 3)) (List.mem_of_getElem? (i := 28) rfl)
theorem dX4_read_127 : decode cX4_read 127 = .ok (.aload_n 0, 1) := dgX4_read_1 (127, (.aload_n 0, 1)) (List.mem_of_getElem? (i := 29) rfl)
theorem dX4_read_128 : decode cX4_read 128 = .ok (.aload_n 0, 1) := dgX4_read_1 (128, (.aload_n 0, 1)) (List.mem_of_getElem? (i := 30) rfl)
theorem dX4_read_129 : decode cX4_read 129 = .ok (.getfield 42, 3) := dgX4_read_1 (129, (.getfield 42, 3)) (List.mem_of_getElem? (i := 31) rfl)
theorem dX4_read_132 : decode cX4_read 132 = .ok (.aload_n 0, 1) := dgX4_read_1 (132, (.aload_n 0, 1)) (List.mem_of_getElem? (i := 32) rfl)
theorem dX4_read_133 : decode cX4_read 133 = .ok (.getfield 12, 3) := dgX4_read_1 (133, (.getfield 12, 3)) (List.mem_of_getElem? (i := 33) rfl)
theorem dX4_read_136 : decode cX4_read 136 = .ok (.getfield 66, 3) := dgX4_read_1 (136, (.getfield 66, 3)) (List.mem_of_getElem? (i := 34) rfl)
theorem dX4_read_139 : decode cX4_read 139 = .ok (.arraylength, 1) := dgX4_read_1 (139, (.arraylength, 1)) (List.mem_of_getElem? (i := 35) rfl)
theorem dX4_read_140 : decode cX4_read 140 = .ok (.if_icmp .ge 18, 3) := dgX4_read_1 (140, (.if_icmp .ge 18, 3)) (List.mem_of_getElem? (i := 36) rfl)
theorem dX4_read_143 : decode cX4_read 143 = .ok (.aload_n 0, 1) := dgX4_read_1 (143, (.aload_n 0, 1)) (List.mem_of_getElem? (i := 37) rfl)
theorem dX4_read_144 : decode cX4_read 144 = .ok (.getfield 12, 3) := dgX4_read_1 (144, (.getfield 12, 3)) (List.mem_of_getElem? (i := 38) rfl)
theorem dX4_read_147 : decode cX4_read 147 = .ok (.getfield 66, 3) := dgX4_read_1 (147, (.getfield 66, 3)) (List.mem_of_getElem? (i := 39) rfl)
theorem dgX4_read_2 : ∀ r ∈ ([(150, (.aload_n 0, 1)), (151, (.getfield 42, 3)), (154, (.iaload, 1)), (155, (.goto 4, 3)), (158, (.iload_n 2, 1)), (159, (.putfield 28, 3)), (162, (.aconst_null, 1)), (163, (.areturn, 1))] : List (Nat × (Instr × Nat))), decode cX4_read r.1 = .ok r.2 := by decide +kernel
theorem dX4_read_150 : decode cX4_read 150 = .ok (.aload_n 0, 1) := dgX4_read_2 (150, (.aload_n 0, 1)) (List.mem_of_getElem? (i := 0) rfl)
theorem dX4_read_151 : decode cX4_read 151 = .ok (.getfield 42, 3) := dgX4_read_2 (151, (.getfield 42, 3)) (List.mem_of_getElem? (i := 1) rfl)
theorem dX4_read_154 : decode cX4_read 154 = .ok (.iaload, 1) := dgX4_read_2 (154, (.iaload, 1)) (List.mem_of_getElem? (i := 2) rfl)
theorem dX4_read_155 : decode cX4_read 155 = .ok (.goto 4, 3) := dgX4_read_2 (155, (.goto 4, 3)) (List.mem_of_getElem? (i := 3) rfl)
theorem dX4_read_159 : decode cX4_read 159 = .ok (.putfield 28, 3) := dgX4_read_2 (159, (.putfield 28, 3)) (List.mem_of_getElem? (i := 5) rfl)
theorem dX4_read_162 : decode cX4_read 162 = .ok (.aconst_null, 1) := dgX4_read_2 (162, (.aconst_null, 1)) (List.mem_of_getElem? (i := 6) rfl)
theorem dX4_read_163 : decode cX4_read 163 = .ok (.areturn, 1) := dgX4_read_2 (163, (.areturn, 1)) (List.mem_of_getElem? (i := 7) rfl)
theorem ml_X4_32 : Cond.methodLink RX4 32 yX8_cut ∈ tblG := tg 645 (by decide +kernel) (by decide +kernel)
theorem im_X8_cut : Cond.instanceMethod yX8_cut ∈ tblG := tg 646 (by decide +kernel) (by decide +kernel)
theorem se_X8_cut : Cond.selects RX8 yX8_cut yX8_cut ∈ tblG := tg 647 (by decide +kernel) (by decide +kernel)
theorem cd_X8_cut : Cond.code yX8_cut cX8_cut 7 none ∈ tblG := tg 648 (by decide +kernel) (by decide +kernel)
theorem gW_X8_cut : GoodIn tblG (wsG yX8_cut cX8_cut 7 none) := tgi cd_X8_cut
theorem gV_X4_32 : GoodIn tblG (wsV RX4 32 RX8 yX8_cut (wsG yX8_cut cX8_cut 7 none)) := tgV ml_X4_32 im_X8_cut se_X8_cut ini_X8 gW_X8_cut
theorem hv_X8_cut : yX8_cut.cls = RX8 ∧ yX8_cut.cls ≠ "java/lang/invoke/MethodHandle" ∧ yX8_cut.cls ≠ "java/lang/invoke/VarHandle" ∧ (parseMethodDescriptor yX8_cut.desc).map (fun d => d.parameters.length) = some 2 := by decide +kernel
theorem fl_X4_66 : Cond.fieldLink RX4 66 "LateGlass$Tokens" "places" "[I" ∈ tblG := tg 410 (by decide +kernel) (by decide +kernel)
theorem fl_X4_28 : Cond.fieldLink RX4 28 "LateGlass$LawReader" "faultPlace" "I" ∈ tblG := tg 425 (by decide +kernel) (by decide +kernel)
theorem ml_X4_45 : Cond.methodLink RX4 45 yX4_readClause ∈ tblG := tg 716 (by decide +kernel) (by decide +kernel)
theorem im_X4_readClause : Cond.instanceMethod yX4_readClause ∈ tblG := tg 718 (by decide +kernel) (by decide +kernel)
theorem se_X4_readClause : Cond.selects RX4 yX4_readClause yX4_readClause ∈ tblG := tg 4 (by decide +kernel) (by decide +kernel)
theorem cd_X4_readClause : Cond.code yX4_readClause cX4_readClause 3 (some .boolean) ∈ tblG := tg 719 (by decide +kernel) (by decide +kernel)
theorem gW_X4_readClause : GoodIn tblG (wsG yX4_readClause cX4_readClause 3 (some .boolean)) := tgi cd_X4_readClause
theorem gV_X4_45 : GoodIn tblG (wsV RX4 45 RX4 yX4_readClause (wsG yX4_readClause cX4_readClause 3 (some .boolean))) := tgV ml_X4_45 im_X4_readClause se_X4_readClause ini_X4 gW_X4_readClause
theorem hv_X4_readClause : yX4_readClause.cls = RX4 ∧ yX4_readClause.cls ≠ "java/lang/invoke/MethodHandle" ∧ yX4_readClause.cls ≠ "java/lang/invoke/VarHandle" ∧ (parseMethodDescriptor yX4_readClause.desc).map (fun d => d.parameters.length) = some 1 := by decide +kernel
theorem cl_X4_52 : Cond.classLink RX4 52 RX3 ∈ tblG := tg 756 (by decide +kernel) (by decide +kernel)
theorem isn_X3 : Cond.instantiable RX3 4 ∈ tblG := tg 757 (by decide +kernel) (by decide +kernel)
theorem ini_X3 : Cond.initialized RX3 ∈ tblG := tg 104 (by decide +kernel) (by decide +kernel)
theorem ml_X4_54 : Cond.methodLink RX4 54 yJ7_copyOf_59c91 ∈ tblG := tg 758 (by decide +kernel) (by decide +kernel)
theorem st_J7_copyOf_59c91 : Cond.static yJ7_copyOf_59c91 ∈ tblG := tg 759 (by decide +kernel) (by decide +kernel)
theorem cd_J7_copyOf_59c91 : Cond.code yJ7_copyOf_59c91 cJ7_copyOf_59c91 3 (some (.array .int)) ∈ tblG := tg 760 (by decide +kernel) (by decide +kernel)
theorem gW_J7_copyOf_59c91 : GoodIn tblG (wsG yJ7_copyOf_59c91 cJ7_copyOf_59c91 3 (some (.array .int))) := tgi cd_J7_copyOf_59c91
theorem gS_X4_54 : GoodIn tblG (va_wsS RX4 54 yJ7_copyOf_59c91 (wsG yJ7_copyOf_59c91 cJ7_copyOf_59c91 3 (some (.array .int)))) := tgS ml_X4_54 st_J7_copyOf_59c91 ini_J7 gW_J7_copyOf_59c91
theorem hs_J7_copyOf_59c91 : yJ7_copyOf_59c91.cls ≠ "java/lang/invoke/MethodHandle" ∧ yJ7_copyOf_59c91.cls ≠ "java/lang/invoke/VarHandle" ∧ (parseMethodDescriptor yJ7_copyOf_59c91.desc).map (fun d => d.parameters.length) = some 2 := by decide +kernel
theorem oi_X3_1 : Cond.methodLink RX3 1 objectInit ∈ tblG := tg 777 (by decide +kernel) (by decide +kernel)
theorem oi_im : Cond.instanceMethod objectInit ∈ tblG := tg 117 (by decide +kernel) (by decide +kernel)
theorem oi_cd : Cond.code objectInit ⟨#[0xb1]⟩ 1 none ∈ tblG := tg 118 (by decide +kernel) (by decide +kernel)
theorem fl_X3_7 : Cond.fieldLink RX3 7 "LateGlass$Law" "clauses" "I" ∈ tblG := tg 778 (by decide +kernel) (by decide +kernel)
theorem fl_X3_13 : Cond.fieldLink RX3 13 "LateGlass$Law" "heads" "[I" ∈ tblG := tg 780 (by decide +kernel) (by decide +kernel)
theorem fl_X3_17 : Cond.fieldLink RX3 17 "LateGlass$Law" "starts" "[I" ∈ tblG := tg 782 (by decide +kernel) (by decide +kernel)
theorem fl_X3_20 : Cond.fieldLink RX3 20 "LateGlass$Law" "code" "[I" ∈ tblG := tg 784 (by decide +kernel) (by decide +kernel)
theorem dgX3_init_0 : ∀ r ∈ ([(0, (.aload_n 0, 1)), (1, (.invokespecial 1, 3)), (4, (.aload_n 0, 1)), (5, (.iload_n 1, 1)), (6, (.putfield 7, 3)), (9, (.aload_n 0, 1)), (10, (.aload_n 2, 1)), (11, (.putfield 13, 3)), (14, (.aload_n 0, 1)), (15, (.aload_n 3, 1)), (16, (.putfield 17, 3)), (19, (.aload_n 0, 1)), (20, (.aload 4, 2)), (22, (.putfield 20, 3)), (25, (.return_, 1))] : List (Nat × (Instr × Nat))), decode cX3_init r.1 = .ok r.2 := by decide +kernel
theorem dX3_init_0 : decode cX3_init 0 = .ok (.aload_n 0, 1) := dgX3_init_0 (0, (.aload_n 0, 1)) (List.mem_of_getElem? (i := 0) rfl)
theorem dX3_init_1 : decode cX3_init 1 = .ok (.invokespecial 1, 3) := dgX3_init_0 (1, (.invokespecial 1, 3)) (List.mem_of_getElem? (i := 1) rfl)
theorem dX3_init_4 : decode cX3_init 4 = .ok (.aload_n 0, 1) := dgX3_init_0 (4, (.aload_n 0, 1)) (List.mem_of_getElem? (i := 2) rfl)
theorem dX3_init_5 : decode cX3_init 5 = .ok (.iload_n 1, 1) := dgX3_init_0 (5, (.iload_n 1, 1)) (List.mem_of_getElem? (i := 3) rfl)
theorem dX3_init_6 : decode cX3_init 6 = .ok (.putfield 7, 3) := dgX3_init_0 (6, (.putfield 7, 3)) (List.mem_of_getElem? (i := 4) rfl)
theorem dX3_init_9 : decode cX3_init 9 = .ok (.aload_n 0, 1) := dgX3_init_0 (9, (.aload_n 0, 1)) (List.mem_of_getElem? (i := 5) rfl)
theorem dX3_init_10 : decode cX3_init 10 = .ok (.aload_n 2, 1) := dgX3_init_0 (10, (.aload_n 2, 1)) (List.mem_of_getElem? (i := 6) rfl)
theorem dX3_init_11 : decode cX3_init 11 = .ok (.putfield 13, 3) := dgX3_init_0 (11, (.putfield 13, 3)) (List.mem_of_getElem? (i := 7) rfl)
theorem dX3_init_14 : decode cX3_init 14 = .ok (.aload_n 0, 1) := dgX3_init_0 (14, (.aload_n 0, 1)) (List.mem_of_getElem? (i := 8) rfl)
theorem dX3_init_15 : decode cX3_init 15 = .ok (.aload_n 3, 1) := dgX3_init_0 (15, (.aload_n 3, 1)) (List.mem_of_getElem? (i := 9) rfl)
theorem dX3_init_16 : decode cX3_init 16 = .ok (.putfield 17, 3) := dgX3_init_0 (16, (.putfield 17, 3)) (List.mem_of_getElem? (i := 10) rfl)
theorem dX3_init_19 : decode cX3_init 19 = .ok (.aload_n 0, 1) := dgX3_init_0 (19, (.aload_n 0, 1)) (List.mem_of_getElem? (i := 11) rfl)
theorem dX3_init_20 : decode cX3_init 20 = .ok (.aload 4, 2) := dgX3_init_0 (20, (.aload 4, 2)) (List.mem_of_getElem? (i := 12) rfl)
theorem dX3_init_22 : decode cX3_init 22 = .ok (.putfield 20, 3) := dgX3_init_0 (22, (.putfield 20, 3)) (List.mem_of_getElem? (i := 13) rfl)
theorem dX3_init_25 : decode cX3_init 25 = .ok (.return_, 1) := dgX3_init_0 (25, (.return_, 1)) (List.mem_of_getElem? (i := 14) rfl)
set_option maxHeartbeats 4000000 in
set_option maxRecDepth 100000 in
theorem kX3_init (l : Launch) (G : g5_G) (a0 a1 a2 a3 : Nat) (sz : Nat) (n0 : Int32) (h_n0 : 1 ≤ n0.toInt ∧ n0.toInt ≤ 12) : Met l yX3_init (wsG yX3_init cX3_init 5 none) ({ frames := 1, cells := 0, slots := 0, locals := 12 }) (va_Pc [.ref a0, .int n0, .ref a1, .ref a2, .ref a3] (g5_P G [(a0, .inr (3, [.int 0, .null, .null, .null]))] sz)) (va_Qv (fun (u : va_W) => ((u = [(a0, (oc3 n0 a1 a2 a3))]))) (g5_B G (va_A [(a0, .inr (3, [.int 0, .null, .null, .null]))] sz)) (va_A [(a0, .inr (3, [.int 0, .null, .null, .null]))] sz)) 0 0 (va_A [(a0, .inr (3, [.int 0, .null, .null, .null]))] sz) := by
  refine Met.ofW (cc := cX3_init) (maxL := 5) (ret := none) (by decide +kernel) rfl ?_
  intro p e s m args below meth c s₁ B hml hv
  obtain ⟨rfl, hsz, hP, hK, hD0, hN, hT⟩ := hv
  have hx := B.exec
  have hb := B.bytes
  have hr := B.returns
  have hts : ∀ w ∈ tblG, w.before _ s = true := fun w h => atoms_spec (ws := (wsG yX3_init cX3_init 5 none)) B.pre w (List.mem_cons_of_mem _ h)
  have hown : s.vm.findClass RX3 = some m.cls := findClass_of_methodNamed B.named
  have hlocks := B.notSynchronized
  have hin : meth.name = "<init>" := (name_of_methodNamed B.named B.method).1
  subst hsz
  have hD := hD0.self (sz := s.heap.size)
  generalize hAe : va_A [(a0, .inr (3, [.int 0, .null, .null, .null]))] s.heap.size = A at hD hT ⊢
  have hA : ∀ q : Nat, s.heap.size ≤ q → A q := fun q h => by rw [← hAe]; exact Or.inr h
  have hS : va_S A s.heap s.heap [] := va_S.rf
  replace hP : va_P G.1 vwCl [(a0, .inr (3, [.int 0, .null, .null, .null]))] s.heap := hP
  have hl := lv_entry ([.ref a0, .int n0, .ref a1, .ref a2, .ref a3]) (n := 5) (Nat.le_of_ble_eq_true rfl)
  rw [lg_entry_eq]
  generalize (lg_sl ([.ref a0, .int n0, .ref a1, .ref a2, .ref a3]) ++ List.replicate (5 - (lg_sl ([.ref a0, .int n0, .ref a1, .ref a2, .ref a3])).length) Slot.unset).toArray = ls at hl ⊢
  replace hl : lv_has ls 5 [(0, .ref a0), (1, .int n0), (2, .ref a1), (3, .ref a2), (4, .ref a3)] := hl
  refine lv_aload_n hx hb dX3_init_0 rfl (lv_at hl 0 rfl) ?_
  refine W.objInit hx hb hown (hts _ oi_X3_1) (hts _ oi_im) (hts _ oi_cd) rfl (by rw [hml]; exact hl.1) rfl dX3_init_1 (Nat.le_of_ble_eq_true rfl) (Nat.le_of_ble_eq_true rfl) ?_
  refine W.eq (g2 := F0 m 4 ls []) rfl ?_
  refine lv_aload_n hx hb dX3_init_4 rfl (lv_at hl 0 rfl) ?_
  refine lv_iload_n hx hb dX3_init_5 rfl (lv_at hl 1 rfl) ?_
  refine W.eq (g2 := F0 m 6 ls [.int n0, .ref a0]) rfl ?_
  refine va_putF (D := G.1) (ci := 3) (v := .int n0) (ty := .int) (C := RX3) (T := TX3) (N := 4) hx hb hts inG_X3 tyX3 tyX3_ok nmX3 hown hK hP hD hS 0 rfl rfl 0 (by decide +kernel) (hts _ fl_X3_7) (fun _ h9 => h9) rfl hin rfl (by decide +kernel) rfl rfl (Nat.le_of_ble_eq_true rfl) dX3_init_6 ?_
  clear hP hD hS
  intro H locs hP hD hS
  refine g5_rs [(a0, .inr (3, [.int n0, .null, .null, .null]))] hP hD ?_
  clear hP hD
  intro hP hD
  refine lv_aload_n hx hb dX3_init_9 rfl (lv_at hl 0 rfl) ?_
  refine lv_aload_n hx hb dX3_init_10 rfl (lv_at hl 2 rfl) ?_
  refine va_putF (D := G.1) (ci := 3) (v := .ref a1) (ty := .array .int) (C := RX3) (T := TX3) (N := 4) hx hb hts inG_X3 tyX3 tyX3_ok nmX3 hown hK hP hD hS 0 rfl rfl 1 (by decide +kernel) (hts _ fl_X3_13) (fun _ h9 => h9) rfl hin rfl (by decide +kernel) rfl rfl (Nat.le_of_ble_eq_true rfl) dX3_init_11 ?_
  clear hP hD hS
  intro H locs hP hD hS
  refine g5_rs [(a0, .inr (3, [.int n0, .ref a1, .null, .null]))] hP hD ?_
  clear hP hD
  intro hP hD
  refine lv_aload_n hx hb dX3_init_14 rfl (lv_at hl 0 rfl) ?_
  refine W.eq (g2 := F0 m 15 ls [.ref a0]) rfl ?_
  refine lv_aload_n hx hb dX3_init_15 rfl (lv_at hl 3 rfl) ?_
  refine va_putF (D := G.1) (ci := 3) (v := .ref a2) (ty := .array .int) (C := RX3) (T := TX3) (N := 4) hx hb hts inG_X3 tyX3 tyX3_ok nmX3 hown hK hP hD hS 0 rfl rfl 2 (by decide +kernel) (hts _ fl_X3_17) (fun _ h9 => h9) rfl hin rfl (by decide +kernel) rfl rfl (Nat.le_of_ble_eq_true rfl) dX3_init_16 ?_
  clear hP hD hS
  intro H locs hP hD hS
  refine g5_rs [(a0, .inr (3, [.int n0, .ref a1, .ref a2, .null]))] hP hD ?_
  clear hP hD
  intro hP hD
  refine lv_aload_n hx hb dX3_init_19 rfl (lv_at hl 0 rfl) ?_
  refine lv_aload hx hb dX3_init_20 (lv_at hl 4 rfl) ?_
  refine va_putF (D := G.1) (ci := 3) (v := .ref a3) (ty := .array .int) (C := RX3) (T := TX3) (N := 4) hx hb hts inG_X3 tyX3 tyX3_ok nmX3 hown hK hP hD hS 0 rfl rfl 3 (by decide +kernel) (hts _ fl_X3_20) (fun _ h9 => h9) rfl hin rfl (by decide +kernel) rfl rfl (Nat.le_of_ble_eq_true rfl) dX3_init_22 ?_
  clear hP hD hS
  intro H locs hP hD hS
  refine g5_rs [(a0, (oc3 n0 a1 a2 a3))] hP hD ?_
  clear hP hD
  intro hP hD
  refine W.eq (g2 := F0 m 25 ls []) rfl ?_
  exact W.vret hx hb hr (fun t ht hW => ⟨⟨[(a0, (oc3 n0 a1 a2 a3))], rfl, rfl, by rw [ht]; exact hP, hD⟩, hS.F ht⟩) hS.2.2 dX3_init_25
theorem cd_X3_init : Cond.code yX3_init cX3_init 5 none ∈ tblG := tg 776 (by decide +kernel) (by decide +kernel)
theorem gW_X3_init : GoodIn tblG (wsG yX3_init cX3_init 5 none) := tgi cd_X3_init
theorem ml_X4_60 : Cond.methodLink RX4 60 yX3_init ∈ tblG := tg 774 (by decide +kernel) (by decide +kernel)
theorem im_X3_init : Cond.instanceMethod yX3_init ∈ tblG := tg 775 (by decide +kernel) (by decide +kernel)
theorem hs_X3_init : yX3_init.cls ≠ "java/lang/invoke/MethodHandle" ∧ yX3_init.cls ≠ "java/lang/invoke/VarHandle" ∧ (parseMethodDescriptor yX3_init.desc).map (fun d => d.parameters.length) = some 4 := by decide +kernel
theorem dgX1_copyFrom_0 : ∀ r ∈ ([(0, (.aload_n 0, 1)), (1, (.aload_n 1, 1)), (2, (.getfield 9, 3)), (5, (.putfield 9, 3)), (8, (.aload_n 0, 1)), (9, (.aload_n 1, 1)), (10, (.getfield 15, 3)), (13, (.putfield 15, 3)), (16, (.aload_n 0, 1)), (17, (.aload_n 1, 1)), (18, (.getfield 19, 3)), (21, (.putfield 19, 3)), (24, (.aload_n 0, 1)), (25, (.aload_n 1, 1)), (26, (.getfield 22, 3)), (29, (.putfield 22, 3)), (32, (.aload_n 0, 1)), (33, (.aload_n 1, 1)), (34, (.getfield 25, 3)), (37, (.putfield 25, 3)), (40, (.iconst 0, 1)), (41, (.istore_n 2, 1)), (42, (.iload_n 2, 1)), (43, (.bipush 6, 2)), (45, (.if_icmp .ge 21, 3)), (48, (.aload_n 0, 1)), (49, (.getfield 30, 3)), (52, (.iload_n 2, 1)), (53, (.aload_n 1, 1)), (54, (.getfield 30, 3)), (57, (.iload_n 2, 1)), (58, (.aaload, 1)), (59, (.aastore, 1)), (60, (.iinc 2 1, 3)), (63, (.goto (-21), 3)), (66, (.aload_n 0, 1)), (67, (.getfield 39, 3)), (70, (.aload_n 1, 1)), (71, (.getfield 39, 3)), (74, (.invokevirtual 80, 3))] : List (Nat × (Instr × Nat))), decode cX1_copyFrom r.1 = .ok r.2 := by decide +kernel
theorem dX1_copyFrom_0 : decode cX1_copyFrom 0 = .ok (.aload_n 0, 1) := dgX1_copyFrom_0 (0, (.aload_n 0, 1)) (List.mem_of_getElem? (i := 0) rfl)
theorem dX1_copyFrom_1 : decode cX1_copyFrom 1 = .ok (.aload_n 1, 1) := dgX1_copyFrom_0 (1, (.aload_n 1, 1)) (List.mem_of_getElem? (i := 1) rfl)
theorem dX1_copyFrom_2 : decode cX1_copyFrom 2 = .ok (.getfield 9, 3) := dgX1_copyFrom_0 (2, (.getfield 9, 3)) (List.mem_of_getElem? (i := 2) rfl)
theorem dX1_copyFrom_5 : decode cX1_copyFrom 5 = .ok (.putfield 9, 3) := dgX1_copyFrom_0 (5, (.putfield 9, 3)) (List.mem_of_getElem? (i := 3) rfl)
theorem dX1_copyFrom_8 : decode cX1_copyFrom 8 = .ok (.aload_n 0, 1) := dgX1_copyFrom_0 (8, (.aload_n 0, 1)) (List.mem_of_getElem? (i := 4) rfl)
theorem dX1_copyFrom_9 : decode cX1_copyFrom 9 = .ok (.aload_n 1, 1) := dgX1_copyFrom_0 (9, (.aload_n 1, 1)) (List.mem_of_getElem? (i := 5) rfl)
theorem dX1_copyFrom_10 : decode cX1_copyFrom 10 = .ok (.getfield 15, 3) := dgX1_copyFrom_0 (10, (.getfield 15, 3)) (List.mem_of_getElem? (i := 6) rfl)
theorem dX1_copyFrom_13 : decode cX1_copyFrom 13 = .ok (.putfield 15, 3) := dgX1_copyFrom_0 (13, (.putfield 15, 3)) (List.mem_of_getElem? (i := 7) rfl)
theorem dX1_copyFrom_16 : decode cX1_copyFrom 16 = .ok (.aload_n 0, 1) := dgX1_copyFrom_0 (16, (.aload_n 0, 1)) (List.mem_of_getElem? (i := 8) rfl)
theorem dX1_copyFrom_17 : decode cX1_copyFrom 17 = .ok (.aload_n 1, 1) := dgX1_copyFrom_0 (17, (.aload_n 1, 1)) (List.mem_of_getElem? (i := 9) rfl)
theorem dX1_copyFrom_18 : decode cX1_copyFrom 18 = .ok (.getfield 19, 3) := dgX1_copyFrom_0 (18, (.getfield 19, 3)) (List.mem_of_getElem? (i := 10) rfl)
theorem dX1_copyFrom_21 : decode cX1_copyFrom 21 = .ok (.putfield 19, 3) := dgX1_copyFrom_0 (21, (.putfield 19, 3)) (List.mem_of_getElem? (i := 11) rfl)
theorem dX1_copyFrom_24 : decode cX1_copyFrom 24 = .ok (.aload_n 0, 1) := dgX1_copyFrom_0 (24, (.aload_n 0, 1)) (List.mem_of_getElem? (i := 12) rfl)
theorem dX1_copyFrom_25 : decode cX1_copyFrom 25 = .ok (.aload_n 1, 1) := dgX1_copyFrom_0 (25, (.aload_n 1, 1)) (List.mem_of_getElem? (i := 13) rfl)
theorem dX1_copyFrom_26 : decode cX1_copyFrom 26 = .ok (.getfield 22, 3) := dgX1_copyFrom_0 (26, (.getfield 22, 3)) (List.mem_of_getElem? (i := 14) rfl)
theorem dX1_copyFrom_29 : decode cX1_copyFrom 29 = .ok (.putfield 22, 3) := dgX1_copyFrom_0 (29, (.putfield 22, 3)) (List.mem_of_getElem? (i := 15) rfl)
theorem dX1_copyFrom_32 : decode cX1_copyFrom 32 = .ok (.aload_n 0, 1) := dgX1_copyFrom_0 (32, (.aload_n 0, 1)) (List.mem_of_getElem? (i := 16) rfl)
theorem dX1_copyFrom_33 : decode cX1_copyFrom 33 = .ok (.aload_n 1, 1) := dgX1_copyFrom_0 (33, (.aload_n 1, 1)) (List.mem_of_getElem? (i := 17) rfl)
theorem dX1_copyFrom_34 : decode cX1_copyFrom 34 = .ok (.getfield 25, 3) := dgX1_copyFrom_0 (34, (.getfield 25, 3)) (List.mem_of_getElem? (i := 18) rfl)
theorem dX1_copyFrom_37 : decode cX1_copyFrom 37 = .ok (.putfield 25, 3) := dgX1_copyFrom_0 (37, (.putfield 25, 3)) (List.mem_of_getElem? (i := 19) rfl)
theorem dX1_copyFrom_40 : decode cX1_copyFrom 40 = .ok (.iconst 0, 1) := dgX1_copyFrom_0 (40, (.iconst 0, 1)) (List.mem_of_getElem? (i := 20) rfl)
theorem dX1_copyFrom_41 : decode cX1_copyFrom 41 = .ok (.istore_n 2, 1) := dgX1_copyFrom_0 (41, (.istore_n 2, 1)) (List.mem_of_getElem? (i := 21) rfl)
theorem dX1_copyFrom_42 : decode cX1_copyFrom 42 = .ok (.iload_n 2, 1) := dgX1_copyFrom_0 (42, (.iload_n 2, 1)) (List.mem_of_getElem? (i := 22) rfl)
theorem dX1_copyFrom_43 : decode cX1_copyFrom 43 = .ok (.bipush 6, 2) := dgX1_copyFrom_0 (43, (.bipush 6, 2)) (List.mem_of_getElem? (i := 23) rfl)
theorem dX1_copyFrom_45 : decode cX1_copyFrom 45 = .ok (.if_icmp .ge 21, 3) := dgX1_copyFrom_0 (45, (.if_icmp .ge 21, 3)) (List.mem_of_getElem? (i := 24) rfl)
theorem dX1_copyFrom_48 : decode cX1_copyFrom 48 = .ok (.aload_n 0, 1) := dgX1_copyFrom_0 (48, (.aload_n 0, 1)) (List.mem_of_getElem? (i := 25) rfl)
theorem dX1_copyFrom_49 : decode cX1_copyFrom 49 = .ok (.getfield 30, 3) := dgX1_copyFrom_0 (49, (.getfield 30, 3)) (List.mem_of_getElem? (i := 26) rfl)
theorem dX1_copyFrom_52 : decode cX1_copyFrom 52 = .ok (.iload_n 2, 1) := dgX1_copyFrom_0 (52, (.iload_n 2, 1)) (List.mem_of_getElem? (i := 27) rfl)
theorem dX1_copyFrom_53 : decode cX1_copyFrom 53 = .ok (.aload_n 1, 1) := dgX1_copyFrom_0 (53, (.aload_n 1, 1)) (List.mem_of_getElem? (i := 28) rfl)
theorem dX1_copyFrom_54 : decode cX1_copyFrom 54 = .ok (.getfield 30, 3) := dgX1_copyFrom_0 (54, (.getfield 30, 3)) (List.mem_of_getElem? (i := 29) rfl)
theorem dX1_copyFrom_57 : decode cX1_copyFrom 57 = .ok (.iload_n 2, 1) := dgX1_copyFrom_0 (57, (.iload_n 2, 1)) (List.mem_of_getElem? (i := 30) rfl)
theorem dX1_copyFrom_58 : decode cX1_copyFrom 58 = .ok (.aaload, 1) := dgX1_copyFrom_0 (58, (.aaload, 1)) (List.mem_of_getElem? (i := 31) rfl)
theorem dX1_copyFrom_59 : decode cX1_copyFrom 59 = .ok (.aastore, 1) := dgX1_copyFrom_0 (59, (.aastore, 1)) (List.mem_of_getElem? (i := 32) rfl)
theorem dX1_copyFrom_60 : decode cX1_copyFrom 60 = .ok (.iinc 2 1, 3) := dgX1_copyFrom_0 (60, (.iinc 2 1, 3)) (List.mem_of_getElem? (i := 33) rfl)
theorem dX1_copyFrom_63 : decode cX1_copyFrom 63 = .ok (.goto (-21), 3) := dgX1_copyFrom_0 (63, (.goto (-21), 3)) (List.mem_of_getElem? (i := 34) rfl)
theorem dX1_copyFrom_66 : decode cX1_copyFrom 66 = .ok (.aload_n 0, 1) := dgX1_copyFrom_0 (66, (.aload_n 0, 1)) (List.mem_of_getElem? (i := 35) rfl)
theorem dX1_copyFrom_67 : decode cX1_copyFrom 67 = .ok (.getfield 39, 3) := dgX1_copyFrom_0 (67, (.getfield 39, 3)) (List.mem_of_getElem? (i := 36) rfl)
theorem dX1_copyFrom_70 : decode cX1_copyFrom 70 = .ok (.aload_n 1, 1) := dgX1_copyFrom_0 (70, (.aload_n 1, 1)) (List.mem_of_getElem? (i := 37) rfl)
theorem dX1_copyFrom_71 : decode cX1_copyFrom 71 = .ok (.getfield 39, 3) := dgX1_copyFrom_0 (71, (.getfield 39, 3)) (List.mem_of_getElem? (i := 38) rfl)
theorem dX1_copyFrom_74 : decode cX1_copyFrom 74 = .ok (.invokevirtual 80, 3) := dgX1_copyFrom_0 (74, (.invokevirtual 80, 3)) (List.mem_of_getElem? (i := 39) rfl)
theorem dgX1_copyFrom_1 : ∀ r ∈ ([(77, (.aload_n 0, 1)), (78, (.getfield 43, 3)), (81, (.aload_n 1, 1)), (82, (.getfield 43, 3)), (85, (.invokevirtual 80, 3)), (88, (.aload_n 0, 1)), (89, (.getfield 46, 3)), (92, (.aload_n 1, 1)), (93, (.getfield 46, 3)), (96, (.invokevirtual 80, 3)), (99, (.aload_n 0, 1)), (100, (.getfield 49, 3)), (103, (.aload_n 1, 1)), (104, (.getfield 49, 3)), (107, (.invokevirtual 80, 3)), (110, (.aload_n 0, 1)), (111, (.getfield 52, 3)), (114, (.aload_n 1, 1)), (115, (.getfield 52, 3)), (118, (.invokevirtual 80, 3)), (121, (.aload_n 0, 1)), (122, (.aload_n 1, 1)), (123, (.getfield 55, 3)), (126, (.putfield 55, 3)), (129, (.aload_n 1, 1)), (130, (.getfield 58, 3)), (133, (.iconst 0, 1)), (134, (.aload_n 0, 1)), (135, (.getfield 58, 3)), (138, (.iconst 0, 1)), (139, (.bipush 24, 2)), (141, (.invokestatic 84, 3)), (144, (.return_, 1))] : List (Nat × (Instr × Nat))), decode cX1_copyFrom r.1 = .ok r.2 := by decide +kernel
theorem dX1_copyFrom_77 : decode cX1_copyFrom 77 = .ok (.aload_n 0, 1) := dgX1_copyFrom_1 (77, (.aload_n 0, 1)) (List.mem_of_getElem? (i := 0) rfl)
theorem dX1_copyFrom_78 : decode cX1_copyFrom 78 = .ok (.getfield 43, 3) := dgX1_copyFrom_1 (78, (.getfield 43, 3)) (List.mem_of_getElem? (i := 1) rfl)
theorem dX1_copyFrom_81 : decode cX1_copyFrom 81 = .ok (.aload_n 1, 1) := dgX1_copyFrom_1 (81, (.aload_n 1, 1)) (List.mem_of_getElem? (i := 2) rfl)
theorem dX1_copyFrom_82 : decode cX1_copyFrom 82 = .ok (.getfield 43, 3) := dgX1_copyFrom_1 (82, (.getfield 43, 3)) (List.mem_of_getElem? (i := 3) rfl)
theorem dX1_copyFrom_85 : decode cX1_copyFrom 85 = .ok (.invokevirtual 80, 3) := dgX1_copyFrom_1 (85, (.invokevirtual 80, 3)) (List.mem_of_getElem? (i := 4) rfl)
theorem dX1_copyFrom_88 : decode cX1_copyFrom 88 = .ok (.aload_n 0, 1) := dgX1_copyFrom_1 (88, (.aload_n 0, 1)) (List.mem_of_getElem? (i := 5) rfl)
theorem dX1_copyFrom_89 : decode cX1_copyFrom 89 = .ok (.getfield 46, 3) := dgX1_copyFrom_1 (89, (.getfield 46, 3)) (List.mem_of_getElem? (i := 6) rfl)
theorem dX1_copyFrom_92 : decode cX1_copyFrom 92 = .ok (.aload_n 1, 1) := dgX1_copyFrom_1 (92, (.aload_n 1, 1)) (List.mem_of_getElem? (i := 7) rfl)
theorem dX1_copyFrom_93 : decode cX1_copyFrom 93 = .ok (.getfield 46, 3) := dgX1_copyFrom_1 (93, (.getfield 46, 3)) (List.mem_of_getElem? (i := 8) rfl)
theorem dX1_copyFrom_96 : decode cX1_copyFrom 96 = .ok (.invokevirtual 80, 3) := dgX1_copyFrom_1 (96, (.invokevirtual 80, 3)) (List.mem_of_getElem? (i := 9) rfl)
theorem dX1_copyFrom_99 : decode cX1_copyFrom 99 = .ok (.aload_n 0, 1) := dgX1_copyFrom_1 (99, (.aload_n 0, 1)) (List.mem_of_getElem? (i := 10) rfl)
theorem dX1_copyFrom_100 : decode cX1_copyFrom 100 = .ok (.getfield 49, 3) := dgX1_copyFrom_1 (100, (.getfield 49, 3)) (List.mem_of_getElem? (i := 11) rfl)
theorem dX1_copyFrom_103 : decode cX1_copyFrom 103 = .ok (.aload_n 1, 1) := dgX1_copyFrom_1 (103, (.aload_n 1, 1)) (List.mem_of_getElem? (i := 12) rfl)
theorem dX1_copyFrom_104 : decode cX1_copyFrom 104 = .ok (.getfield 49, 3) := dgX1_copyFrom_1 (104, (.getfield 49, 3)) (List.mem_of_getElem? (i := 13) rfl)
theorem dX1_copyFrom_107 : decode cX1_copyFrom 107 = .ok (.invokevirtual 80, 3) := dgX1_copyFrom_1 (107, (.invokevirtual 80, 3)) (List.mem_of_getElem? (i := 14) rfl)
theorem dX1_copyFrom_110 : decode cX1_copyFrom 110 = .ok (.aload_n 0, 1) := dgX1_copyFrom_1 (110, (.aload_n 0, 1)) (List.mem_of_getElem? (i := 15) rfl)
theorem dX1_copyFrom_111 : decode cX1_copyFrom 111 = .ok (.getfield 52, 3) := dgX1_copyFrom_1 (111, (.getfield 52, 3)) (List.mem_of_getElem? (i := 16) rfl)
theorem dX1_copyFrom_114 : decode cX1_copyFrom 114 = .ok (.aload_n 1, 1) := dgX1_copyFrom_1 (114, (.aload_n 1, 1)) (List.mem_of_getElem? (i := 17) rfl)
theorem dX1_copyFrom_115 : decode cX1_copyFrom 115 = .ok (.getfield 52, 3) := dgX1_copyFrom_1 (115, (.getfield 52, 3)) (List.mem_of_getElem? (i := 18) rfl)
theorem dX1_copyFrom_118 : decode cX1_copyFrom 118 = .ok (.invokevirtual 80, 3) := dgX1_copyFrom_1 (118, (.invokevirtual 80, 3)) (List.mem_of_getElem? (i := 19) rfl)
theorem dX1_copyFrom_121 : decode cX1_copyFrom 121 = .ok (.aload_n 0, 1) := dgX1_copyFrom_1 (121, (.aload_n 0, 1)) (List.mem_of_getElem? (i := 20) rfl)
theorem dX1_copyFrom_122 : decode cX1_copyFrom 122 = .ok (.aload_n 1, 1) := dgX1_copyFrom_1 (122, (.aload_n 1, 1)) (List.mem_of_getElem? (i := 21) rfl)
theorem dX1_copyFrom_123 : decode cX1_copyFrom 123 = .ok (.getfield 55, 3) := dgX1_copyFrom_1 (123, (.getfield 55, 3)) (List.mem_of_getElem? (i := 22) rfl)
theorem dX1_copyFrom_126 : decode cX1_copyFrom 126 = .ok (.putfield 55, 3) := dgX1_copyFrom_1 (126, (.putfield 55, 3)) (List.mem_of_getElem? (i := 23) rfl)
theorem dX1_copyFrom_129 : decode cX1_copyFrom 129 = .ok (.aload_n 1, 1) := dgX1_copyFrom_1 (129, (.aload_n 1, 1)) (List.mem_of_getElem? (i := 24) rfl)
theorem dX1_copyFrom_130 : decode cX1_copyFrom 130 = .ok (.getfield 58, 3) := dgX1_copyFrom_1 (130, (.getfield 58, 3)) (List.mem_of_getElem? (i := 25) rfl)
theorem dX1_copyFrom_133 : decode cX1_copyFrom 133 = .ok (.iconst 0, 1) := dgX1_copyFrom_1 (133, (.iconst 0, 1)) (List.mem_of_getElem? (i := 26) rfl)
theorem dX1_copyFrom_134 : decode cX1_copyFrom 134 = .ok (.aload_n 0, 1) := dgX1_copyFrom_1 (134, (.aload_n 0, 1)) (List.mem_of_getElem? (i := 27) rfl)
theorem dX1_copyFrom_135 : decode cX1_copyFrom 135 = .ok (.getfield 58, 3) := dgX1_copyFrom_1 (135, (.getfield 58, 3)) (List.mem_of_getElem? (i := 28) rfl)
theorem dX1_copyFrom_138 : decode cX1_copyFrom 138 = .ok (.iconst 0, 1) := dgX1_copyFrom_1 (138, (.iconst 0, 1)) (List.mem_of_getElem? (i := 29) rfl)
theorem dX1_copyFrom_139 : decode cX1_copyFrom 139 = .ok (.bipush 24, 2) := dgX1_copyFrom_1 (139, (.bipush 24, 2)) (List.mem_of_getElem? (i := 30) rfl)
theorem dX1_copyFrom_141 : decode cX1_copyFrom 141 = .ok (.invokestatic 84, 3) := dgX1_copyFrom_1 (141, (.invokestatic 84, 3)) (List.mem_of_getElem? (i := 31) rfl)
theorem dX1_copyFrom_144 : decode cX1_copyFrom 144 = .ok (.return_, 1) := dgX1_copyFrom_1 (144, (.return_, 1)) (List.mem_of_getElem? (i := 32) rfl)
theorem fl_X1_15 : Cond.fieldLink RX1 15 "LateGlass$House" "least" "I" ∈ tblG := tg 158 (by decide +kernel) (by decide +kernel)
theorem fl_X1_39 : Cond.fieldLink RX1 39 "LateGlass$House" "glasses" "LLateGlass$Table;" ∈ tblG := tg 170 (by decide +kernel) (by decide +kernel)
theorem ml_X1_80 : Cond.methodLink RX1 80 yX6_copyFrom ∈ tblG := tg 1167 (by decide +kernel) (by decide +kernel)
theorem im_X6_copyFrom : Cond.instanceMethod yX6_copyFrom ∈ tblG := tg 1168 (by decide +kernel) (by decide +kernel)
theorem se_X6_copyFrom : Cond.selects RX6 yX6_copyFrom yX6_copyFrom ∈ tblG := tg 1169 (by decide +kernel) (by decide +kernel)
theorem cd_X6_copyFrom : Cond.code yX6_copyFrom cX6_copyFrom 2 none ∈ tblG := tg 1170 (by decide +kernel) (by decide +kernel)
theorem gW_X6_copyFrom : GoodIn tblG (wsG yX6_copyFrom cX6_copyFrom 2 none) := tgi cd_X6_copyFrom
theorem gV_X1_80 : GoodIn tblG (wsV RX1 80 RX6 yX6_copyFrom (wsG yX6_copyFrom cX6_copyFrom 2 none)) := tgV ml_X1_80 im_X6_copyFrom se_X6_copyFrom ini_X6 gW_X6_copyFrom
theorem hv_X6_copyFrom : yX6_copyFrom.cls = RX6 ∧ yX6_copyFrom.cls ≠ "java/lang/invoke/MethodHandle" ∧ yX6_copyFrom.cls ≠ "java/lang/invoke/VarHandle" ∧ (parseMethodDescriptor yX6_copyFrom.desc).map (fun d => d.parameters.length) = some 1 := by decide +kernel
theorem fl_X1_52 : Cond.fieldLink RX1 52 "LateGlass$House" "wishes" "LLateGlass$Table;" ∈ tblG := tg 185 (by decide +kernel) (by decide +kernel)
theorem ml_X1_84 : Cond.methodLink RX1 84 arraycopyName ∈ tblG := tg 1171 (by decide +kernel) (by decide +kernel)
set_option maxHeartbeats 4000000 in
set_option maxRecDepth 100000 in
theorem h_copyFrom (l : Launch) (G : g5_G) (a_h a_l a_g a_gn a_b a_bn a_s a_sn a_p a_pn a_w a_wn a_bb a_h2 a_l2 a_g2 a_gn2 a_b2 a_bn2 a_s2 a_sn2 a_p2 a_pn2 a_w2 a_wn2 a_bb2 : Nat) (sz : Nat) (e_le : Int32) (e_st : Int32) (e_fo : Int32) (e_lc : Int32) (e_g : Int32) (e_b : Int32) (e_s : Int32) (e_p : Int32) (e_w : Int32) (e_le2 : Int32) (e_st2 : Int32) (e_fo2 : Int32) (e_lc2 : Int32) (e_g2 : Int32) (e_b2 : Int32) (e_s2 : Int32) (e_p2 : Int32) (e_w2 : Int32) (e_wa : Int64) (e_gb : Int64) (e_wa2 : Int64) (e_gb2 : Int64) (f_l : Nat → Option Nat) (f_g : Nat → Int32) (f_b : Nat → Int32) (f_s : Nat → Int32) (f_p : Nat → Int32) (f_w : Nat → Int32) (f_bb : Nat → Int64) (f_l2 : Nat → Option Nat) (f_g2 : Nat → Int32) (f_b2 : Nat → Int32) (f_s2 : Nat → Int32) (f_p2 : Nat → Int32) (f_w2 : Nat → Int32) (f_bb2 : Nat → Int64) (h_e_g : 0 ≤ e_g.toInt ∧ e_g.toInt ≤ 6) (h_e_b : 0 ≤ e_b.toInt ∧ e_b.toInt ≤ 5) (h_e_s : 0 ≤ e_s.toInt ∧ e_s.toInt ≤ 10) (h_e_p : 0 ≤ e_p.toInt ∧ e_p.toInt ≤ 8) (h_e_w : 0 ≤ e_w.toInt ∧ e_w.toInt ≤ 6) (h_e_g2 : 0 ≤ e_g2.toInt ∧ e_g2.toInt ≤ 6) (h_e_b2 : 0 ≤ e_b2.toInt ∧ e_b2.toInt ≤ 5) (h_e_s2 : 0 ≤ e_s2.toInt ∧ e_s2.toInt ≤ 10) (h_e_p2 : 0 ≤ e_p2.toInt ∧ e_p2.toInt ≤ 8) (h_e_w2 : 0 ≤ e_w2.toInt ∧ e_w2.toInt ≤ 6) : Met l yX1_copyFrom (wsG yX1_copyFrom cX1_copyFrom 3 none) ({ frames := 2, cells := 0, slots := 0, locals := 81 }) (va_Pc [.ref a_h, .ref a_h2] (g5_PL G f_l2 [(a_h, (oc1 e_wa e_le e_st e_fo e_lc a_l a_g a_b a_s a_p a_w e_gb a_bb)), (a_l, (arW G 6 f_l)), (a_g, (oc6 6 5 a_gn e_g)), (a_gn, (arI G 30 f_g)), (a_b, (oc6 5 24 a_bn e_b)), (a_bn, (arI G 120 f_b)), (a_s, (oc6 10 4 a_sn e_s)), (a_sn, (arI G 40 f_s)), (a_p, (oc6 8 5 a_pn e_p)), (a_pn, (arI G 40 f_p)), (a_w, (oc6 6 6 a_wn e_w)), (a_wn, (arI G 36 f_w)), (a_bb, (arJ G 24 f_bb)), (a_h2, (oc1 e_wa2 e_le2 e_st2 e_fo2 e_lc2 a_l2 a_g2 a_b2 a_s2 a_p2 a_w2 e_gb2 a_bb2)), (a_l2, (arW G 6 f_l2)), (a_g2, (oc6 6 5 a_gn2 e_g2)), (a_gn2, (arI G 30 f_g2)), (a_b2, (oc6 5 24 a_bn2 e_b2)), (a_bn2, (arI G 120 f_b2)), (a_s2, (oc6 10 4 a_sn2 e_s2)), (a_sn2, (arI G 40 f_s2)), (a_p2, (oc6 8 5 a_pn2 e_p2)), (a_pn2, (arI G 40 f_p2)), (a_w2, (oc6 6 6 a_wn2 e_w2)), (a_wn2, (arI G 36 f_w2)), (a_bb2, (arJ G 24 f_bb2))] sz)) (va_Qv (fun (u : va_W) => (∃ (o_l : Nat → Option Nat), (∀ j : Nat, j < 6 → o_l j = f_l2 j) ∧ (u = [(a_h, (oc1 e_wa2 e_le2 e_st2 e_fo2 e_lc2 a_l a_g a_b a_s a_p a_w e_gb2 a_bb)), (a_l, (arW G 6 o_l)), (a_g, (oc6 6 5 a_gn e_g2)), (a_gn, (arI G 30 (va_cpy f_g2 f_g 0 0 30))), (a_b, (oc6 5 24 a_bn e_b2)), (a_bn, (arI G 120 (va_cpy f_b2 f_b 0 0 120))), (a_s, (oc6 10 4 a_sn e_s2)), (a_sn, (arI G 40 (va_cpy f_s2 f_s 0 0 40))), (a_p, (oc6 8 5 a_pn e_p2)), (a_pn, (arI G 40 (va_cpy f_p2 f_p 0 0 40))), (a_w, (oc6 6 6 a_wn e_w2)), (a_wn, (arI G 36 (va_cpy f_w2 f_w 0 0 36))), (a_bb, (arJ G 24 (va_cpy f_bb2 f_bb 0 0 24))), (a_h2, (oc1 e_wa2 e_le2 e_st2 e_fo2 e_lc2 a_l2 a_g2 a_b2 a_s2 a_p2 a_w2 e_gb2 a_bb2)), (a_l2, (arW G 6 f_l2)), (a_g2, (oc6 6 5 a_gn2 e_g2)), (a_gn2, (arI G 30 f_g2)), (a_b2, (oc6 5 24 a_bn2 e_b2)), (a_bn2, (arI G 120 f_b2)), (a_s2, (oc6 10 4 a_sn2 e_s2)), (a_sn2, (arI G 40 f_s2)), (a_p2, (oc6 8 5 a_pn2 e_p2)), (a_pn2, (arI G 40 f_p2)), (a_w2, (oc6 6 6 a_wn2 e_w2)), (a_wn2, (arI G 36 f_w2)), (a_bb2, (arJ G 24 f_bb2))]))) (g5_B G (va_A [(a_h, (oc1 e_wa e_le e_st e_fo e_lc a_l a_g a_b a_s a_p a_w e_gb a_bb)), (a_l, (arW G 6 f_l)), (a_g, (oc6 6 5 a_gn e_g)), (a_gn, (arI G 30 f_g)), (a_b, (oc6 5 24 a_bn e_b)), (a_bn, (arI G 120 f_b)), (a_s, (oc6 10 4 a_sn e_s)), (a_sn, (arI G 40 f_s)), (a_p, (oc6 8 5 a_pn e_p)), (a_pn, (arI G 40 f_p)), (a_w, (oc6 6 6 a_wn e_w)), (a_wn, (arI G 36 f_w)), (a_bb, (arJ G 24 f_bb)), (a_h2, (oc1 e_wa2 e_le2 e_st2 e_fo2 e_lc2 a_l2 a_g2 a_b2 a_s2 a_p2 a_w2 e_gb2 a_bb2)), (a_l2, (arW G 6 f_l2)), (a_g2, (oc6 6 5 a_gn2 e_g2)), (a_gn2, (arI G 30 f_g2)), (a_b2, (oc6 5 24 a_bn2 e_b2)), (a_bn2, (arI G 120 f_b2)), (a_s2, (oc6 10 4 a_sn2 e_s2)), (a_sn2, (arI G 40 f_s2)), (a_p2, (oc6 8 5 a_pn2 e_p2)), (a_pn2, (arI G 40 f_p2)), (a_w2, (oc6 6 6 a_wn2 e_w2)), (a_wn2, (arI G 36 f_w2)), (a_bb2, (arJ G 24 f_bb2))] sz)) (va_A [(a_h, (oc1 e_wa e_le e_st e_fo e_lc a_l a_g a_b a_s a_p a_w e_gb a_bb)), (a_l, (arW G 6 f_l)), (a_g, (oc6 6 5 a_gn e_g)), (a_gn, (arI G 30 f_g)), (a_b, (oc6 5 24 a_bn e_b)), (a_bn, (arI G 120 f_b)), (a_s, (oc6 10 4 a_sn e_s)), (a_sn, (arI G 40 f_s)), (a_p, (oc6 8 5 a_pn e_p)), (a_pn, (arI G 40 f_p)), (a_w, (oc6 6 6 a_wn e_w)), (a_wn, (arI G 36 f_w)), (a_bb, (arJ G 24 f_bb)), (a_h2, (oc1 e_wa2 e_le2 e_st2 e_fo2 e_lc2 a_l2 a_g2 a_b2 a_s2 a_p2 a_w2 e_gb2 a_bb2)), (a_l2, (arW G 6 f_l2)), (a_g2, (oc6 6 5 a_gn2 e_g2)), (a_gn2, (arI G 30 f_g2)), (a_b2, (oc6 5 24 a_bn2 e_b2)), (a_bn2, (arI G 120 f_b2)), (a_s2, (oc6 10 4 a_sn2 e_s2)), (a_sn2, (arI G 40 f_s2)), (a_p2, (oc6 8 5 a_pn2 e_p2)), (a_pn2, (arI G 40 f_p2)), (a_w2, (oc6 6 6 a_wn2 e_w2)), (a_wn2, (arI G 36 f_w2)), (a_bb2, (arJ G 24 f_bb2))] sz)) 0 0 (va_A [(a_h, (oc1 e_wa e_le e_st e_fo e_lc a_l a_g a_b a_s a_p a_w e_gb a_bb)), (a_l, (arW G 6 f_l)), (a_g, (oc6 6 5 a_gn e_g)), (a_gn, (arI G 30 f_g)), (a_b, (oc6 5 24 a_bn e_b)), (a_bn, (arI G 120 f_b)), (a_s, (oc6 10 4 a_sn e_s)), (a_sn, (arI G 40 f_s)), (a_p, (oc6 8 5 a_pn e_p)), (a_pn, (arI G 40 f_p)), (a_w, (oc6 6 6 a_wn e_w)), (a_wn, (arI G 36 f_w)), (a_bb, (arJ G 24 f_bb)), (a_h2, (oc1 e_wa2 e_le2 e_st2 e_fo2 e_lc2 a_l2 a_g2 a_b2 a_s2 a_p2 a_w2 e_gb2 a_bb2)), (a_l2, (arW G 6 f_l2)), (a_g2, (oc6 6 5 a_gn2 e_g2)), (a_gn2, (arI G 30 f_g2)), (a_b2, (oc6 5 24 a_bn2 e_b2)), (a_bn2, (arI G 120 f_b2)), (a_s2, (oc6 10 4 a_sn2 e_s2)), (a_sn2, (arI G 40 f_s2)), (a_p2, (oc6 8 5 a_pn2 e_p2)), (a_pn2, (arI G 40 f_p2)), (a_w2, (oc6 6 6 a_wn2 e_w2)), (a_wn2, (arI G 36 f_w2)), (a_bb2, (arJ G 24 f_bb2))] sz) := by
  refine Met.ofW (cc := cX1_copyFrom) (maxL := 3) (ret := none) (by decide +kernel) rfl ?_
  intro p e s m args below meth c s₁ B hml hv
  obtain ⟨rfl, ⟨hsz, hP, hK, hD0, hN, hT⟩, hLA⟩ := hv
  have hx := B.exec
  have hb := B.bytes
  have hr := B.returns
  have hts : ∀ w ∈ tblG, w.before _ s = true := fun w h => atoms_spec (ws := (wsG yX1_copyFrom cX1_copyFrom 3 none)) B.pre w (List.mem_cons_of_mem _ h)
  have hown : s.vm.findClass RX1 = some m.cls := findClass_of_methodNamed B.named
  have hlocks := B.notSynchronized
  subst hsz
  have hD := hD0.self (sz := s.heap.size)
  generalize hAe : va_A [(a_h, (oc1 e_wa e_le e_st e_fo e_lc a_l a_g a_b a_s a_p a_w e_gb a_bb)), (a_l, (arW G 6 f_l)), (a_g, (oc6 6 5 a_gn e_g)), (a_gn, (arI G 30 f_g)), (a_b, (oc6 5 24 a_bn e_b)), (a_bn, (arI G 120 f_b)), (a_s, (oc6 10 4 a_sn e_s)), (a_sn, (arI G 40 f_s)), (a_p, (oc6 8 5 a_pn e_p)), (a_pn, (arI G 40 f_p)), (a_w, (oc6 6 6 a_wn e_w)), (a_wn, (arI G 36 f_w)), (a_bb, (arJ G 24 f_bb)), (a_h2, (oc1 e_wa2 e_le2 e_st2 e_fo2 e_lc2 a_l2 a_g2 a_b2 a_s2 a_p2 a_w2 e_gb2 a_bb2)), (a_l2, (arW G 6 f_l2)), (a_g2, (oc6 6 5 a_gn2 e_g2)), (a_gn2, (arI G 30 f_g2)), (a_b2, (oc6 5 24 a_bn2 e_b2)), (a_bn2, (arI G 120 f_b2)), (a_s2, (oc6 10 4 a_sn2 e_s2)), (a_sn2, (arI G 40 f_s2)), (a_p2, (oc6 8 5 a_pn2 e_p2)), (a_pn2, (arI G 40 f_p2)), (a_w2, (oc6 6 6 a_wn2 e_w2)), (a_wn2, (arI G 36 f_w2)), (a_bb2, (arJ G 24 f_bb2))] s.heap.size = A at hD hT hLA ⊢
  have hA : ∀ q : Nat, s.heap.size ≤ q → A q := fun q h => by rw [← hAe]; exact Or.inr h
  have hS : va_S A s.heap s.heap [] := va_S.rf
  replace hP : va_P G.1 vwCl [(a_h, (oc1 e_wa e_le e_st e_fo e_lc a_l a_g a_b a_s a_p a_w e_gb a_bb)), (a_l, (arW G 6 f_l)), (a_g, (oc6 6 5 a_gn e_g)), (a_gn, (arI G 30 f_g)), (a_b, (oc6 5 24 a_bn e_b)), (a_bn, (arI G 120 f_b)), (a_s, (oc6 10 4 a_sn e_s)), (a_sn, (arI G 40 f_s)), (a_p, (oc6 8 5 a_pn e_p)), (a_pn, (arI G 40 f_p)), (a_w, (oc6 6 6 a_wn e_w)), (a_wn, (arI G 36 f_w)), (a_bb, (arJ G 24 f_bb)), (a_h2, (oc1 e_wa2 e_le2 e_st2 e_fo2 e_lc2 a_l2 a_g2 a_b2 a_s2 a_p2 a_w2 e_gb2 a_bb2)), (a_l2, (arW G 6 f_l2)), (a_g2, (oc6 6 5 a_gn2 e_g2)), (a_gn2, (arI G 30 f_g2)), (a_b2, (oc6 5 24 a_bn2 e_b2)), (a_bn2, (arI G 120 f_b2)), (a_s2, (oc6 10 4 a_sn2 e_s2)), (a_sn2, (arI G 40 f_s2)), (a_p2, (oc6 8 5 a_pn2 e_p2)), (a_pn2, (arI G 40 f_p2)), (a_w2, (oc6 6 6 a_wn2 e_w2)), (a_wn2, (arI G 36 f_w2)), (a_bb2, (arJ G 24 f_bb2))] s.heap := hP
  have hl := lv_entry ([.ref a_h, .ref a_h2]) (n := 3) (Nat.le_of_ble_eq_true rfl)
  rw [lg_entry_eq]
  generalize (lg_sl ([.ref a_h, .ref a_h2]) ++ List.replicate (3 - (lg_sl ([.ref a_h, .ref a_h2])).length) Slot.unset).toArray = ls at hl ⊢
  replace hl : lv_has ls 3 [(0, .ref a_h), (1, .ref a_h2)] := hl
  refine lv_aload_n hx hb dX1_copyFrom_0 rfl (lv_at hl 0 rfl) ?_
  refine lv_aload_n hx hb dX1_copyFrom_1 rfl (lv_at hl 1 rfl) ?_
  refine va_get (D := G.1) (ci := 1) (v := .long e_wa2) (C := RX1) (T := TX1) (N := 13) hx hb hts inG_X1 hown hK hP 13 rfl rfl 0 (by decide +kernel) (hts _ fl_X1_9) (fun _ h9 => h9) rfl dX1_copyFrom_2 ?_
  refine va_put (D := G.1) (ci := 1) (v := .long e_wa2) (ty := .long) (C := RX1) (T := TX1) (N := 13) hx hb hts inG_X1 tyX1 tyX1_ok nmX1 hown hK hP hD hS 0 rfl rfl 0 (by decide +kernel) (hts _ fl_X1_9) (fun _ h9 => h9) rfl (by decide +kernel) rfl rfl (Nat.le_of_ble_eq_true rfl) dX1_copyFrom_5 ?_
  clear hP hD hS
  intro H locs hP hD hS
  refine g5_rs [(a_h, (oc1 e_wa2 e_le e_st e_fo e_lc a_l a_g a_b a_s a_p a_w e_gb a_bb)), (a_l, (arW G 6 f_l)), (a_g, (oc6 6 5 a_gn e_g)), (a_gn, (arI G 30 f_g)), (a_b, (oc6 5 24 a_bn e_b)), (a_bn, (arI G 120 f_b)), (a_s, (oc6 10 4 a_sn e_s)), (a_sn, (arI G 40 f_s)), (a_p, (oc6 8 5 a_pn e_p)), (a_pn, (arI G 40 f_p)), (a_w, (oc6 6 6 a_wn e_w)), (a_wn, (arI G 36 f_w)), (a_bb, (arJ G 24 f_bb)), (a_h2, (oc1 e_wa2 e_le2 e_st2 e_fo2 e_lc2 a_l2 a_g2 a_b2 a_s2 a_p2 a_w2 e_gb2 a_bb2)), (a_l2, (arW G 6 f_l2)), (a_g2, (oc6 6 5 a_gn2 e_g2)), (a_gn2, (arI G 30 f_g2)), (a_b2, (oc6 5 24 a_bn2 e_b2)), (a_bn2, (arI G 120 f_b2)), (a_s2, (oc6 10 4 a_sn2 e_s2)), (a_sn2, (arI G 40 f_s2)), (a_p2, (oc6 8 5 a_pn2 e_p2)), (a_pn2, (arI G 40 f_p2)), (a_w2, (oc6 6 6 a_wn2 e_w2)), (a_wn2, (arI G 36 f_w2)), (a_bb2, (arJ G 24 f_bb2))] hP hD ?_
  clear hP hD
  intro hP hD
  refine W.eq (g2 := F0 m 8 ls []) rfl ?_
  refine lv_aload_n hx hb dX1_copyFrom_8 rfl (lv_at hl 0 rfl) ?_
  refine lv_aload_n hx hb dX1_copyFrom_9 rfl (lv_at hl 1 rfl) ?_
  refine va_get (D := G.1) (ci := 1) (v := .int e_le2) (C := RX1) (T := TX1) (N := 13) hx hb hts inG_X1 hown hK hP 13 rfl rfl 1 (by decide +kernel) (hts _ fl_X1_15) (fun _ h9 => h9) rfl dX1_copyFrom_10 ?_
  refine va_put (D := G.1) (ci := 1) (v := .int e_le2) (ty := .int) (C := RX1) (T := TX1) (N := 13) hx hb hts inG_X1 tyX1 tyX1_ok nmX1 hown hK hP hD hS 0 rfl rfl 1 (by decide +kernel) (hts _ fl_X1_15) (fun _ h9 => h9) rfl (by decide +kernel) rfl rfl (Nat.le_of_ble_eq_true rfl) dX1_copyFrom_13 ?_
  clear hP hD hS
  intro H locs hP hD hS
  refine g5_rs [(a_h, (oc1 e_wa2 e_le2 e_st e_fo e_lc a_l a_g a_b a_s a_p a_w e_gb a_bb)), (a_l, (arW G 6 f_l)), (a_g, (oc6 6 5 a_gn e_g)), (a_gn, (arI G 30 f_g)), (a_b, (oc6 5 24 a_bn e_b)), (a_bn, (arI G 120 f_b)), (a_s, (oc6 10 4 a_sn e_s)), (a_sn, (arI G 40 f_s)), (a_p, (oc6 8 5 a_pn e_p)), (a_pn, (arI G 40 f_p)), (a_w, (oc6 6 6 a_wn e_w)), (a_wn, (arI G 36 f_w)), (a_bb, (arJ G 24 f_bb)), (a_h2, (oc1 e_wa2 e_le2 e_st2 e_fo2 e_lc2 a_l2 a_g2 a_b2 a_s2 a_p2 a_w2 e_gb2 a_bb2)), (a_l2, (arW G 6 f_l2)), (a_g2, (oc6 6 5 a_gn2 e_g2)), (a_gn2, (arI G 30 f_g2)), (a_b2, (oc6 5 24 a_bn2 e_b2)), (a_bn2, (arI G 120 f_b2)), (a_s2, (oc6 10 4 a_sn2 e_s2)), (a_sn2, (arI G 40 f_s2)), (a_p2, (oc6 8 5 a_pn2 e_p2)), (a_pn2, (arI G 40 f_p2)), (a_w2, (oc6 6 6 a_wn2 e_w2)), (a_wn2, (arI G 36 f_w2)), (a_bb2, (arJ G 24 f_bb2))] hP hD ?_
  clear hP hD
  intro hP hD
  refine lv_aload_n hx hb dX1_copyFrom_16 rfl (lv_at hl 0 rfl) ?_
  refine W.eq (g2 := F0 m 17 ls [.ref a_h]) rfl ?_
  refine lv_aload_n hx hb dX1_copyFrom_17 rfl (lv_at hl 1 rfl) ?_
  refine va_get (D := G.1) (ci := 1) (v := .int e_st2) (C := RX1) (T := TX1) (N := 13) hx hb hts inG_X1 hown hK hP 13 rfl rfl 2 (by decide +kernel) (hts _ fl_X1_19) (fun _ h9 => h9) rfl dX1_copyFrom_18 ?_
  refine va_put (D := G.1) (ci := 1) (v := .int e_st2) (ty := .int) (C := RX1) (T := TX1) (N := 13) hx hb hts inG_X1 tyX1 tyX1_ok nmX1 hown hK hP hD hS 0 rfl rfl 2 (by decide +kernel) (hts _ fl_X1_19) (fun _ h9 => h9) rfl (by decide +kernel) rfl rfl (Nat.le_of_ble_eq_true rfl) dX1_copyFrom_21 ?_
  clear hP hD hS
  intro H locs hP hD hS
  refine g5_rs [(a_h, (oc1 e_wa2 e_le2 e_st2 e_fo e_lc a_l a_g a_b a_s a_p a_w e_gb a_bb)), (a_l, (arW G 6 f_l)), (a_g, (oc6 6 5 a_gn e_g)), (a_gn, (arI G 30 f_g)), (a_b, (oc6 5 24 a_bn e_b)), (a_bn, (arI G 120 f_b)), (a_s, (oc6 10 4 a_sn e_s)), (a_sn, (arI G 40 f_s)), (a_p, (oc6 8 5 a_pn e_p)), (a_pn, (arI G 40 f_p)), (a_w, (oc6 6 6 a_wn e_w)), (a_wn, (arI G 36 f_w)), (a_bb, (arJ G 24 f_bb)), (a_h2, (oc1 e_wa2 e_le2 e_st2 e_fo2 e_lc2 a_l2 a_g2 a_b2 a_s2 a_p2 a_w2 e_gb2 a_bb2)), (a_l2, (arW G 6 f_l2)), (a_g2, (oc6 6 5 a_gn2 e_g2)), (a_gn2, (arI G 30 f_g2)), (a_b2, (oc6 5 24 a_bn2 e_b2)), (a_bn2, (arI G 120 f_b2)), (a_s2, (oc6 10 4 a_sn2 e_s2)), (a_sn2, (arI G 40 f_s2)), (a_p2, (oc6 8 5 a_pn2 e_p2)), (a_pn2, (arI G 40 f_p2)), (a_w2, (oc6 6 6 a_wn2 e_w2)), (a_wn2, (arI G 36 f_w2)), (a_bb2, (arJ G 24 f_bb2))] hP hD ?_
  clear hP hD
  intro hP hD
  refine lv_aload_n hx hb dX1_copyFrom_24 rfl (lv_at hl 0 rfl) ?_
  refine lv_aload_n hx hb dX1_copyFrom_25 rfl (lv_at hl 1 rfl) ?_
  refine W.eq (g2 := F0 m 26 ls [.ref a_h2, .ref a_h]) rfl ?_
  refine va_get (D := G.1) (ci := 1) (v := .int e_fo2) (C := RX1) (T := TX1) (N := 13) hx hb hts inG_X1 hown hK hP 13 rfl rfl 3 (by decide +kernel) (hts _ fl_X1_22) (fun _ h9 => h9) rfl dX1_copyFrom_26 ?_
  refine va_put (D := G.1) (ci := 1) (v := .int e_fo2) (ty := .int) (C := RX1) (T := TX1) (N := 13) hx hb hts inG_X1 tyX1 tyX1_ok nmX1 hown hK hP hD hS 0 rfl rfl 3 (by decide +kernel) (hts _ fl_X1_22) (fun _ h9 => h9) rfl (by decide +kernel) rfl rfl (Nat.le_of_ble_eq_true rfl) dX1_copyFrom_29 ?_
  clear hP hD hS
  intro H locs hP hD hS
  refine g5_rs [(a_h, (oc1 e_wa2 e_le2 e_st2 e_fo2 e_lc a_l a_g a_b a_s a_p a_w e_gb a_bb)), (a_l, (arW G 6 f_l)), (a_g, (oc6 6 5 a_gn e_g)), (a_gn, (arI G 30 f_g)), (a_b, (oc6 5 24 a_bn e_b)), (a_bn, (arI G 120 f_b)), (a_s, (oc6 10 4 a_sn e_s)), (a_sn, (arI G 40 f_s)), (a_p, (oc6 8 5 a_pn e_p)), (a_pn, (arI G 40 f_p)), (a_w, (oc6 6 6 a_wn e_w)), (a_wn, (arI G 36 f_w)), (a_bb, (arJ G 24 f_bb)), (a_h2, (oc1 e_wa2 e_le2 e_st2 e_fo2 e_lc2 a_l2 a_g2 a_b2 a_s2 a_p2 a_w2 e_gb2 a_bb2)), (a_l2, (arW G 6 f_l2)), (a_g2, (oc6 6 5 a_gn2 e_g2)), (a_gn2, (arI G 30 f_g2)), (a_b2, (oc6 5 24 a_bn2 e_b2)), (a_bn2, (arI G 120 f_b2)), (a_s2, (oc6 10 4 a_sn2 e_s2)), (a_sn2, (arI G 40 f_s2)), (a_p2, (oc6 8 5 a_pn2 e_p2)), (a_pn2, (arI G 40 f_p2)), (a_w2, (oc6 6 6 a_wn2 e_w2)), (a_wn2, (arI G 36 f_w2)), (a_bb2, (arJ G 24 f_bb2))] hP hD ?_
  clear hP hD
  intro hP hD
  refine lv_aload_n hx hb dX1_copyFrom_32 rfl (lv_at hl 0 rfl) ?_
  refine lv_aload_n hx hb dX1_copyFrom_33 rfl (lv_at hl 1 rfl) ?_
  refine va_get (D := G.1) (ci := 1) (v := .int e_lc2) (C := RX1) (T := TX1) (N := 13) hx hb hts inG_X1 hown hK hP 13 rfl rfl 4 (by decide +kernel) (hts _ fl_X1_25) (fun _ h9 => h9) rfl dX1_copyFrom_34 ?_
  refine W.eq (g2 := F0 m 37 ls [.int e_lc2, .ref a_h]) rfl ?_
  refine va_put (D := G.1) (ci := 1) (v := .int e_lc2) (ty := .int) (C := RX1) (T := TX1) (N := 13) hx hb hts inG_X1 tyX1 tyX1_ok nmX1 hown hK hP hD hS 0 rfl rfl 4 (by decide +kernel) (hts _ fl_X1_25) (fun _ h9 => h9) rfl (by decide +kernel) rfl rfl (Nat.le_of_ble_eq_true rfl) dX1_copyFrom_37 ?_
  clear hP hD hS
  intro H locs hP hD hS
  refine g5_rs [(a_h, (oc1 e_wa2 e_le2 e_st2 e_fo2 e_lc2 a_l a_g a_b a_s a_p a_w e_gb a_bb)), (a_l, (arW G 6 f_l)), (a_g, (oc6 6 5 a_gn e_g)), (a_gn, (arI G 30 f_g)), (a_b, (oc6 5 24 a_bn e_b)), (a_bn, (arI G 120 f_b)), (a_s, (oc6 10 4 a_sn e_s)), (a_sn, (arI G 40 f_s)), (a_p, (oc6 8 5 a_pn e_p)), (a_pn, (arI G 40 f_p)), (a_w, (oc6 6 6 a_wn e_w)), (a_wn, (arI G 36 f_w)), (a_bb, (arJ G 24 f_bb)), (a_h2, (oc1 e_wa2 e_le2 e_st2 e_fo2 e_lc2 a_l2 a_g2 a_b2 a_s2 a_p2 a_w2 e_gb2 a_bb2)), (a_l2, (arW G 6 f_l2)), (a_g2, (oc6 6 5 a_gn2 e_g2)), (a_gn2, (arI G 30 f_g2)), (a_b2, (oc6 5 24 a_bn2 e_b2)), (a_bn2, (arI G 120 f_b2)), (a_s2, (oc6 10 4 a_sn2 e_s2)), (a_sn2, (arI G 40 f_s2)), (a_p2, (oc6 8 5 a_pn2 e_p2)), (a_pn2, (arI G 40 f_p2)), (a_w2, (oc6 6 6 a_wn2 e_w2)), (a_wn2, (arI G 36 f_w2)), (a_bb2, (arJ G 24 f_bb2))] hP hD ?_
  clear hP hD
  intro hP hD
  refine lv_iconst (v := 0) hx hb dX1_copyFrom_40 (by decide +kernel) ?_
  refine lv_istore_n (lv' := [(2, .int 0), (0, .ref a_h), (1, .ref a_h2)]) hx hb dX1_copyFrom_41 rfl hl (by decide +kernel) rfl ?_
  clear hl
  intro ls hl
  refine g5_loop (α := (Int32) × (Nat → Option Nat)) (fun (q : (Int32) × (Nat → Option Nat)) (ls : Array Slot) (H : Heap) (locs : List Loc) => match q with | (k_i, k_l) => lv_has ls 3 [(2, .int k_i), (0, .ref a_h), (1, .ref a_h2)] ∧ va_P G.1 vwCl [(a_h, (oc1 e_wa2 e_le2 e_st2 e_fo2 e_lc2 a_l a_g a_b a_s a_p a_w e_gb a_bb)), (a_l, (arW G 6 k_l)), (a_g, (oc6 6 5 a_gn e_g)), (a_gn, (arI G 30 f_g)), (a_b, (oc6 5 24 a_bn e_b)), (a_bn, (arI G 120 f_b)), (a_s, (oc6 10 4 a_sn e_s)), (a_sn, (arI G 40 f_s)), (a_p, (oc6 8 5 a_pn e_p)), (a_pn, (arI G 40 f_p)), (a_w, (oc6 6 6 a_wn e_w)), (a_wn, (arI G 36 f_w)), (a_bb, (arJ G 24 f_bb)), (a_h2, (oc1 e_wa2 e_le2 e_st2 e_fo2 e_lc2 a_l2 a_g2 a_b2 a_s2 a_p2 a_w2 e_gb2 a_bb2)), (a_l2, (arW G 6 f_l2)), (a_g2, (oc6 6 5 a_gn2 e_g2)), (a_gn2, (arI G 30 f_g2)), (a_b2, (oc6 5 24 a_bn2 e_b2)), (a_bn2, (arI G 120 f_b2)), (a_s2, (oc6 10 4 a_sn2 e_s2)), (a_sn2, (arI G 40 f_s2)), (a_p2, (oc6 8 5 a_pn2 e_p2)), (a_pn2, (arI G 40 f_p2)), (a_w2, (oc6 6 6 a_wn2 e_w2)), (a_wn2, (arI G 36 f_w2)), (a_bb2, (arJ G 24 f_bb2))] H ∧ va_D A [(a_h, (oc1 e_wa2 e_le2 e_st2 e_fo2 e_lc2 a_l a_g a_b a_s a_p a_w e_gb a_bb)), (a_l, (arW G 6 k_l)), (a_g, (oc6 6 5 a_gn e_g)), (a_gn, (arI G 30 f_g)), (a_b, (oc6 5 24 a_bn e_b)), (a_bn, (arI G 120 f_b)), (a_s, (oc6 10 4 a_sn e_s)), (a_sn, (arI G 40 f_s)), (a_p, (oc6 8 5 a_pn e_p)), (a_pn, (arI G 40 f_p)), (a_w, (oc6 6 6 a_wn e_w)), (a_wn, (arI G 36 f_w)), (a_bb, (arJ G 24 f_bb)), (a_h2, (oc1 e_wa2 e_le2 e_st2 e_fo2 e_lc2 a_l2 a_g2 a_b2 a_s2 a_p2 a_w2 e_gb2 a_bb2)), (a_l2, (arW G 6 f_l2)), (a_g2, (oc6 6 5 a_gn2 e_g2)), (a_gn2, (arI G 30 f_g2)), (a_b2, (oc6 5 24 a_bn2 e_b2)), (a_bn2, (arI G 120 f_b2)), (a_s2, (oc6 10 4 a_sn2 e_s2)), (a_sn2, (arI G 40 f_s2)), (a_p2, (oc6 8 5 a_pn2 e_p2)), (a_pn2, (arI G 40 f_p2)), (a_w2, (oc6 6 6 a_wn2 e_w2)), (a_wn2, (arI G 36 f_w2)), (a_bb2, (arJ G 24 f_bb2))] ∧ va_S A s.heap H locs ∧ (0 ≤ k_i.toInt ∧ k_i.toInt ≤ 6) ∧ (∀ j : Nat, (j : Int) < k_i.toInt → k_l j = f_l2 j)) (fun (q : (Int32) × (Nat → Option Nat)) => match q with | (k_i, k_l) => Int.toNat (6 - k_i.toInt)) (0, f_l) ⟨lv_sub hl [0, 1, 2] rfl, hP, hD, hS, ⟨by decide, by decide⟩, fun j h => absurd h (by have z : (0 : Int32).toInt = 0 := (by decide +kernel); omega)⟩ ?_
  rintro ⟨k_i, k_l⟩ ls H locs ⟨hl, hP, hD, hS, (i_1 : 0 ≤ k_i.toInt ∧ k_i.toInt ≤ 6), (i_2 : ∀ j : Nat, (j : Int) < k_i.toInt → k_l j = f_l2 j)⟩ ih_42_3
  replace hl : lv_has ls 3 [(2, .int k_i), (0, .ref a_h), (1, .ref a_h2)] := hl
  refine g5_rs [(a_h, (oc1 e_wa2 e_le2 e_st2 e_fo2 e_lc2 a_l a_g a_b a_s a_p a_w e_gb a_bb)), (a_l, (arW G 6 k_l)), (a_g, (oc6 6 5 a_gn e_g)), (a_gn, (arI G 30 f_g)), (a_b, (oc6 5 24 a_bn e_b)), (a_bn, (arI G 120 f_b)), (a_s, (oc6 10 4 a_sn e_s)), (a_sn, (arI G 40 f_s)), (a_p, (oc6 8 5 a_pn e_p)), (a_pn, (arI G 40 f_p)), (a_w, (oc6 6 6 a_wn e_w)), (a_wn, (arI G 36 f_w)), (a_bb, (arJ G 24 f_bb)), (a_h2, (oc1 e_wa2 e_le2 e_st2 e_fo2 e_lc2 a_l2 a_g2 a_b2 a_s2 a_p2 a_w2 e_gb2 a_bb2)), (a_l2, (arW G 6 f_l2)), (a_g2, (oc6 6 5 a_gn2 e_g2)), (a_gn2, (arI G 30 f_g2)), (a_b2, (oc6 5 24 a_bn2 e_b2)), (a_bn2, (arI G 120 f_b2)), (a_s2, (oc6 10 4 a_sn2 e_s2)), (a_sn2, (arI G 40 f_s2)), (a_p2, (oc6 8 5 a_pn2 e_p2)), (a_pn2, (arI G 40 f_p2)), (a_w2, (oc6 6 6 a_wn2 e_w2)), (a_wn2, (arI G 36 f_w2)), (a_bb2, (arJ G 24 f_bb2))] hP hD ?_
  clear hP hD
  intro hP hD
  refine lv_iload_n hx hb dX1_copyFrom_42 rfl (lv_at hl 0 rfl) ?_
  refine lv_bipush (v := 6) hx hb dX1_copyFrom_43 (by decide +kernel) ?_
  refine lv_icmp_ge (tgt := 66) hx hb dX1_copyFrom_45 (by decide +kernel) (fun c_4 => ?_) (fun c_4 => ?_)
  ·
    have i_4 : k_i.toInt ≥ 6 := g5_ge (a := k_i.toInt) (b := 6) rfl (by decide +kernel) c_4
    refine lv_aload_n hx hb dX1_copyFrom_66 rfl (lv_at hl 1 rfl) ?_
    refine va_get (D := G.1) (ci := 1) (v := .ref a_g) (C := RX1) (T := TX1) (N := 13) hx hb hts inG_X1 hown hK hP 0 rfl rfl 6 (by decide +kernel) (hts _ fl_X1_39) (fun _ h9 => h9) rfl dX1_copyFrom_67 ?_
    refine lv_aload_n hx hb dX1_copyFrom_70 rfl (lv_at hl 2 rfl) ?_
    refine va_get (D := G.1) (ci := 1) (v := .ref a_g2) (C := RX1) (T := TX1) (N := 13) hx hb hts inG_X1 hown hK hP 13 rfl rfl 6 (by decide +kernel) (hts _ fl_X1_39) (fun _ h9 => h9) rfl dX1_copyFrom_71 ?_
    refine W.eq (g2 := F0 m 74 ls [.ref a_g2, .ref a_g]) rfl ?_
    obtain ⟨hPc, hDc, hFc⟩ := g5_sub3 (wc := [(a_g, (oc6 6 5 a_gn e_g)), (a_gn, (arI G 30 f_g)), (a_g2, (oc6 6 5 a_gn2 e_g2)), (a_gn2, (arI G 30 f_g2))]) hP hD hS hA [2, 3, 15, 16] (by decide +kernel) rfl
    refine va_callv (va_runV (As := [.ref a_g2]) (rest := []) ⟨hx, hb, hml, hown, hts⟩ (t_copyFrom_G l G a_g a_gn a_g2 a_gn2 H.size e_g e_g2 f_g f_g2 h_e_g h_e_g2) (cwV 1 hts gV_X1_80 rfl rfl rfl hv_X6_copyFrom ⟨Nat.le_of_ble_eq_true rfl, Nat.le_of_ble_eq_true rfl⟩) (g5_preV hPc hK hDc hN hT hS hFc (ci := 6) (q0 := 0) rfl rfl) rfl rfl hl.1 rfl (lv_room (Nat.le_of_ble_eq_true rfl)) dX1_copyFrom_74 ⟨Nat.le_of_ble_eq_true rfl, Nat.le_of_ble_eq_true rfl⟩) hS (fun q _ h => hFc q h) hFc (fun u t H locs ht hvm hw hB hz1 hk1 hS => ?_)
    obtain ⟨hP1, hD1⟩ := hB
    have hP1 := g5_ht ht hP1
    obtain rfl := hw
    have hJ9 := va_join (wr := [(a_h, (oc1 e_wa2 e_le2 e_st2 e_fo2 e_lc2 a_l a_g a_b a_s a_p a_w e_gb a_bb)), (a_l, (arW G 6 k_l)), (a_b, (oc6 5 24 a_bn e_b)), (a_bn, (arI G 120 f_b)), (a_s, (oc6 10 4 a_sn e_s)), (a_sn, (arI G 40 f_s)), (a_p, (oc6 8 5 a_pn e_p)), (a_pn, (arI G 40 f_p)), (a_w, (oc6 6 6 a_wn e_w)), (a_wn, (arI G 36 f_w)), (a_bb, (arJ G 24 f_bb)), (a_h2, (oc1 e_wa2 e_le2 e_st2 e_fo2 e_lc2 a_l2 a_g2 a_b2 a_s2 a_p2 a_w2 e_gb2 a_bb2)), (a_l2, (arW G 6 f_l2)), (a_b2, (oc6 5 24 a_bn2 e_b2)), (a_bn2, (arI G 120 f_b2)), (a_s2, (oc6 10 4 a_sn2 e_s2)), (a_sn2, (arI G 40 f_s2)), (a_p2, (oc6 8 5 a_pn2 e_p2)), (a_pn2, (arI G 40 f_p2)), (a_w2, (oc6 6 6 a_wn2 e_w2)), (a_wn2, (arI G 36 f_w2)), (a_bb2, (arJ G 24 f_bb2))]) hP hD [2, 3, 15, 16] [0, 1, 4, 5, 6, 7, 8, 9, 10, 11, 12, 13, 14, 17, 18, 19, 20, 21, 22, 23, 24, 25] rfl rfl (by decide +kernel) (by decide +kernel) hk1 hFc hP1 hD1
    clear hP hD hPc hDc hFc ht hvm hz1 hk1 hP1 hD1
    obtain ⟨hP, hD⟩ := hJ9
    refine g5_rs [(a_h, (oc1 e_wa2 e_le2 e_st2 e_fo2 e_lc2 a_l a_g a_b a_s a_p a_w e_gb a_bb)), (a_l, (arW G 6 k_l)), (a_b, (oc6 5 24 a_bn e_b)), (a_bn, (arI G 120 f_b)), (a_s, (oc6 10 4 a_sn e_s)), (a_sn, (arI G 40 f_s)), (a_p, (oc6 8 5 a_pn e_p)), (a_pn, (arI G 40 f_p)), (a_w, (oc6 6 6 a_wn e_w)), (a_wn, (arI G 36 f_w)), (a_bb, (arJ G 24 f_bb)), (a_h2, (oc1 e_wa2 e_le2 e_st2 e_fo2 e_lc2 a_l2 a_g2 a_b2 a_s2 a_p2 a_w2 e_gb2 a_bb2)), (a_l2, (arW G 6 f_l2)), (a_b2, (oc6 5 24 a_bn2 e_b2)), (a_bn2, (arI G 120 f_b2)), (a_s2, (oc6 10 4 a_sn2 e_s2)), (a_sn2, (arI G 40 f_s2)), (a_p2, (oc6 8 5 a_pn2 e_p2)), (a_pn2, (arI G 40 f_p2)), (a_w2, (oc6 6 6 a_wn2 e_w2)), (a_wn2, (arI G 36 f_w2)), (a_bb2, (arJ G 24 f_bb2)), (a_g, (oc6 6 5 a_gn e_g2)), (a_gn, (arI G 30 (va_cpy f_g2 f_g 0 0 30))), (a_g2, (oc6 6 5 a_gn2 e_g2)), (a_gn2, (arI G 30 f_g2))] hP hD ?_
    clear hP hD
    intro hP hD
    refine lv_aload_n hx hb dX1_copyFrom_77 rfl (lv_at hl 1 rfl) ?_
    refine va_get (D := G.1) (ci := 1) (v := .ref a_b) (C := RX1) (T := TX1) (N := 13) hx hb hts inG_X1 hown hK hP 0 rfl rfl 7 (by decide +kernel) (hts _ fl_X1_43) (fun _ h9 => h9) rfl dX1_copyFrom_78 ?_
    refine lv_aload_n hx hb dX1_copyFrom_81 rfl (lv_at hl 2 rfl) ?_
    refine va_get (D := G.1) (ci := 1) (v := .ref a_b2) (C := RX1) (T := TX1) (N := 13) hx hb hts inG_X1 hown hK hP 11 rfl rfl 7 (by decide +kernel) (hts _ fl_X1_43) (fun _ h9 => h9) rfl dX1_copyFrom_82 ?_
    refine W.eq (g2 := F0 m 85 ls [.ref a_b2, .ref a_b]) rfl ?_
    obtain ⟨hPc, hDc, hFc⟩ := g5_sub3 (wc := [(a_b, (oc6 5 24 a_bn e_b)), (a_bn, (arI G 120 f_b)), (a_b2, (oc6 5 24 a_bn2 e_b2)), (a_bn2, (arI G 120 f_b2))]) hP hD hS hA [2, 3, 13, 14] (by decide +kernel) rfl
    refine va_callv (va_runV (As := [.ref a_b2]) (rest := []) ⟨hx, hb, hml, hown, hts⟩ (t_copyFrom_B l G a_b a_bn a_b2 a_bn2 H.size e_b e_b2 f_b f_b2 h_e_b h_e_b2) (cwV 1 hts gV_X1_80 rfl rfl rfl hv_X6_copyFrom ⟨Nat.le_of_ble_eq_true rfl, Nat.le_of_ble_eq_true rfl⟩) (g5_preV hPc hK hDc hN hT hS hFc (ci := 6) (q0 := 0) rfl rfl) rfl rfl hl.1 rfl (lv_room (Nat.le_of_ble_eq_true rfl)) dX1_copyFrom_85 ⟨Nat.le_of_ble_eq_true rfl, Nat.le_of_ble_eq_true rfl⟩) hS (fun q _ h => hFc q h) hFc (fun u t H locs ht hvm hw hB hz1 hk1 hS => ?_)
    obtain ⟨hP1, hD1⟩ := hB
    have hP1 := g5_ht ht hP1
    obtain rfl := hw
    have hJ9 := va_join (wr := [(a_h, (oc1 e_wa2 e_le2 e_st2 e_fo2 e_lc2 a_l a_g a_b a_s a_p a_w e_gb a_bb)), (a_l, (arW G 6 k_l)), (a_s, (oc6 10 4 a_sn e_s)), (a_sn, (arI G 40 f_s)), (a_p, (oc6 8 5 a_pn e_p)), (a_pn, (arI G 40 f_p)), (a_w, (oc6 6 6 a_wn e_w)), (a_wn, (arI G 36 f_w)), (a_bb, (arJ G 24 f_bb)), (a_h2, (oc1 e_wa2 e_le2 e_st2 e_fo2 e_lc2 a_l2 a_g2 a_b2 a_s2 a_p2 a_w2 e_gb2 a_bb2)), (a_l2, (arW G 6 f_l2)), (a_s2, (oc6 10 4 a_sn2 e_s2)), (a_sn2, (arI G 40 f_s2)), (a_p2, (oc6 8 5 a_pn2 e_p2)), (a_pn2, (arI G 40 f_p2)), (a_w2, (oc6 6 6 a_wn2 e_w2)), (a_wn2, (arI G 36 f_w2)), (a_bb2, (arJ G 24 f_bb2)), (a_g, (oc6 6 5 a_gn e_g2)), (a_gn, (arI G 30 (va_cpy f_g2 f_g 0 0 30))), (a_g2, (oc6 6 5 a_gn2 e_g2)), (a_gn2, (arI G 30 f_g2))]) hP hD [2, 3, 13, 14] [0, 1, 4, 5, 6, 7, 8, 9, 10, 11, 12, 15, 16, 17, 18, 19, 20, 21, 22, 23, 24, 25] rfl rfl (by decide +kernel) (by decide +kernel) hk1 hFc hP1 hD1
    clear hP hD hPc hDc hFc ht hvm hz1 hk1 hP1 hD1
    obtain ⟨hP, hD⟩ := hJ9
    refine g5_rs [(a_h, (oc1 e_wa2 e_le2 e_st2 e_fo2 e_lc2 a_l a_g a_b a_s a_p a_w e_gb a_bb)), (a_l, (arW G 6 k_l)), (a_s, (oc6 10 4 a_sn e_s)), (a_sn, (arI G 40 f_s)), (a_p, (oc6 8 5 a_pn e_p)), (a_pn, (arI G 40 f_p)), (a_w, (oc6 6 6 a_wn e_w)), (a_wn, (arI G 36 f_w)), (a_bb, (arJ G 24 f_bb)), (a_h2, (oc1 e_wa2 e_le2 e_st2 e_fo2 e_lc2 a_l2 a_g2 a_b2 a_s2 a_p2 a_w2 e_gb2 a_bb2)), (a_l2, (arW G 6 f_l2)), (a_s2, (oc6 10 4 a_sn2 e_s2)), (a_sn2, (arI G 40 f_s2)), (a_p2, (oc6 8 5 a_pn2 e_p2)), (a_pn2, (arI G 40 f_p2)), (a_w2, (oc6 6 6 a_wn2 e_w2)), (a_wn2, (arI G 36 f_w2)), (a_bb2, (arJ G 24 f_bb2)), (a_g, (oc6 6 5 a_gn e_g2)), (a_gn, (arI G 30 (va_cpy f_g2 f_g 0 0 30))), (a_g2, (oc6 6 5 a_gn2 e_g2)), (a_gn2, (arI G 30 f_g2)), (a_b, (oc6 5 24 a_bn e_b2)), (a_bn, (arI G 120 (va_cpy f_b2 f_b 0 0 120))), (a_b2, (oc6 5 24 a_bn2 e_b2)), (a_bn2, (arI G 120 f_b2))] hP hD ?_
    clear hP hD
    intro hP hD
    refine lv_aload_n hx hb dX1_copyFrom_88 rfl (lv_at hl 1 rfl) ?_
    refine va_get (D := G.1) (ci := 1) (v := .ref a_s) (C := RX1) (T := TX1) (N := 13) hx hb hts inG_X1 hown hK hP 0 rfl rfl 8 (by decide +kernel) (hts _ fl_X1_46) (fun _ h9 => h9) rfl dX1_copyFrom_89 ?_
    refine lv_aload_n hx hb dX1_copyFrom_92 rfl (lv_at hl 2 rfl) ?_
    refine va_get (D := G.1) (ci := 1) (v := .ref a_s2) (C := RX1) (T := TX1) (N := 13) hx hb hts inG_X1 hown hK hP 9 rfl rfl 8 (by decide +kernel) (hts _ fl_X1_46) (fun _ h9 => h9) rfl dX1_copyFrom_93 ?_
    refine W.eq (g2 := F0 m 96 ls [.ref a_s2, .ref a_s]) rfl ?_
    obtain ⟨hPc, hDc, hFc⟩ := g5_sub3 (wc := [(a_s, (oc6 10 4 a_sn e_s)), (a_sn, (arI G 40 f_s)), (a_s2, (oc6 10 4 a_sn2 e_s2)), (a_sn2, (arI G 40 f_s2))]) hP hD hS hA [2, 3, 11, 12] (by decide +kernel) rfl
    refine va_callv (va_runV (As := [.ref a_s2]) (rest := []) ⟨hx, hb, hml, hown, hts⟩ (t_copyFrom_S l G a_s a_sn a_s2 a_sn2 H.size e_s e_s2 f_s f_s2 h_e_s h_e_s2) (cwV 1 hts gV_X1_80 rfl rfl rfl hv_X6_copyFrom ⟨Nat.le_of_ble_eq_true rfl, Nat.le_of_ble_eq_true rfl⟩) (g5_preV hPc hK hDc hN hT hS hFc (ci := 6) (q0 := 0) rfl rfl) rfl rfl hl.1 rfl (lv_room (Nat.le_of_ble_eq_true rfl)) dX1_copyFrom_96 ⟨Nat.le_of_ble_eq_true rfl, Nat.le_of_ble_eq_true rfl⟩) hS (fun q _ h => hFc q h) hFc (fun u t H locs ht hvm hw hB hz1 hk1 hS => ?_)
    obtain ⟨hP1, hD1⟩ := hB
    have hP1 := g5_ht ht hP1
    obtain rfl := hw
    have hJ9 := va_join (wr := [(a_h, (oc1 e_wa2 e_le2 e_st2 e_fo2 e_lc2 a_l a_g a_b a_s a_p a_w e_gb a_bb)), (a_l, (arW G 6 k_l)), (a_p, (oc6 8 5 a_pn e_p)), (a_pn, (arI G 40 f_p)), (a_w, (oc6 6 6 a_wn e_w)), (a_wn, (arI G 36 f_w)), (a_bb, (arJ G 24 f_bb)), (a_h2, (oc1 e_wa2 e_le2 e_st2 e_fo2 e_lc2 a_l2 a_g2 a_b2 a_s2 a_p2 a_w2 e_gb2 a_bb2)), (a_l2, (arW G 6 f_l2)), (a_p2, (oc6 8 5 a_pn2 e_p2)), (a_pn2, (arI G 40 f_p2)), (a_w2, (oc6 6 6 a_wn2 e_w2)), (a_wn2, (arI G 36 f_w2)), (a_bb2, (arJ G 24 f_bb2)), (a_g, (oc6 6 5 a_gn e_g2)), (a_gn, (arI G 30 (va_cpy f_g2 f_g 0 0 30))), (a_g2, (oc6 6 5 a_gn2 e_g2)), (a_gn2, (arI G 30 f_g2)), (a_b, (oc6 5 24 a_bn e_b2)), (a_bn, (arI G 120 (va_cpy f_b2 f_b 0 0 120))), (a_b2, (oc6 5 24 a_bn2 e_b2)), (a_bn2, (arI G 120 f_b2))]) hP hD [2, 3, 11, 12] [0, 1, 4, 5, 6, 7, 8, 9, 10, 13, 14, 15, 16, 17, 18, 19, 20, 21, 22, 23, 24, 25] rfl rfl (by decide +kernel) (by decide +kernel) hk1 hFc hP1 hD1
    clear hP hD hPc hDc hFc ht hvm hz1 hk1 hP1 hD1
    obtain ⟨hP, hD⟩ := hJ9
    refine g5_rs [(a_h, (oc1 e_wa2 e_le2 e_st2 e_fo2 e_lc2 a_l a_g a_b a_s a_p a_w e_gb a_bb)), (a_l, (arW G 6 k_l)), (a_p, (oc6 8 5 a_pn e_p)), (a_pn, (arI G 40 f_p)), (a_w, (oc6 6 6 a_wn e_w)), (a_wn, (arI G 36 f_w)), (a_bb, (arJ G 24 f_bb)), (a_h2, (oc1 e_wa2 e_le2 e_st2 e_fo2 e_lc2 a_l2 a_g2 a_b2 a_s2 a_p2 a_w2 e_gb2 a_bb2)), (a_l2, (arW G 6 f_l2)), (a_p2, (oc6 8 5 a_pn2 e_p2)), (a_pn2, (arI G 40 f_p2)), (a_w2, (oc6 6 6 a_wn2 e_w2)), (a_wn2, (arI G 36 f_w2)), (a_bb2, (arJ G 24 f_bb2)), (a_g, (oc6 6 5 a_gn e_g2)), (a_gn, (arI G 30 (va_cpy f_g2 f_g 0 0 30))), (a_g2, (oc6 6 5 a_gn2 e_g2)), (a_gn2, (arI G 30 f_g2)), (a_b, (oc6 5 24 a_bn e_b2)), (a_bn, (arI G 120 (va_cpy f_b2 f_b 0 0 120))), (a_b2, (oc6 5 24 a_bn2 e_b2)), (a_bn2, (arI G 120 f_b2)), (a_s, (oc6 10 4 a_sn e_s2)), (a_sn, (arI G 40 (va_cpy f_s2 f_s 0 0 40))), (a_s2, (oc6 10 4 a_sn2 e_s2)), (a_sn2, (arI G 40 f_s2))] hP hD ?_
    clear hP hD
    intro hP hD
    refine lv_aload_n hx hb dX1_copyFrom_99 rfl (lv_at hl 1 rfl) ?_
    refine va_get (D := G.1) (ci := 1) (v := .ref a_p) (C := RX1) (T := TX1) (N := 13) hx hb hts inG_X1 hown hK hP 0 rfl rfl 9 (by decide +kernel) (hts _ fl_X1_49) (fun _ h9 => h9) rfl dX1_copyFrom_100 ?_
    refine lv_aload_n hx hb dX1_copyFrom_103 rfl (lv_at hl 2 rfl) ?_
    refine va_get (D := G.1) (ci := 1) (v := .ref a_p2) (C := RX1) (T := TX1) (N := 13) hx hb hts inG_X1 hown hK hP 7 rfl rfl 9 (by decide +kernel) (hts _ fl_X1_49) (fun _ h9 => h9) rfl dX1_copyFrom_104 ?_
    refine W.eq (g2 := F0 m 107 ls [.ref a_p2, .ref a_p]) rfl ?_
    obtain ⟨hPc, hDc, hFc⟩ := g5_sub3 (wc := [(a_p, (oc6 8 5 a_pn e_p)), (a_pn, (arI G 40 f_p)), (a_p2, (oc6 8 5 a_pn2 e_p2)), (a_pn2, (arI G 40 f_p2))]) hP hD hS hA [2, 3, 9, 10] (by decide +kernel) rfl
    refine va_callv (va_runV (As := [.ref a_p2]) (rest := []) ⟨hx, hb, hml, hown, hts⟩ (t_copyFrom_P l G a_p a_pn a_p2 a_pn2 H.size e_p e_p2 f_p f_p2 h_e_p h_e_p2) (cwV 1 hts gV_X1_80 rfl rfl rfl hv_X6_copyFrom ⟨Nat.le_of_ble_eq_true rfl, Nat.le_of_ble_eq_true rfl⟩) (g5_preV hPc hK hDc hN hT hS hFc (ci := 6) (q0 := 0) rfl rfl) rfl rfl hl.1 rfl (lv_room (Nat.le_of_ble_eq_true rfl)) dX1_copyFrom_107 ⟨Nat.le_of_ble_eq_true rfl, Nat.le_of_ble_eq_true rfl⟩) hS (fun q _ h => hFc q h) hFc (fun u t H locs ht hvm hw hB hz1 hk1 hS => ?_)
    obtain ⟨hP1, hD1⟩ := hB
    have hP1 := g5_ht ht hP1
    obtain rfl := hw
    have hJ9 := va_join (wr := [(a_h, (oc1 e_wa2 e_le2 e_st2 e_fo2 e_lc2 a_l a_g a_b a_s a_p a_w e_gb a_bb)), (a_l, (arW G 6 k_l)), (a_w, (oc6 6 6 a_wn e_w)), (a_wn, (arI G 36 f_w)), (a_bb, (arJ G 24 f_bb)), (a_h2, (oc1 e_wa2 e_le2 e_st2 e_fo2 e_lc2 a_l2 a_g2 a_b2 a_s2 a_p2 a_w2 e_gb2 a_bb2)), (a_l2, (arW G 6 f_l2)), (a_w2, (oc6 6 6 a_wn2 e_w2)), (a_wn2, (arI G 36 f_w2)), (a_bb2, (arJ G 24 f_bb2)), (a_g, (oc6 6 5 a_gn e_g2)), (a_gn, (arI G 30 (va_cpy f_g2 f_g 0 0 30))), (a_g2, (oc6 6 5 a_gn2 e_g2)), (a_gn2, (arI G 30 f_g2)), (a_b, (oc6 5 24 a_bn e_b2)), (a_bn, (arI G 120 (va_cpy f_b2 f_b 0 0 120))), (a_b2, (oc6 5 24 a_bn2 e_b2)), (a_bn2, (arI G 120 f_b2)), (a_s, (oc6 10 4 a_sn e_s2)), (a_sn, (arI G 40 (va_cpy f_s2 f_s 0 0 40))), (a_s2, (oc6 10 4 a_sn2 e_s2)), (a_sn2, (arI G 40 f_s2))]) hP hD [2, 3, 9, 10] [0, 1, 4, 5, 6, 7, 8, 11, 12, 13, 14, 15, 16, 17, 18, 19, 20, 21, 22, 23, 24, 25] rfl rfl (by decide +kernel) (by decide +kernel) hk1 hFc hP1 hD1
    clear hP hD hPc hDc hFc ht hvm hz1 hk1 hP1 hD1
    obtain ⟨hP, hD⟩ := hJ9
    refine g5_rs [(a_h, (oc1 e_wa2 e_le2 e_st2 e_fo2 e_lc2 a_l a_g a_b a_s a_p a_w e_gb a_bb)), (a_l, (arW G 6 k_l)), (a_w, (oc6 6 6 a_wn e_w)), (a_wn, (arI G 36 f_w)), (a_bb, (arJ G 24 f_bb)), (a_h2, (oc1 e_wa2 e_le2 e_st2 e_fo2 e_lc2 a_l2 a_g2 a_b2 a_s2 a_p2 a_w2 e_gb2 a_bb2)), (a_l2, (arW G 6 f_l2)), (a_w2, (oc6 6 6 a_wn2 e_w2)), (a_wn2, (arI G 36 f_w2)), (a_bb2, (arJ G 24 f_bb2)), (a_g, (oc6 6 5 a_gn e_g2)), (a_gn, (arI G 30 (va_cpy f_g2 f_g 0 0 30))), (a_g2, (oc6 6 5 a_gn2 e_g2)), (a_gn2, (arI G 30 f_g2)), (a_b, (oc6 5 24 a_bn e_b2)), (a_bn, (arI G 120 (va_cpy f_b2 f_b 0 0 120))), (a_b2, (oc6 5 24 a_bn2 e_b2)), (a_bn2, (arI G 120 f_b2)), (a_s, (oc6 10 4 a_sn e_s2)), (a_sn, (arI G 40 (va_cpy f_s2 f_s 0 0 40))), (a_s2, (oc6 10 4 a_sn2 e_s2)), (a_sn2, (arI G 40 f_s2)), (a_p, (oc6 8 5 a_pn e_p2)), (a_pn, (arI G 40 (va_cpy f_p2 f_p 0 0 40))), (a_p2, (oc6 8 5 a_pn2 e_p2)), (a_pn2, (arI G 40 f_p2))] hP hD ?_
    clear hP hD
    intro hP hD
    refine lv_aload_n hx hb dX1_copyFrom_110 rfl (lv_at hl 1 rfl) ?_
    refine va_get (D := G.1) (ci := 1) (v := .ref a_w) (C := RX1) (T := TX1) (N := 13) hx hb hts inG_X1 hown hK hP 0 rfl rfl 10 (by decide +kernel) (hts _ fl_X1_52) (fun _ h9 => h9) rfl dX1_copyFrom_111 ?_
    refine lv_aload_n hx hb dX1_copyFrom_114 rfl (lv_at hl 2 rfl) ?_
    refine va_get (D := G.1) (ci := 1) (v := .ref a_w2) (C := RX1) (T := TX1) (N := 13) hx hb hts inG_X1 hown hK hP 5 rfl rfl 10 (by decide +kernel) (hts _ fl_X1_52) (fun _ h9 => h9) rfl dX1_copyFrom_115 ?_
    refine W.eq (g2 := F0 m 118 ls [.ref a_w2, .ref a_w]) rfl ?_
    obtain ⟨hPc, hDc, hFc⟩ := g5_sub3 (wc := [(a_w, (oc6 6 6 a_wn e_w)), (a_wn, (arI G 36 f_w)), (a_w2, (oc6 6 6 a_wn2 e_w2)), (a_wn2, (arI G 36 f_w2))]) hP hD hS hA [2, 3, 7, 8] (by decide +kernel) rfl
    refine va_callv (va_runV (As := [.ref a_w2]) (rest := []) ⟨hx, hb, hml, hown, hts⟩ (t_copyFrom_W l G a_w a_wn a_w2 a_wn2 H.size e_w e_w2 f_w f_w2 h_e_w h_e_w2) (cwV 1 hts gV_X1_80 rfl rfl rfl hv_X6_copyFrom ⟨Nat.le_of_ble_eq_true rfl, Nat.le_of_ble_eq_true rfl⟩) (g5_preV hPc hK hDc hN hT hS hFc (ci := 6) (q0 := 0) rfl rfl) rfl rfl hl.1 rfl (lv_room (Nat.le_of_ble_eq_true rfl)) dX1_copyFrom_118 ⟨Nat.le_of_ble_eq_true rfl, Nat.le_of_ble_eq_true rfl⟩) hS (fun q _ h => hFc q h) hFc (fun u t H locs ht hvm hw hB hz1 hk1 hS => ?_)
    obtain ⟨hP1, hD1⟩ := hB
    have hP1 := g5_ht ht hP1
    obtain rfl := hw
    have hJ9 := va_join (wr := [(a_h, (oc1 e_wa2 e_le2 e_st2 e_fo2 e_lc2 a_l a_g a_b a_s a_p a_w e_gb a_bb)), (a_l, (arW G 6 k_l)), (a_bb, (arJ G 24 f_bb)), (a_h2, (oc1 e_wa2 e_le2 e_st2 e_fo2 e_lc2 a_l2 a_g2 a_b2 a_s2 a_p2 a_w2 e_gb2 a_bb2)), (a_l2, (arW G 6 f_l2)), (a_bb2, (arJ G 24 f_bb2)), (a_g, (oc6 6 5 a_gn e_g2)), (a_gn, (arI G 30 (va_cpy f_g2 f_g 0 0 30))), (a_g2, (oc6 6 5 a_gn2 e_g2)), (a_gn2, (arI G 30 f_g2)), (a_b, (oc6 5 24 a_bn e_b2)), (a_bn, (arI G 120 (va_cpy f_b2 f_b 0 0 120))), (a_b2, (oc6 5 24 a_bn2 e_b2)), (a_bn2, (arI G 120 f_b2)), (a_s, (oc6 10 4 a_sn e_s2)), (a_sn, (arI G 40 (va_cpy f_s2 f_s 0 0 40))), (a_s2, (oc6 10 4 a_sn2 e_s2)), (a_sn2, (arI G 40 f_s2)), (a_p, (oc6 8 5 a_pn e_p2)), (a_pn, (arI G 40 (va_cpy f_p2 f_p 0 0 40))), (a_p2, (oc6 8 5 a_pn2 e_p2)), (a_pn2, (arI G 40 f_p2))]) hP hD [2, 3, 7, 8] [0, 1, 4, 5, 6, 9, 10, 11, 12, 13, 14, 15, 16, 17, 18, 19, 20, 21, 22, 23, 24, 25] rfl rfl (by decide +kernel) (by decide +kernel) hk1 hFc hP1 hD1
    clear hP hD hPc hDc hFc ht hvm hz1 hk1 hP1 hD1
    obtain ⟨hP, hD⟩ := hJ9
    refine g5_rs [(a_h, (oc1 e_wa2 e_le2 e_st2 e_fo2 e_lc2 a_l a_g a_b a_s a_p a_w e_gb a_bb)), (a_l, (arW G 6 k_l)), (a_bb, (arJ G 24 f_bb)), (a_h2, (oc1 e_wa2 e_le2 e_st2 e_fo2 e_lc2 a_l2 a_g2 a_b2 a_s2 a_p2 a_w2 e_gb2 a_bb2)), (a_l2, (arW G 6 f_l2)), (a_bb2, (arJ G 24 f_bb2)), (a_g, (oc6 6 5 a_gn e_g2)), (a_gn, (arI G 30 (va_cpy f_g2 f_g 0 0 30))), (a_g2, (oc6 6 5 a_gn2 e_g2)), (a_gn2, (arI G 30 f_g2)), (a_b, (oc6 5 24 a_bn e_b2)), (a_bn, (arI G 120 (va_cpy f_b2 f_b 0 0 120))), (a_b2, (oc6 5 24 a_bn2 e_b2)), (a_bn2, (arI G 120 f_b2)), (a_s, (oc6 10 4 a_sn e_s2)), (a_sn, (arI G 40 (va_cpy f_s2 f_s 0 0 40))), (a_s2, (oc6 10 4 a_sn2 e_s2)), (a_sn2, (arI G 40 f_s2)), (a_p, (oc6 8 5 a_pn e_p2)), (a_pn, (arI G 40 (va_cpy f_p2 f_p 0 0 40))), (a_p2, (oc6 8 5 a_pn2 e_p2)), (a_pn2, (arI G 40 f_p2)), (a_w, (oc6 6 6 a_wn e_w2)), (a_wn, (arI G 36 (va_cpy f_w2 f_w 0 0 36))), (a_w2, (oc6 6 6 a_wn2 e_w2)), (a_wn2, (arI G 36 f_w2))] hP hD ?_
    clear hP hD
    intro hP hD
    refine lv_aload_n hx hb dX1_copyFrom_121 rfl (lv_at hl 1 rfl) ?_
    refine lv_aload_n hx hb dX1_copyFrom_122 rfl (lv_at hl 2 rfl) ?_
    refine va_get (D := G.1) (ci := 1) (v := .long e_gb2) (C := RX1) (T := TX1) (N := 13) hx hb hts inG_X1 hown hK hP 3 rfl rfl 11 (by decide +kernel) (hts _ fl_X1_55) (fun _ h9 => h9) rfl dX1_copyFrom_123 ?_
    refine va_put (D := G.1) (ci := 1) (v := .long e_gb2) (ty := .long) (C := RX1) (T := TX1) (N := 13) hx hb hts inG_X1 tyX1 tyX1_ok nmX1 hown hK hP hD hS 0 rfl rfl 11 (by decide +kernel) (hts _ fl_X1_55) (fun _ h9 => h9) rfl (by decide +kernel) rfl rfl (Nat.le_of_ble_eq_true rfl) dX1_copyFrom_126 ?_
    clear hP hD hS
    intro H locs hP hD hS
    refine g5_rs [(a_h, (oc1 e_wa2 e_le2 e_st2 e_fo2 e_lc2 a_l a_g a_b a_s a_p a_w e_gb2 a_bb)), (a_l, (arW G 6 k_l)), (a_bb, (arJ G 24 f_bb)), (a_h2, (oc1 e_wa2 e_le2 e_st2 e_fo2 e_lc2 a_l2 a_g2 a_b2 a_s2 a_p2 a_w2 e_gb2 a_bb2)), (a_l2, (arW G 6 f_l2)), (a_bb2, (arJ G 24 f_bb2)), (a_g, (oc6 6 5 a_gn e_g2)), (a_gn, (arI G 30 (va_cpy f_g2 f_g 0 0 30))), (a_g2, (oc6 6 5 a_gn2 e_g2)), (a_gn2, (arI G 30 f_g2)), (a_b, (oc6 5 24 a_bn e_b2)), (a_bn, (arI G 120 (va_cpy f_b2 f_b 0 0 120))), (a_b2, (oc6 5 24 a_bn2 e_b2)), (a_bn2, (arI G 120 f_b2)), (a_s, (oc6 10 4 a_sn e_s2)), (a_sn, (arI G 40 (va_cpy f_s2 f_s 0 0 40))), (a_s2, (oc6 10 4 a_sn2 e_s2)), (a_sn2, (arI G 40 f_s2)), (a_p, (oc6 8 5 a_pn e_p2)), (a_pn, (arI G 40 (va_cpy f_p2 f_p 0 0 40))), (a_p2, (oc6 8 5 a_pn2 e_p2)), (a_pn2, (arI G 40 f_p2)), (a_w, (oc6 6 6 a_wn e_w2)), (a_wn, (arI G 36 (va_cpy f_w2 f_w 0 0 36))), (a_w2, (oc6 6 6 a_wn2 e_w2)), (a_wn2, (arI G 36 f_w2))] hP hD ?_
    clear hP hD
    intro hP hD
    refine W.eq (g2 := F0 m 129 ls []) rfl ?_
    refine lv_aload_n hx hb dX1_copyFrom_129 rfl (lv_at hl 2 rfl) ?_
    refine va_get (D := G.1) (ci := 1) (v := .ref a_bb2) (C := RX1) (T := TX1) (N := 13) hx hb hts inG_X1 hown hK hP 3 rfl rfl 12 (by decide +kernel) (hts _ fl_X1_58) (fun _ h9 => h9) rfl dX1_copyFrom_130 ?_
    refine lv_iconst (v := 0) hx hb dX1_copyFrom_133 (by decide +kernel) ?_
    refine lv_aload_n hx hb dX1_copyFrom_134 rfl (lv_at hl 1 rfl) ?_
    refine va_get (D := G.1) (ci := 1) (v := .ref a_bb) (C := RX1) (T := TX1) (N := 13) hx hb hts inG_X1 hown hK hP 0 rfl rfl 12 (by decide +kernel) (hts _ fl_X1_58) (fun _ h9 => h9) rfl dX1_copyFrom_135 ?_
    refine W.eq (g2 := F0 m 138 ls [.ref a_bb, .int 0, .ref a_bb2]) rfl ?_
    refine lv_iconst (v := 0) hx hb dX1_copyFrom_138 (by decide +kernel) ?_
    refine lv_bipush (v := 24) hx hb dX1_copyFrom_139 (by decide +kernel) ?_
    refine va_copyl hx hb (hml.trans hl.1.symm) hown (hts _ ml_X1_84) (hts _ ac_nat) (hts _ ac_st) (hts _ ac_ini) hK hP hD hS 5 2 1 1 rfl rfl rfl rfl rfl (sp := 0) (dp := 0) (n := 24) (by decide +kernel) (by decide +kernel) (by decide +kernel) (by decide +kernel) (by decide +kernel) (fun _ _ => rfl) (Nat.le_of_ble_eq_true rfl) (by decide +kernel) dX1_copyFrom_141 ?_
    clear hP hD hS
    intro H locs hP hD hS
    refine g5_rs [(a_h, (oc1 e_wa2 e_le2 e_st2 e_fo2 e_lc2 a_l a_g a_b a_s a_p a_w e_gb2 a_bb)), (a_l, (arW G 6 k_l)), (a_bb, (arJ G 24 (va_cpy f_bb2 f_bb 0 0 24))), (a_h2, (oc1 e_wa2 e_le2 e_st2 e_fo2 e_lc2 a_l2 a_g2 a_b2 a_s2 a_p2 a_w2 e_gb2 a_bb2)), (a_l2, (arW G 6 f_l2)), (a_bb2, (arJ G 24 f_bb2)), (a_g, (oc6 6 5 a_gn e_g2)), (a_gn, (arI G 30 (va_cpy f_g2 f_g 0 0 30))), (a_g2, (oc6 6 5 a_gn2 e_g2)), (a_gn2, (arI G 30 f_g2)), (a_b, (oc6 5 24 a_bn e_b2)), (a_bn, (arI G 120 (va_cpy f_b2 f_b 0 0 120))), (a_b2, (oc6 5 24 a_bn2 e_b2)), (a_bn2, (arI G 120 f_b2)), (a_s, (oc6 10 4 a_sn e_s2)), (a_sn, (arI G 40 (va_cpy f_s2 f_s 0 0 40))), (a_s2, (oc6 10 4 a_sn2 e_s2)), (a_sn2, (arI G 40 f_s2)), (a_p, (oc6 8 5 a_pn e_p2)), (a_pn, (arI G 40 (va_cpy f_p2 f_p 0 0 40))), (a_p2, (oc6 8 5 a_pn2 e_p2)), (a_pn2, (arI G 40 f_p2)), (a_w, (oc6 6 6 a_wn e_w2)), (a_wn, (arI G 36 (va_cpy f_w2 f_w 0 0 36))), (a_w2, (oc6 6 6 a_wn2 e_w2)), (a_wn2, (arI G 36 f_w2))] hP hD ?_
    clear hP hD
    intro hP hD
    exact W.vret hx hb hr (fun t ht hW => ⟨⟨[(a_h, (oc1 e_wa2 e_le2 e_st2 e_fo2 e_lc2 a_l a_g a_b a_s a_p a_w e_gb2 a_bb)), (a_l, (arW G 6 k_l)), (a_g, (oc6 6 5 a_gn e_g2)), (a_gn, (arI G 30 (va_cpy f_g2 f_g 0 0 30))), (a_b, (oc6 5 24 a_bn e_b2)), (a_bn, (arI G 120 (va_cpy f_b2 f_b 0 0 120))), (a_s, (oc6 10 4 a_sn e_s2)), (a_sn, (arI G 40 (va_cpy f_s2 f_s 0 0 40))), (a_p, (oc6 8 5 a_pn e_p2)), (a_pn, (arI G 40 (va_cpy f_p2 f_p 0 0 40))), (a_w, (oc6 6 6 a_wn e_w2)), (a_wn, (arI G 36 (va_cpy f_w2 f_w 0 0 36))), (a_bb, (arJ G 24 (va_cpy f_bb2 f_bb 0 0 24))), (a_h2, (oc1 e_wa2 e_le2 e_st2 e_fo2 e_lc2 a_l2 a_g2 a_b2 a_s2 a_p2 a_w2 e_gb2 a_bb2)), (a_l2, (arW G 6 f_l2)), (a_g2, (oc6 6 5 a_gn2 e_g2)), (a_gn2, (arI G 30 f_g2)), (a_b2, (oc6 5 24 a_bn2 e_b2)), (a_bn2, (arI G 120 f_b2)), (a_s2, (oc6 10 4 a_sn2 e_s2)), (a_sn2, (arI G 40 f_s2)), (a_p2, (oc6 8 5 a_pn2 e_p2)), (a_pn2, (arI G 40 f_p2)), (a_w2, (oc6 6 6 a_wn2 e_w2)), (a_wn2, (arI G 36 f_w2)), (a_bb2, (arJ G 24 f_bb2))], rfl, ⟨k_l, fun j hj => i_2 j (by omega), rfl⟩, by rw [ht]; exact hP.sub [0, 1, 6, 7, 10, 11, 14, 15, 18, 19, 22, 23, 2, 3, 4, 8, 9, 12, 13, 16, 17, 20, 21, 24, 25, 5] rfl, hD.sub [0, 1, 6, 7, 10, 11, 14, 15, 18, 19, 22, 23, 2, 3, 4, 8, 9, 12, 13, 16, 17, 20, 21, 24, 25, 5] (by decide +kernel) rfl⟩, hS.F ht⟩) hS.2.2 dX1_copyFrom_144
  ·
    have i_4 : k_i.toInt < 6 := g5_geN (a := k_i.toInt) (b := 6) rfl (by decide +kernel) c_4
    refine lv_aload_n hx hb dX1_copyFrom_48 rfl (lv_at hl 1 rfl) ?_
    refine va_get (D := G.1) (ci := 1) (v := .ref a_l) (C := RX1) (T := TX1) (N := 13) hx hb hts inG_X1 hown hK hP 0 rfl rfl 5 (by decide +kernel) (hts _ fl_X1_30) (fun _ h9 => h9) rfl dX1_copyFrom_49 ?_
    refine lv_iload_n hx hb dX1_copyFrom_52 rfl (lv_at hl 0 rfl) ?_
    refine lv_aload_n hx hb dX1_copyFrom_53 rfl (lv_at hl 2 rfl) ?_
    refine W.eq (g2 := F0 m 54 ls [.ref a_h2, .int k_i, .ref a_l]) rfl ?_
    refine va_get (D := G.1) (ci := 1) (v := .ref a_l2) (C := RX1) (T := TX1) (N := 13) hx hb hts inG_X1 hown hK hP 13 rfl rfl 5 (by decide +kernel) (hts _ fl_X1_30) (fun _ h9 => h9) rfl dX1_copyFrom_54 ?_
    refine lv_iload_n hx hb dX1_copyFrom_57 rfl (lv_at hl 0 rfl) ?_
    refine va_aldq hx hb hK hP 14 4 rfl rfl (i := k_i) (vp_in_iff.mpr ⟨by omega, by omega⟩) dX1_copyFrom_58 ?_
    rcases hq9 : f_l2 k_i.toNatClampNeg with _ | v9
    ·
      refine g5_tv (v := .null) rfl ?_
      refine va_astqN hx hb hK hP hD hS 1 4 rfl rfl (i := k_i) (vp_in_iff.mpr ⟨by omega, by omega⟩) dX1_copyFrom_59 ?_
      clear hP hD hS
      intro H locs hP hD hS
      refine g5_rs [(a_h, (oc1 e_wa2 e_le2 e_st2 e_fo2 e_lc2 a_l a_g a_b a_s a_p a_w e_gb a_bb)), (a_l, (arW G 6 (va_up k_l k_i.toNatClampNeg none))), (a_g, (oc6 6 5 a_gn e_g)), (a_gn, (arI G 30 f_g)), (a_b, (oc6 5 24 a_bn e_b)), (a_bn, (arI G 120 f_b)), (a_s, (oc6 10 4 a_sn e_s)), (a_sn, (arI G 40 f_s)), (a_p, (oc6 8 5 a_pn e_p)), (a_pn, (arI G 40 f_p)), (a_w, (oc6 6 6 a_wn e_w)), (a_wn, (arI G 36 f_w)), (a_bb, (arJ G 24 f_bb)), (a_h2, (oc1 e_wa2 e_le2 e_st2 e_fo2 e_lc2 a_l2 a_g2 a_b2 a_s2 a_p2 a_w2 e_gb2 a_bb2)), (a_l2, (arW G 6 f_l2)), (a_g2, (oc6 6 5 a_gn2 e_g2)), (a_gn2, (arI G 30 f_g2)), (a_b2, (oc6 5 24 a_bn2 e_b2)), (a_bn2, (arI G 120 f_b2)), (a_s2, (oc6 10 4 a_sn2 e_s2)), (a_sn2, (arI G 40 f_s2)), (a_p2, (oc6 8 5 a_pn2 e_p2)), (a_pn2, (arI G 40 f_p2)), (a_w2, (oc6 6 6 a_wn2 e_w2)), (a_wn2, (arI G 36 f_w2)), (a_bb2, (arJ G 24 f_bb2))] hP hD ?_
      clear hP hD
      intro hP hD
      refine lv_iinc (v := (k_i + 1)) (lv' := [(2, .int (k_i + 1)), (0, .ref a_h), (1, .ref a_h2)]) hx hb dX1_copyFrom_60 hl (k := 0) rfl rfl (by decide +kernel) rfl ?_
      clear hl
      intro ls hl
      have t_5 : (k_i + 1).toInt = k_i.toInt + 1 := g5_iadd (a := k_i.toInt) (b := 1) rfl (by decide +kernel) (by omega) (by omega)
      refine lv_goto (tgt := 42) hx hb dX1_copyFrom_63 (by decide +kernel) ?_
      exact ih_42_3 ((k_i + 1), (va_up k_l k_i.toNatClampNeg none)) ls H locs (show Int.toNat (6 - (k_i + 1).toInt) < Int.toNat (6 - k_i.toInt) from g_up (show k_i.toInt < (k_i + 1).toInt by omega) (show k_i.toInt < 6 by omega)) ⟨lv_sub hl [0, 1, 2] rfl, hP, hD, hS, ⟨by omega, by omega⟩, cp_law i_2 (by omega) (by omega) hq9⟩
    ·
      refine g5_tv (v := .ref v9) rfl ?_
      refine va_astqM hx hb hK hP hD hS 1 4 rfl rfl (g_any ((hLA _ _ (by have zz := g5_clamp k_i; omega) hq9).kept hS.2.1)) (i := k_i) (vp_in_iff.mpr ⟨by omega, by omega⟩) dX1_copyFrom_59 ?_
      clear hP hD hS
      intro H locs hP hD hS
      refine g5_rs [(a_h, (oc1 e_wa2 e_le2 e_st2 e_fo2 e_lc2 a_l a_g a_b a_s a_p a_w e_gb a_bb)), (a_l, (arW G 6 (va_up k_l k_i.toNatClampNeg (some v9)))), (a_g, (oc6 6 5 a_gn e_g)), (a_gn, (arI G 30 f_g)), (a_b, (oc6 5 24 a_bn e_b)), (a_bn, (arI G 120 f_b)), (a_s, (oc6 10 4 a_sn e_s)), (a_sn, (arI G 40 f_s)), (a_p, (oc6 8 5 a_pn e_p)), (a_pn, (arI G 40 f_p)), (a_w, (oc6 6 6 a_wn e_w)), (a_wn, (arI G 36 f_w)), (a_bb, (arJ G 24 f_bb)), (a_h2, (oc1 e_wa2 e_le2 e_st2 e_fo2 e_lc2 a_l2 a_g2 a_b2 a_s2 a_p2 a_w2 e_gb2 a_bb2)), (a_l2, (arW G 6 f_l2)), (a_g2, (oc6 6 5 a_gn2 e_g2)), (a_gn2, (arI G 30 f_g2)), (a_b2, (oc6 5 24 a_bn2 e_b2)), (a_bn2, (arI G 120 f_b2)), (a_s2, (oc6 10 4 a_sn2 e_s2)), (a_sn2, (arI G 40 f_s2)), (a_p2, (oc6 8 5 a_pn2 e_p2)), (a_pn2, (arI G 40 f_p2)), (a_w2, (oc6 6 6 a_wn2 e_w2)), (a_wn2, (arI G 36 f_w2)), (a_bb2, (arJ G 24 f_bb2))] hP hD ?_
      clear hP hD
      intro hP hD
      refine lv_iinc (v := (k_i + 1)) (lv' := [(2, .int (k_i + 1)), (0, .ref a_h), (1, .ref a_h2)]) hx hb dX1_copyFrom_60 hl (k := 0) rfl rfl (by decide +kernel) rfl ?_
      clear hl
      intro ls hl
      have t_6 : (k_i + 1).toInt = k_i.toInt + 1 := g5_iadd (a := k_i.toInt) (b := 1) rfl (by decide +kernel) (by omega) (by omega)
      refine lv_goto (tgt := 42) hx hb dX1_copyFrom_63 (by decide +kernel) ?_
      exact ih_42_3 ((k_i + 1), (va_up k_l k_i.toNatClampNeg (some v9))) ls H locs (show Int.toNat (6 - (k_i + 1).toInt) < Int.toNat (6 - k_i.toInt) from g_up (show k_i.toInt < (k_i + 1).toInt by omega) (show k_i.toInt < 6 by omega)) ⟨lv_sub hl [0, 1, 2] rfl, hP, hD, hS, ⟨by omega, by omega⟩, cp_law i_2 (by omega) (by omega) hq9⟩
set_option maxHeartbeats 4000000 in
set_option maxRecDepth 100000 in
theorem x_isCell (l : Launch) (G : g5_G) (sz : Nat) (p_v : Int32) : Met l yX11_isCell (wsG yX11_isCell cX11_isCell 1 (some .boolean)) ({ frames := 0, cells := 0, slots := 0, locals := 0 }) (va_Pc [.int p_v] (g5_P G [] sz)) (va_Qi (fun (r : Int32) (u : va_W) => ((0 ≤ p_v.toInt ∧ p_v.toInt ≤ 63) ∧ (r = 1) ∧ (u = [])) ∨ ((r = 0) ∧ (u = []))) (g5_B G (va_A [] sz)) (va_A [] sz)) 0 0 (va_A [] sz) := by
  refine Met.ofW (cc := cX11_isCell) (maxL := 1) (ret := (some .boolean)) (by decide) rfl ?_
  intro p e s m args below meth c s₁ B hml hv
  obtain ⟨rfl, hsz, hP, hK, hD0, hN, hT⟩ := hv
  have hx := B.exec
  have hb := B.bytes
  have hr := B.returns
  have hts : ∀ w ∈ tblG, w.before _ s = true := fun w h => atoms_spec (ws := (wsG yX11_isCell cX11_isCell 1 (some .boolean))) B.pre w (List.mem_cons_of_mem _ h)
  have hown : s.vm.findClass RX11 = some m.cls := findClass_of_methodNamed B.named
  have hlocks := B.notSynchronized
  subst hsz
  have hD := hD0.self (sz := s.heap.size)
  generalize hAe : va_A [] s.heap.size = A at hD hT ⊢
  have hA : ∀ q : Nat, s.heap.size ≤ q → A q := fun q h => by rw [← hAe]; exact Or.inr h
  have hS : va_S A s.heap s.heap [] := va_S.rf
  have hP : va_P G.1 vwCl [] s.heap := hP
  have hl := lv_entry ([.int p_v]) (n := 1) (Nat.le_of_ble_eq_true rfl)
  rw [lg_entry_eq]
  generalize (lg_sl ([.int p_v]) ++ List.replicate (1 - (lg_sl ([.int p_v])).length) Slot.unset).toArray = ls at hl ⊢
  have hl : lv_has ls 1 [(0, .int p_v)] := hl
  refine lv_iload_n hx hb dX11_isCell_0 rfl (lv_at hl 0 rfl) ?_
  refine lv_if_lt (tgt := 14) hx hb dX11_isCell_1 (by decide) (fun c_1 => ?_) (fun c_1 => ?_)
  ·
    have i_1 : p_v.toInt < 0 := by have z := g5_lt (a := p_v.toInt) (b := 0) (by rfl) (by decide) c_1; omega
    refine lv_iconst (v := 0) hx hb dX11_isCell_14 (by decide) ?_
    exact W.zret (v := 0) hx hb hr rfl (fun t ht hW => ⟨⟨0, [], rfl, Or.inr (⟨rfl, rfl⟩), by rw [ht]; exact hP.sub [] rfl, hD.sub [] (by decide) rfl⟩, hS.F ht⟩) hS.2.2 dX11_isCell_15
  ·
    have i_1 : p_v.toInt ≥ 0 := by have z := g5_ltN (a := p_v.toInt) (b := 0) (by rfl) (by decide) c_1; omega
    refine lv_iload_n hx hb dX11_isCell_4 rfl (lv_at hl 0 rfl) ?_
    refine lv_bipush (v := 64) hx hb dX11_isCell_5 (by decide) ?_
    refine lv_icmp_ge (tgt := 14) hx hb dX11_isCell_7 (by decide) (fun c_2 => ?_) (fun c_2 => ?_)
    ·
      have i_2 : p_v.toInt ≥ 64 := by have z := g5_ge (a := p_v.toInt) (b := 64) (by rfl) (by decide) c_2; omega
      refine lv_iconst (v := 0) hx hb dX11_isCell_14 (by decide) ?_
      exact W.zret (v := 0) hx hb hr rfl (fun t ht hW => ⟨⟨0, [], rfl, Or.inr (⟨rfl, rfl⟩), by rw [ht]; exact hP.sub [] rfl, hD.sub [] (by decide) rfl⟩, hS.F ht⟩) hS.2.2 dX11_isCell_15
    ·
      have i_2 : p_v.toInt < 64 := by have z := g5_geN (a := p_v.toInt) (b := 64) (by rfl) (by decide) c_2; omega
      refine lv_iconst (v := 1) hx hb dX11_isCell_10 (by decide) ?_
      refine lv_goto (tgt := 15) hx hb dX11_isCell_11 (by decide) ?_
      exact W.zret (v := 1) hx hb hr rfl (fun t ht hW => ⟨⟨1, [], rfl, Or.inl (⟨by omega, rfl, rfl⟩), by rw [ht]; exact hP.sub [] rfl, hD.sub [] (by decide) rfl⟩, hS.F ht⟩) hS.2.2 dX11_isCell_15
theorem dgX11_isCellOrNone_0 : ∀ r ∈ ([(0, (.iload_n 0, 1)), (1, (.iconst (-1), 1)), (2, (.if_icmp .lt 13, 3)), (5, (.iload_n 0, 1)), (6, (.bipush 64, 2)), (8, (.if_icmp .ge 7, 3)), (11, (.iconst 1, 1)), (12, (.goto 4, 3)), (15, (.iconst 0, 1)), (16, (.ireturn, 1))] : List (Nat × (Instr × Nat))), decode cX11_isCellOrNone r.1 = .ok r.2 := by decide +kernel
theorem dX11_isCellOrNone_0 : decode cX11_isCellOrNone 0 = .ok (.iload_n 0, 1) := dgX11_isCellOrNone_0 (0, (.iload_n 0, 1)) (List.mem_of_getElem? (i := 0) rfl)
theorem dX11_isCellOrNone_1 : decode cX11_isCellOrNone 1 = .ok (.iconst (-1), 1) := dgX11_isCellOrNone_0 (1, (.iconst (-1), 1)) (List.mem_of_getElem? (i := 1) rfl)
theorem dX11_isCellOrNone_2 : decode cX11_isCellOrNone 2 = .ok (.if_icmp .lt 13, 3) := dgX11_isCellOrNone_0 (2, (.if_icmp .lt 13, 3)) (List.mem_of_getElem? (i := 2) rfl)
theorem dX11_isCellOrNone_5 : decode cX11_isCellOrNone 5 = .ok (.iload_n 0, 1) := dgX11_isCellOrNone_0 (5, (.iload_n 0, 1)) (List.mem_of_getElem? (i := 3) rfl)
theorem dX11_isCellOrNone_6 : decode cX11_isCellOrNone 6 = .ok (.bipush 64, 2) := dgX11_isCellOrNone_0 (6, (.bipush 64, 2)) (List.mem_of_getElem? (i := 4) rfl)
theorem dX11_isCellOrNone_8 : decode cX11_isCellOrNone 8 = .ok (.if_icmp .ge 7, 3) := dgX11_isCellOrNone_0 (8, (.if_icmp .ge 7, 3)) (List.mem_of_getElem? (i := 5) rfl)
theorem dX11_isCellOrNone_11 : decode cX11_isCellOrNone 11 = .ok (.iconst 1, 1) := dgX11_isCellOrNone_0 (11, (.iconst 1, 1)) (List.mem_of_getElem? (i := 6) rfl)
theorem dX11_isCellOrNone_12 : decode cX11_isCellOrNone 12 = .ok (.goto 4, 3) := dgX11_isCellOrNone_0 (12, (.goto 4, 3)) (List.mem_of_getElem? (i := 7) rfl)
theorem dX11_isCellOrNone_15 : decode cX11_isCellOrNone 15 = .ok (.iconst 0, 1) := dgX11_isCellOrNone_0 (15, (.iconst 0, 1)) (List.mem_of_getElem? (i := 8) rfl)
theorem dX11_isCellOrNone_16 : decode cX11_isCellOrNone 16 = .ok (.ireturn, 1) := dgX11_isCellOrNone_0 (16, (.ireturn, 1)) (List.mem_of_getElem? (i := 9) rfl)
set_option maxHeartbeats 4000000 in
set_option maxRecDepth 100000 in
theorem x_isCellOrNone (l : Launch) (G : g5_G) (sz : Nat) (p_v : Int32) : Met l yX11_isCellOrNone (wsG yX11_isCellOrNone cX11_isCellOrNone 1 (some .boolean)) ({ frames := 0, cells := 0, slots := 0, locals := 0 }) (va_Pc [.int p_v] (g5_P G [] sz)) (va_Qi (fun (r : Int32) (u : va_W) => (((-1) ≤ p_v.toInt ∧ p_v.toInt ≤ 63) ∧ (r = 1) ∧ (u = [])) ∨ ((r = 0) ∧ (u = []))) (g5_B G (va_A [] sz)) (va_A [] sz)) 0 0 (va_A [] sz) := by
  refine Met.ofW (cc := cX11_isCellOrNone) (maxL := 1) (ret := (some .boolean)) (by decide) rfl ?_
  intro p e s m args below meth c s₁ B hml hv
  obtain ⟨rfl, hsz, hP, hK, hD0, hN, hT⟩ := hv
  have hx := B.exec
  have hb := B.bytes
  have hr := B.returns
  have hts : ∀ w ∈ tblG, w.before _ s = true := fun w h => atoms_spec (ws := (wsG yX11_isCellOrNone cX11_isCellOrNone 1 (some .boolean))) B.pre w (List.mem_cons_of_mem _ h)
  have hown : s.vm.findClass RX11 = some m.cls := findClass_of_methodNamed B.named
  have hlocks := B.notSynchronized
  subst hsz
  have hD := hD0.self (sz := s.heap.size)
  generalize hAe : va_A [] s.heap.size = A at hD hT ⊢
  have hA : ∀ q : Nat, s.heap.size ≤ q → A q := fun q h => by rw [← hAe]; exact Or.inr h
  have hS : va_S A s.heap s.heap [] := va_S.rf
  have hP : va_P G.1 vwCl [] s.heap := hP
  have hl := lv_entry ([.int p_v]) (n := 1) (Nat.le_of_ble_eq_true rfl)
  rw [lg_entry_eq]
  generalize (lg_sl ([.int p_v]) ++ List.replicate (1 - (lg_sl ([.int p_v])).length) Slot.unset).toArray = ls at hl ⊢
  have hl : lv_has ls 1 [(0, .int p_v)] := hl
  refine lv_iload_n hx hb dX11_isCellOrNone_0 rfl (lv_at hl 0 rfl) ?_
  refine lv_iconst (v := (-1)) hx hb dX11_isCellOrNone_1 (by decide) ?_
  refine lv_icmp_lt (tgt := 15) hx hb dX11_isCellOrNone_2 (by decide) (fun c_1 => ?_) (fun c_1 => ?_)
  ·
    have i_1 : p_v.toInt < (-1) := by have z := g5_lt (a := p_v.toInt) (b := (-1)) (by rfl) (by decide) c_1; omega
    refine lv_iconst (v := 0) hx hb dX11_isCellOrNone_15 (by decide) ?_
    exact W.zret (v := 0) hx hb hr rfl (fun t ht hW => ⟨⟨0, [], rfl, Or.inr (⟨rfl, rfl⟩), by rw [ht]; exact hP.sub [] rfl, hD.sub [] (by decide) rfl⟩, hS.F ht⟩) hS.2.2 dX11_isCellOrNone_16
  ·
    have i_1 : p_v.toInt ≥ (-1) := by have z := g5_ltN (a := p_v.toInt) (b := (-1)) (by rfl) (by decide) c_1; omega
    refine lv_iload_n hx hb dX11_isCellOrNone_5 rfl (lv_at hl 0 rfl) ?_
    refine lv_bipush (v := 64) hx hb dX11_isCellOrNone_6 (by decide) ?_
    refine lv_icmp_ge (tgt := 15) hx hb dX11_isCellOrNone_8 (by decide) (fun c_2 => ?_) (fun c_2 => ?_)
    ·
      have i_2 : p_v.toInt ≥ 64 := by have z := g5_ge (a := p_v.toInt) (b := 64) (by rfl) (by decide) c_2; omega
      refine lv_iconst (v := 0) hx hb dX11_isCellOrNone_15 (by decide) ?_
      exact W.zret (v := 0) hx hb hr rfl (fun t ht hW => ⟨⟨0, [], rfl, Or.inr (⟨rfl, rfl⟩), by rw [ht]; exact hP.sub [] rfl, hD.sub [] (by decide) rfl⟩, hS.F ht⟩) hS.2.2 dX11_isCellOrNone_16
    ·
      have i_2 : p_v.toInt < 64 := by have z := g5_geN (a := p_v.toInt) (b := 64) (by rfl) (by decide) c_2; omega
      refine lv_iconst (v := 1) hx hb dX11_isCellOrNone_11 (by decide) ?_
      refine lv_goto (tgt := 16) hx hb dX11_isCellOrNone_12 (by decide) ?_
      exact W.zret (v := 1) hx hb hr rfl (fun t ht hW => ⟨⟨1, [], rfl, Or.inl (⟨by omega, rfl, rfl⟩), by rw [ht]; exact hP.sub [] rfl, hD.sub [] (by decide) rfl⟩, hS.F ht⟩) hS.2.2 dX11_isCellOrNone_16
set_option maxHeartbeats 4000000 in
set_option maxRecDepth 100000 in
theorem x_isHour (l : Launch) (G : g5_G) (sz : Nat) (p_v : Int32) : Met l yX11_isHour (wsG yX11_isHour cX11_isHour 1 (some .boolean)) ({ frames := 0, cells := 0, slots := 0, locals := 0 }) (va_Pc [.int p_v] (g5_P G [] sz)) (va_Qi (fun (r : Int32) (u : va_W) => ((0 ≤ p_v.toInt ∧ p_v.toInt ≤ 23) ∧ (r = 1) ∧ (u = [])) ∨ ((r = 0) ∧ (u = []))) (g5_B G (va_A [] sz)) (va_A [] sz)) 0 0 (va_A [] sz) := by
  refine Met.ofW (cc := cX11_isHour) (maxL := 1) (ret := (some .boolean)) (by decide) rfl ?_
  intro p e s m args below meth c s₁ B hml hv
  obtain ⟨rfl, hsz, hP, hK, hD0, hN, hT⟩ := hv
  have hx := B.exec
  have hb := B.bytes
  have hr := B.returns
  have hts : ∀ w ∈ tblG, w.before _ s = true := fun w h => atoms_spec (ws := (wsG yX11_isHour cX11_isHour 1 (some .boolean))) B.pre w (List.mem_cons_of_mem _ h)
  have hown : s.vm.findClass RX11 = some m.cls := findClass_of_methodNamed B.named
  have hlocks := B.notSynchronized
  subst hsz
  have hD := hD0.self (sz := s.heap.size)
  generalize hAe : va_A [] s.heap.size = A at hD hT ⊢
  have hA : ∀ q : Nat, s.heap.size ≤ q → A q := fun q h => by rw [← hAe]; exact Or.inr h
  have hS : va_S A s.heap s.heap [] := va_S.rf
  have hP : va_P G.1 vwCl [] s.heap := hP
  have hl := lv_entry ([.int p_v]) (n := 1) (Nat.le_of_ble_eq_true rfl)
  rw [lg_entry_eq]
  generalize (lg_sl ([.int p_v]) ++ List.replicate (1 - (lg_sl ([.int p_v])).length) Slot.unset).toArray = ls at hl ⊢
  have hl : lv_has ls 1 [(0, .int p_v)] := hl
  refine lv_iload_n hx hb dX11_isHour_0 rfl (lv_at hl 0 rfl) ?_
  refine lv_if_lt (tgt := 14) hx hb dX11_isHour_1 (by decide) (fun c_1 => ?_) (fun c_1 => ?_)
  ·
    have i_1 : p_v.toInt < 0 := by have z := g5_lt (a := p_v.toInt) (b := 0) (by rfl) (by decide) c_1; omega
    refine lv_iconst (v := 0) hx hb dX11_isHour_14 (by decide) ?_
    exact W.zret (v := 0) hx hb hr rfl (fun t ht hW => ⟨⟨0, [], rfl, Or.inr (⟨rfl, rfl⟩), by rw [ht]; exact hP.sub [] rfl, hD.sub [] (by decide) rfl⟩, hS.F ht⟩) hS.2.2 dX11_isHour_15
  ·
    have i_1 : p_v.toInt ≥ 0 := by have z := g5_ltN (a := p_v.toInt) (b := 0) (by rfl) (by decide) c_1; omega
    refine lv_iload_n hx hb dX11_isHour_4 rfl (lv_at hl 0 rfl) ?_
    refine lv_bipush (v := 24) hx hb dX11_isHour_5 (by decide) ?_
    refine lv_icmp_ge (tgt := 14) hx hb dX11_isHour_7 (by decide) (fun c_2 => ?_) (fun c_2 => ?_)
    ·
      have i_2 : p_v.toInt ≥ 24 := by have z := g5_ge (a := p_v.toInt) (b := 24) (by rfl) (by decide) c_2; omega
      refine lv_iconst (v := 0) hx hb dX11_isHour_14 (by decide) ?_
      exact W.zret (v := 0) hx hb hr rfl (fun t ht hW => ⟨⟨0, [], rfl, Or.inr (⟨rfl, rfl⟩), by rw [ht]; exact hP.sub [] rfl, hD.sub [] (by decide) rfl⟩, hS.F ht⟩) hS.2.2 dX11_isHour_15
    ·
      have i_2 : p_v.toInt < 24 := by have z := g5_geN (a := p_v.toInt) (b := 24) (by rfl) (by decide) c_2; omega
      refine lv_iconst (v := 1) hx hb dX11_isHour_10 (by decide) ?_
      refine lv_goto (tgt := 15) hx hb dX11_isHour_11 (by decide) ?_
      exact W.zret (v := 1) hx hb hr rfl (fun t ht hW => ⟨⟨1, [], rfl, Or.inl (⟨by omega, rfl, rfl⟩), by rw [ht]; exact hP.sub [] rfl, hD.sub [] (by decide) rfl⟩, hS.F ht⟩) hS.2.2 dX11_isHour_15
theorem dgX11_isSort_0 : ∀ r ∈ ([(0, (.iload_n 0, 1)), (1, (.ifCond .lt 13, 3)), (4, (.iload_n 0, 1)), (5, (.bipush 6, 2)), (7, (.if_icmp .ge 7, 3)), (10, (.iconst 1, 1)), (11, (.goto 4, 3)), (14, (.iconst 0, 1)), (15, (.ireturn, 1))] : List (Nat × (Instr × Nat))), decode cX11_isSort r.1 = .ok r.2 := by decide +kernel
theorem dX11_isSort_0 : decode cX11_isSort 0 = .ok (.iload_n 0, 1) := dgX11_isSort_0 (0, (.iload_n 0, 1)) (List.mem_of_getElem? (i := 0) rfl)
theorem dX11_isSort_1 : decode cX11_isSort 1 = .ok (.ifCond .lt 13, 3) := dgX11_isSort_0 (1, (.ifCond .lt 13, 3)) (List.mem_of_getElem? (i := 1) rfl)
theorem dX11_isSort_4 : decode cX11_isSort 4 = .ok (.iload_n 0, 1) := dgX11_isSort_0 (4, (.iload_n 0, 1)) (List.mem_of_getElem? (i := 2) rfl)
theorem dX11_isSort_5 : decode cX11_isSort 5 = .ok (.bipush 6, 2) := dgX11_isSort_0 (5, (.bipush 6, 2)) (List.mem_of_getElem? (i := 3) rfl)
theorem dX11_isSort_7 : decode cX11_isSort 7 = .ok (.if_icmp .ge 7, 3) := dgX11_isSort_0 (7, (.if_icmp .ge 7, 3)) (List.mem_of_getElem? (i := 4) rfl)
theorem dX11_isSort_10 : decode cX11_isSort 10 = .ok (.iconst 1, 1) := dgX11_isSort_0 (10, (.iconst 1, 1)) (List.mem_of_getElem? (i := 5) rfl)
theorem dX11_isSort_11 : decode cX11_isSort 11 = .ok (.goto 4, 3) := dgX11_isSort_0 (11, (.goto 4, 3)) (List.mem_of_getElem? (i := 6) rfl)
theorem dX11_isSort_14 : decode cX11_isSort 14 = .ok (.iconst 0, 1) := dgX11_isSort_0 (14, (.iconst 0, 1)) (List.mem_of_getElem? (i := 7) rfl)
theorem dX11_isSort_15 : decode cX11_isSort 15 = .ok (.ireturn, 1) := dgX11_isSort_0 (15, (.ireturn, 1)) (List.mem_of_getElem? (i := 8) rfl)
theorem dgX11_isDust_0 : ∀ r ∈ ([(0, (.iload_n 0, 1)), (1, (.ifCond .lt 13, 3)), (4, (.iload_n 0, 1)), (5, (.bipush 10, 2)), (7, (.if_icmp .gt 7, 3)), (10, (.iconst 1, 1)), (11, (.goto 4, 3)), (14, (.iconst 0, 1)), (15, (.ireturn, 1))] : List (Nat × (Instr × Nat))), decode cX11_isDust r.1 = .ok r.2 := by decide +kernel
theorem dX11_isDust_0 : decode cX11_isDust 0 = .ok (.iload_n 0, 1) := dgX11_isDust_0 (0, (.iload_n 0, 1)) (List.mem_of_getElem? (i := 0) rfl)
theorem dX11_isDust_1 : decode cX11_isDust 1 = .ok (.ifCond .lt 13, 3) := dgX11_isDust_0 (1, (.ifCond .lt 13, 3)) (List.mem_of_getElem? (i := 1) rfl)
theorem dX11_isDust_4 : decode cX11_isDust 4 = .ok (.iload_n 0, 1) := dgX11_isDust_0 (4, (.iload_n 0, 1)) (List.mem_of_getElem? (i := 2) rfl)
theorem dX11_isDust_5 : decode cX11_isDust 5 = .ok (.bipush 10, 2) := dgX11_isDust_0 (5, (.bipush 10, 2)) (List.mem_of_getElem? (i := 3) rfl)
theorem dX11_isDust_7 : decode cX11_isDust 7 = .ok (.if_icmp .gt 7, 3) := dgX11_isDust_0 (7, (.if_icmp .gt 7, 3)) (List.mem_of_getElem? (i := 4) rfl)
theorem dX11_isDust_10 : decode cX11_isDust 10 = .ok (.iconst 1, 1) := dgX11_isDust_0 (10, (.iconst 1, 1)) (List.mem_of_getElem? (i := 5) rfl)
theorem dX11_isDust_11 : decode cX11_isDust 11 = .ok (.goto 4, 3) := dgX11_isDust_0 (11, (.goto 4, 3)) (List.mem_of_getElem? (i := 6) rfl)
theorem dX11_isDust_14 : decode cX11_isDust 14 = .ok (.iconst 0, 1) := dgX11_isDust_0 (14, (.iconst 0, 1)) (List.mem_of_getElem? (i := 7) rfl)
theorem dX11_isDust_15 : decode cX11_isDust 15 = .ok (.ireturn, 1) := dgX11_isDust_0 (15, (.ireturn, 1)) (List.mem_of_getElem? (i := 8) rfl)
theorem dgX11_isFlag_0 : ∀ r ∈ ([(0, (.iload_n 0, 1)), (1, (.ifCond .eq 8, 3)), (4, (.iload_n 0, 1)), (5, (.iconst 1, 1)), (6, (.if_icmp .ne 7, 3)), (9, (.iconst 1, 1)), (10, (.goto 4, 3)), (13, (.iconst 0, 1)), (14, (.ireturn, 1))] : List (Nat × (Instr × Nat))), decode cX11_isFlag r.1 = .ok r.2 := by decide +kernel
theorem dX11_isFlag_0 : decode cX11_isFlag 0 = .ok (.iload_n 0, 1) := dgX11_isFlag_0 (0, (.iload_n 0, 1)) (List.mem_of_getElem? (i := 0) rfl)
theorem dX11_isFlag_1 : decode cX11_isFlag 1 = .ok (.ifCond .eq 8, 3) := dgX11_isFlag_0 (1, (.ifCond .eq 8, 3)) (List.mem_of_getElem? (i := 1) rfl)
theorem dX11_isFlag_4 : decode cX11_isFlag 4 = .ok (.iload_n 0, 1) := dgX11_isFlag_0 (4, (.iload_n 0, 1)) (List.mem_of_getElem? (i := 2) rfl)
theorem dX11_isFlag_5 : decode cX11_isFlag 5 = .ok (.iconst 1, 1) := dgX11_isFlag_0 (5, (.iconst 1, 1)) (List.mem_of_getElem? (i := 3) rfl)
theorem dX11_isFlag_6 : decode cX11_isFlag 6 = .ok (.if_icmp .ne 7, 3) := dgX11_isFlag_0 (6, (.if_icmp .ne 7, 3)) (List.mem_of_getElem? (i := 4) rfl)
theorem dX11_isFlag_9 : decode cX11_isFlag 9 = .ok (.iconst 1, 1) := dgX11_isFlag_0 (9, (.iconst 1, 1)) (List.mem_of_getElem? (i := 5) rfl)
theorem dX11_isFlag_10 : decode cX11_isFlag 10 = .ok (.goto 4, 3) := dgX11_isFlag_0 (10, (.goto 4, 3)) (List.mem_of_getElem? (i := 6) rfl)
theorem dX11_isFlag_13 : decode cX11_isFlag 13 = .ok (.iconst 0, 1) := dgX11_isFlag_0 (13, (.iconst 0, 1)) (List.mem_of_getElem? (i := 7) rfl)
theorem dX11_isFlag_14 : decode cX11_isFlag 14 = .ok (.ireturn, 1) := dgX11_isFlag_0 (14, (.ireturn, 1)) (List.mem_of_getElem? (i := 8) rfl)
theorem dgX11_isImage_0 : ∀ r ∈ ([(0, (.iload_n 0, 1)), (1, (.ifCond .lt 12, 3)), (4, (.iload_n 0, 1)), (5, (.iconst 2, 1)), (6, (.if_icmp .ge 7, 3)), (9, (.iconst 1, 1)), (10, (.goto 4, 3)), (13, (.iconst 0, 1)), (14, (.ireturn, 1))] : List (Nat × (Instr × Nat))), decode cX11_isImage r.1 = .ok r.2 := by decide +kernel
theorem dX11_isImage_0 : decode cX11_isImage 0 = .ok (.iload_n 0, 1) := dgX11_isImage_0 (0, (.iload_n 0, 1)) (List.mem_of_getElem? (i := 0) rfl)
theorem dX11_isImage_1 : decode cX11_isImage 1 = .ok (.ifCond .lt 12, 3) := dgX11_isImage_0 (1, (.ifCond .lt 12, 3)) (List.mem_of_getElem? (i := 1) rfl)
theorem dX11_isImage_4 : decode cX11_isImage 4 = .ok (.iload_n 0, 1) := dgX11_isImage_0 (4, (.iload_n 0, 1)) (List.mem_of_getElem? (i := 2) rfl)
theorem dX11_isImage_5 : decode cX11_isImage 5 = .ok (.iconst 2, 1) := dgX11_isImage_0 (5, (.iconst 2, 1)) (List.mem_of_getElem? (i := 3) rfl)
theorem dX11_isImage_6 : decode cX11_isImage 6 = .ok (.if_icmp .ge 7, 3) := dgX11_isImage_0 (6, (.if_icmp .ge 7, 3)) (List.mem_of_getElem? (i := 4) rfl)
theorem dX11_isImage_9 : decode cX11_isImage 9 = .ok (.iconst 1, 1) := dgX11_isImage_0 (9, (.iconst 1, 1)) (List.mem_of_getElem? (i := 5) rfl)
theorem dX11_isImage_10 : decode cX11_isImage 10 = .ok (.goto 4, 3) := dgX11_isImage_0 (10, (.goto 4, 3)) (List.mem_of_getElem? (i := 6) rfl)
theorem dX11_isImage_13 : decode cX11_isImage 13 = .ok (.iconst 0, 1) := dgX11_isImage_0 (13, (.iconst 0, 1)) (List.mem_of_getElem? (i := 7) rfl)
theorem dX11_isImage_14 : decode cX11_isImage 14 = .ok (.ireturn, 1) := dgX11_isImage_0 (14, (.ireturn, 1)) (List.mem_of_getElem? (i := 8) rfl)
set_option maxHeartbeats 4000000 in
set_option maxRecDepth 100000 in
theorem x_isImage (l : Launch) (G : g5_G) (sz : Nat) (p_v : Int32) : Met l yX11_isImage (wsG yX11_isImage cX11_isImage 1 (some .boolean)) ({ frames := 0, cells := 0, slots := 0, locals := 0 }) (va_Pc [.int p_v] (g5_P G [] sz)) (va_Qi (fun (r : Int32) (u : va_W) => ((0 ≤ p_v.toInt ∧ p_v.toInt ≤ 1) ∧ (r = 1) ∧ (u = [])) ∨ ((p_v.toInt < 0 ∨ 1 < p_v.toInt) ∧ (r = 0) ∧ (u = []))) (g5_B G (va_A [] sz)) (va_A [] sz)) 0 0 (va_A [] sz) := by
  refine Met.ofW (cc := cX11_isImage) (maxL := 1) (ret := (some .boolean)) (by decide) rfl ?_
  intro p e s m args below meth c s₁ B hml hv
  obtain ⟨rfl, hsz, hP, hK, hD0, hN, hT⟩ := hv
  have hx := B.exec
  have hb := B.bytes
  have hr := B.returns
  have hts : ∀ w ∈ tblG, w.before _ s = true := fun w h => atoms_spec (ws := (wsG yX11_isImage cX11_isImage 1 (some .boolean))) B.pre w (List.mem_cons_of_mem _ h)
  have hown : s.vm.findClass RX11 = some m.cls := findClass_of_methodNamed B.named
  have hlocks := B.notSynchronized
  subst hsz
  have hD := hD0.self (sz := s.heap.size)
  generalize hAe : va_A [] s.heap.size = A at hD hT ⊢
  have hA : ∀ q : Nat, s.heap.size ≤ q → A q := fun q h => by rw [← hAe]; exact Or.inr h
  have hS : va_S A s.heap s.heap [] := va_S.rf
  have hP : va_P G.1 vwCl [] s.heap := hP
  have hl := lv_entry ([.int p_v]) (n := 1) (Nat.le_of_ble_eq_true rfl)
  rw [lg_entry_eq]
  generalize (lg_sl ([.int p_v]) ++ List.replicate (1 - (lg_sl ([.int p_v])).length) Slot.unset).toArray = ls at hl ⊢
  have hl : lv_has ls 1 [(0, .int p_v)] := hl
  refine lv_iload_n hx hb dX11_isImage_0 rfl (lv_at hl 0 rfl) ?_
  refine lv_if_lt (tgt := 13) hx hb dX11_isImage_1 (by decide) (fun c_1 => ?_) (fun c_1 => ?_)
  ·
    have i_1 : p_v.toInt < 0 := by have z := g5_lt (a := p_v.toInt) (b := 0) (by rfl) (by decide) c_1; omega
    refine lv_iconst (v := 0) hx hb dX11_isImage_13 (by decide) ?_
    exact W.zret (v := 0) hx hb hr rfl (fun t ht hW => ⟨⟨0, [], rfl, Or.inr (⟨by omega, rfl, rfl⟩), by rw [ht]; exact hP.sub [] rfl, hD.sub [] (by decide) rfl⟩, hS.F ht⟩) hS.2.2 dX11_isImage_14
  ·
    have i_1 : p_v.toInt ≥ 0 := by have z := g5_ltN (a := p_v.toInt) (b := 0) (by rfl) (by decide) c_1; omega
    refine lv_iload_n hx hb dX11_isImage_4 rfl (lv_at hl 0 rfl) ?_
    refine lv_iconst (v := 2) hx hb dX11_isImage_5 (by decide) ?_
    refine lv_icmp_ge (tgt := 13) hx hb dX11_isImage_6 (by decide) (fun c_2 => ?_) (fun c_2 => ?_)
    ·
      have i_2 : p_v.toInt ≥ 2 := by have z := g5_ge (a := p_v.toInt) (b := 2) (by rfl) (by decide) c_2; omega
      refine lv_iconst (v := 0) hx hb dX11_isImage_13 (by decide) ?_
      exact W.zret (v := 0) hx hb hr rfl (fun t ht hW => ⟨⟨0, [], rfl, Or.inr (⟨by omega, rfl, rfl⟩), by rw [ht]; exact hP.sub [] rfl, hD.sub [] (by decide) rfl⟩, hS.F ht⟩) hS.2.2 dX11_isImage_14
    ·
      have i_2 : p_v.toInt < 2 := by have z := g5_geN (a := p_v.toInt) (b := 2) (by rfl) (by decide) c_2; omega
      refine lv_iconst (v := 1) hx hb dX11_isImage_9 (by decide) ?_
      refine lv_goto (tgt := 14) hx hb dX11_isImage_10 (by decide) ?_
      exact W.zret (v := 1) hx hb hr rfl (fun t ht hW => ⟨⟨1, [], rfl, Or.inl (⟨by omega, rfl, rfl⟩), by rw [ht]; exact hP.sub [] rfl, hD.sub [] (by decide) rfl⟩, hS.F ht⟩) hS.2.2 dX11_isImage_14
theorem dgX11_isStay_0 : ∀ r ∈ ([(0, (.iload_n 0, 1)), (1, (.invokestatic 127, 3)), (4, (.ifCond .eq 26, 3)), (7, (.iload_n 1, 1)), (8, (.invokestatic 127, 3)), (11, (.ifCond .eq 19, 3)), (14, (.iload_n 1, 1)), (15, (.iload_n 0, 1)), (16, (.if_icmp .lt 14, 3)), (19, (.iload_n 2, 1)), (20, (.invokestatic 241, 3)), (23, (.ifCond .eq 7, 3)), (26, (.iconst 1, 1)), (27, (.goto 4, 3)), (30, (.iconst 0, 1)), (31, (.ireturn, 1))] : List (Nat × (Instr × Nat))), decode cX11_isStay r.1 = .ok r.2 := by decide +kernel
theorem dX11_isStay_0 : decode cX11_isStay 0 = .ok (.iload_n 0, 1) := dgX11_isStay_0 (0, (.iload_n 0, 1)) (List.mem_of_getElem? (i := 0) rfl)
theorem dX11_isStay_1 : decode cX11_isStay 1 = .ok (.invokestatic 127, 3) := dgX11_isStay_0 (1, (.invokestatic 127, 3)) (List.mem_of_getElem? (i := 1) rfl)
theorem dX11_isStay_4 : decode cX11_isStay 4 = .ok (.ifCond .eq 26, 3) := dgX11_isStay_0 (4, (.ifCond .eq 26, 3)) (List.mem_of_getElem? (i := 2) rfl)
theorem dX11_isStay_7 : decode cX11_isStay 7 = .ok (.iload_n 1, 1) := dgX11_isStay_0 (7, (.iload_n 1, 1)) (List.mem_of_getElem? (i := 3) rfl)
theorem dX11_isStay_8 : decode cX11_isStay 8 = .ok (.invokestatic 127, 3) := dgX11_isStay_0 (8, (.invokestatic 127, 3)) (List.mem_of_getElem? (i := 4) rfl)
theorem dX11_isStay_11 : decode cX11_isStay 11 = .ok (.ifCond .eq 19, 3) := dgX11_isStay_0 (11, (.ifCond .eq 19, 3)) (List.mem_of_getElem? (i := 5) rfl)
theorem dX11_isStay_14 : decode cX11_isStay 14 = .ok (.iload_n 1, 1) := dgX11_isStay_0 (14, (.iload_n 1, 1)) (List.mem_of_getElem? (i := 6) rfl)
theorem dX11_isStay_15 : decode cX11_isStay 15 = .ok (.iload_n 0, 1) := dgX11_isStay_0 (15, (.iload_n 0, 1)) (List.mem_of_getElem? (i := 7) rfl)
theorem dX11_isStay_16 : decode cX11_isStay 16 = .ok (.if_icmp .lt 14, 3) := dgX11_isStay_0 (16, (.if_icmp .lt 14, 3)) (List.mem_of_getElem? (i := 8) rfl)
theorem dX11_isStay_19 : decode cX11_isStay 19 = .ok (.iload_n 2, 1) := dgX11_isStay_0 (19, (.iload_n 2, 1)) (List.mem_of_getElem? (i := 9) rfl)
theorem dX11_isStay_20 : decode cX11_isStay 20 = .ok (.invokestatic 241, 3) := dgX11_isStay_0 (20, (.invokestatic 241, 3)) (List.mem_of_getElem? (i := 10) rfl)
theorem dX11_isStay_23 : decode cX11_isStay 23 = .ok (.ifCond .eq 7, 3) := dgX11_isStay_0 (23, (.ifCond .eq 7, 3)) (List.mem_of_getElem? (i := 11) rfl)
theorem dX11_isStay_26 : decode cX11_isStay 26 = .ok (.iconst 1, 1) := dgX11_isStay_0 (26, (.iconst 1, 1)) (List.mem_of_getElem? (i := 12) rfl)
theorem dX11_isStay_27 : decode cX11_isStay 27 = .ok (.goto 4, 3) := dgX11_isStay_0 (27, (.goto 4, 3)) (List.mem_of_getElem? (i := 13) rfl)
theorem dX11_isStay_30 : decode cX11_isStay 30 = .ok (.iconst 0, 1) := dgX11_isStay_0 (30, (.iconst 0, 1)) (List.mem_of_getElem? (i := 14) rfl)
theorem dX11_isStay_31 : decode cX11_isStay 31 = .ok (.ireturn, 1) := dgX11_isStay_0 (31, (.ireturn, 1)) (List.mem_of_getElem? (i := 15) rfl)
theorem ml_X11_241 : Cond.methodLink RX11 241 yX11_isCellOrNone ∈ tblG := tg 591 (by decide +kernel) (by decide +kernel)
theorem st_X11_isCellOrNone : Cond.static yX11_isCellOrNone ∈ tblG := tg 592 (by decide +kernel) (by decide +kernel)
theorem cd_X11_isCellOrNone : Cond.code yX11_isCellOrNone cX11_isCellOrNone 1 (some .boolean) ∈ tblG := tg 593 (by decide +kernel) (by decide +kernel)
theorem gW_X11_isCellOrNone : GoodIn tblG (wsG yX11_isCellOrNone cX11_isCellOrNone 1 (some .boolean)) := tgi cd_X11_isCellOrNone
theorem gS_X11_241 : GoodIn tblG (va_wsS RX11 241 yX11_isCellOrNone (wsG yX11_isCellOrNone cX11_isCellOrNone 1 (some .boolean))) := tgS ml_X11_241 st_X11_isCellOrNone ini_X11 gW_X11_isCellOrNone
theorem hs_X11_isCellOrNone : yX11_isCellOrNone.cls ≠ "java/lang/invoke/MethodHandle" ∧ yX11_isCellOrNone.cls ≠ "java/lang/invoke/VarHandle" ∧ (parseMethodDescriptor yX11_isCellOrNone.desc).map (fun d => d.parameters.length) = some 1 := by decide +kernel
theorem dgX11_isTurn_0 : ∀ r ∈ ([(0, (.iload_n 0, 1)), (1, (.iconst 1, 1)), (2, (.iadd, 1)), (3, (.tableswitch 61 1 4 #[29, 34, 39, 44], 29)), (32, (.iload_n 1, 1)), (33, (.invokestatic 124, 3)), (36, (.ireturn, 1)), (37, (.iload_n 1, 1)), (38, (.invokestatic 127, 3)), (41, (.ireturn, 1)), (42, (.iload_n 1, 1)), (43, (.invokestatic 130, 3)), (46, (.ireturn, 1)), (47, (.iload_n 1, 1)), (48, (.ifCond .lt 14, 3)), (51, (.iload_n 1, 1)), (52, (.ldc_w 357, 3)), (55, (.if_icmp .ge 7, 3)), (58, (.iconst 1, 1)), (59, (.goto 4, 3)), (62, (.iconst 0, 1)), (63, (.ireturn, 1)), (64, (.iconst 0, 1)), (65, (.ireturn, 1))] : List (Nat × (Instr × Nat))), decode cX11_isTurn r.1 = .ok r.2 := by decide +kernel
theorem dX11_isTurn_0 : decode cX11_isTurn 0 = .ok (.iload_n 0, 1) := dgX11_isTurn_0 (0, (.iload_n 0, 1)) (List.mem_of_getElem? (i := 0) rfl)
theorem dX11_isTurn_1 : decode cX11_isTurn 1 = .ok (.iconst 1, 1) := dgX11_isTurn_0 (1, (.iconst 1, 1)) (List.mem_of_getElem? (i := 1) rfl)
theorem dX11_isTurn_2 : decode cX11_isTurn 2 = .ok (.iadd, 1) := dgX11_isTurn_0 (2, (.iadd, 1)) (List.mem_of_getElem? (i := 2) rfl)
theorem dX11_isTurn_3 : decode cX11_isTurn 3 = .ok (.tableswitch 61 1 4 #[29, 34, 39, 44], 29) := dgX11_isTurn_0 (3, (.tableswitch 61 1 4 #[29, 34, 39, 44], 29)) (List.mem_of_getElem? (i := 3) rfl)
theorem dX11_isTurn_32 : decode cX11_isTurn 32 = .ok (.iload_n 1, 1) := dgX11_isTurn_0 (32, (.iload_n 1, 1)) (List.mem_of_getElem? (i := 4) rfl)
theorem dX11_isTurn_33 : decode cX11_isTurn 33 = .ok (.invokestatic 124, 3) := dgX11_isTurn_0 (33, (.invokestatic 124, 3)) (List.mem_of_getElem? (i := 5) rfl)
theorem dX11_isTurn_36 : decode cX11_isTurn 36 = .ok (.ireturn, 1) := dgX11_isTurn_0 (36, (.ireturn, 1)) (List.mem_of_getElem? (i := 6) rfl)
theorem dX11_isTurn_37 : decode cX11_isTurn 37 = .ok (.iload_n 1, 1) := dgX11_isTurn_0 (37, (.iload_n 1, 1)) (List.mem_of_getElem? (i := 7) rfl)
theorem dX11_isTurn_38 : decode cX11_isTurn 38 = .ok (.invokestatic 127, 3) := dgX11_isTurn_0 (38, (.invokestatic 127, 3)) (List.mem_of_getElem? (i := 8) rfl)
theorem dX11_isTurn_41 : decode cX11_isTurn 41 = .ok (.ireturn, 1) := dgX11_isTurn_0 (41, (.ireturn, 1)) (List.mem_of_getElem? (i := 9) rfl)
theorem dX11_isTurn_42 : decode cX11_isTurn 42 = .ok (.iload_n 1, 1) := dgX11_isTurn_0 (42, (.iload_n 1, 1)) (List.mem_of_getElem? (i := 10) rfl)
theorem dX11_isTurn_43 : decode cX11_isTurn 43 = .ok (.invokestatic 130, 3) := dgX11_isTurn_0 (43, (.invokestatic 130, 3)) (List.mem_of_getElem? (i := 11) rfl)
theorem dX11_isTurn_46 : decode cX11_isTurn 46 = .ok (.ireturn, 1) := dgX11_isTurn_0 (46, (.ireturn, 1)) (List.mem_of_getElem? (i := 12) rfl)
theorem dX11_isTurn_47 : decode cX11_isTurn 47 = .ok (.iload_n 1, 1) := dgX11_isTurn_0 (47, (.iload_n 1, 1)) (List.mem_of_getElem? (i := 13) rfl)
theorem dX11_isTurn_48 : decode cX11_isTurn 48 = .ok (.ifCond .lt 14, 3) := dgX11_isTurn_0 (48, (.ifCond .lt 14, 3)) (List.mem_of_getElem? (i := 14) rfl)
theorem dX11_isTurn_51 : decode cX11_isTurn 51 = .ok (.iload_n 1, 1) := dgX11_isTurn_0 (51, (.iload_n 1, 1)) (List.mem_of_getElem? (i := 15) rfl)
theorem dX11_isTurn_52 : decode cX11_isTurn 52 = .ok (.ldc_w 357, 3) := dgX11_isTurn_0 (52, (.ldc_w 357, 3)) (List.mem_of_getElem? (i := 16) rfl)
theorem dX11_isTurn_55 : decode cX11_isTurn 55 = .ok (.if_icmp .ge 7, 3) := dgX11_isTurn_0 (55, (.if_icmp .ge 7, 3)) (List.mem_of_getElem? (i := 17) rfl)
theorem dX11_isTurn_58 : decode cX11_isTurn 58 = .ok (.iconst 1, 1) := dgX11_isTurn_0 (58, (.iconst 1, 1)) (List.mem_of_getElem? (i := 18) rfl)
theorem dX11_isTurn_59 : decode cX11_isTurn 59 = .ok (.goto 4, 3) := dgX11_isTurn_0 (59, (.goto 4, 3)) (List.mem_of_getElem? (i := 19) rfl)
theorem dX11_isTurn_62 : decode cX11_isTurn 62 = .ok (.iconst 0, 1) := dgX11_isTurn_0 (62, (.iconst 0, 1)) (List.mem_of_getElem? (i := 20) rfl)
theorem dX11_isTurn_63 : decode cX11_isTurn 63 = .ok (.ireturn, 1) := dgX11_isTurn_0 (63, (.ireturn, 1)) (List.mem_of_getElem? (i := 21) rfl)
theorem dX11_isTurn_64 : decode cX11_isTurn 64 = .ok (.iconst 0, 1) := dgX11_isTurn_0 (64, (.iconst 0, 1)) (List.mem_of_getElem? (i := 22) rfl)
theorem dX11_isTurn_65 : decode cX11_isTurn 65 = .ok (.ireturn, 1) := dgX11_isTurn_0 (65, (.ireturn, 1)) (List.mem_of_getElem? (i := 23) rfl)
theorem ml_X11_124 : Cond.methodLink RX11 124 yX11_isSort ∈ tblG := tg 535 (by decide +kernel) (by decide +kernel)
theorem st_X11_isSort : Cond.static yX11_isSort ∈ tblG := tg 536 (by decide +kernel) (by decide +kernel)
theorem cd_X11_isSort : Cond.code yX11_isSort cX11_isSort 1 (some .boolean) ∈ tblG := tg 537 (by decide +kernel) (by decide +kernel)
theorem gW_X11_isSort : GoodIn tblG (wsG yX11_isSort cX11_isSort 1 (some .boolean)) := tgi cd_X11_isSort
theorem gS_X11_124 : GoodIn tblG (va_wsS RX11 124 yX11_isSort (wsG yX11_isSort cX11_isSort 1 (some .boolean))) := tgS ml_X11_124 st_X11_isSort ini_X11 gW_X11_isSort
theorem hs_X11_isSort : yX11_isSort.cls ≠ "java/lang/invoke/MethodHandle" ∧ yX11_isSort.cls ≠ "java/lang/invoke/VarHandle" ∧ (parseMethodDescriptor yX11_isSort.desc).map (fun d => d.parameters.length) = some 1 := by decide +kernel
theorem ml_X11_130 : Cond.methodLink RX11 130 yX11_isDust ∈ tblG := tg 541 (by decide +kernel) (by decide +kernel)
theorem st_X11_isDust : Cond.static yX11_isDust ∈ tblG := tg 542 (by decide +kernel) (by decide +kernel)
theorem cd_X11_isDust : Cond.code yX11_isDust cX11_isDust 1 (some .boolean) ∈ tblG := tg 543 (by decide +kernel) (by decide +kernel)
theorem gW_X11_isDust : GoodIn tblG (wsG yX11_isDust cX11_isDust 1 (some .boolean)) := tgi cd_X11_isDust
theorem gS_X11_130 : GoodIn tblG (va_wsS RX11 130 yX11_isDust (wsG yX11_isDust cX11_isDust 1 (some .boolean))) := tgS ml_X11_130 st_X11_isDust ini_X11 gW_X11_isDust
theorem hs_X11_isDust : yX11_isDust.cls ≠ "java/lang/invoke/MethodHandle" ∧ yX11_isDust.cls ≠ "java/lang/invoke/VarHandle" ∧ (parseMethodDescriptor yX11_isDust.desc).map (fun d => d.parameters.length) = some 1 := by decide +kernel
theorem ki_X11_357 : Cond.constant RX11 357 16777216 ∈ tblG := tg 573 (by decide +kernel) (by decide +kernel)
theorem dgX11_refuse_0 : ∀ r ∈ ([(0, (.aload_n 0, 1)), (1, (.iload_n 1, 1)), (2, (.putfield 94, 3)), (5, (.iload_n 1, 1)), (6, (.bipush (-3), 2)), (8, (.if_icmp .lt 10, 3)), (11, (.iload_n 1, 1)), (12, (.ineg, 1)), (13, (.iconst 1, 1)), (14, (.isub, 1)), (15, (.goto 7, 3)), (18, (.iload_n 1, 1)), (19, (.ineg, 1)), (20, (.iconst 2, 1)), (21, (.isub, 1)), (22, (.istore_n 2, 1)), (23, (.iload_n 2, 1)), (24, (.ifCond .lt 22, 3)), (27, (.iload_n 2, 1)), (28, (.aload_n 0, 1)), (29, (.getfield 91, 3)), (32, (.arraylength, 1)), (33, (.if_icmp .ge 13, 3)), (36, (.aload_n 0, 1)), (37, (.getfield 91, 3)), (40, (.iload_n 2, 1)), (41, (.dup2, 1)), (42, (.iaload, 1)), (43, (.iconst 1, 1)), (44, (.iadd, 1)), (45, (.iastore, 1)), (46, (.iload_n 1, 1)), (47, (.ireturn, 1))] : List (Nat × (Instr × Nat))), decode cX11_refuse r.1 = .ok r.2 := by decide +kernel
theorem dX11_refuse_0 : decode cX11_refuse 0 = .ok (.aload_n 0, 1) := dgX11_refuse_0 (0, (.aload_n 0, 1)) (List.mem_of_getElem? (i := 0) rfl)
theorem dX11_refuse_1 : decode cX11_refuse 1 = .ok (.iload_n 1, 1) := dgX11_refuse_0 (1, (.iload_n 1, 1)) (List.mem_of_getElem? (i := 1) rfl)
theorem dX11_refuse_2 : decode cX11_refuse 2 = .ok (.putfield 94, 3) := dgX11_refuse_0 (2, (.putfield 94, 3)) (List.mem_of_getElem? (i := 2) rfl)
theorem dX11_refuse_5 : decode cX11_refuse 5 = .ok (.iload_n 1, 1) := dgX11_refuse_0 (5, (.iload_n 1, 1)) (List.mem_of_getElem? (i := 3) rfl)
theorem dX11_refuse_6 : decode cX11_refuse 6 = .ok (.bipush (-3), 2) := dgX11_refuse_0 (6, (.bipush (-3), 2)) (List.mem_of_getElem? (i := 4) rfl)
theorem dX11_refuse_8 : decode cX11_refuse 8 = .ok (.if_icmp .lt 10, 3) := dgX11_refuse_0 (8, (.if_icmp .lt 10, 3)) (List.mem_of_getElem? (i := 5) rfl)
theorem dX11_refuse_11 : decode cX11_refuse 11 = .ok (.iload_n 1, 1) := dgX11_refuse_0 (11, (.iload_n 1, 1)) (List.mem_of_getElem? (i := 6) rfl)
theorem dX11_refuse_12 : decode cX11_refuse 12 = .ok (.ineg, 1) := dgX11_refuse_0 (12, (.ineg, 1)) (List.mem_of_getElem? (i := 7) rfl)
theorem dX11_refuse_13 : decode cX11_refuse 13 = .ok (.iconst 1, 1) := dgX11_refuse_0 (13, (.iconst 1, 1)) (List.mem_of_getElem? (i := 8) rfl)
theorem dX11_refuse_14 : decode cX11_refuse 14 = .ok (.isub, 1) := dgX11_refuse_0 (14, (.isub, 1)) (List.mem_of_getElem? (i := 9) rfl)
theorem dX11_refuse_15 : decode cX11_refuse 15 = .ok (.goto 7, 3) := dgX11_refuse_0 (15, (.goto 7, 3)) (List.mem_of_getElem? (i := 10) rfl)
theorem dX11_refuse_18 : decode cX11_refuse 18 = .ok (.iload_n 1, 1) := dgX11_refuse_0 (18, (.iload_n 1, 1)) (List.mem_of_getElem? (i := 11) rfl)
theorem dX11_refuse_19 : decode cX11_refuse 19 = .ok (.ineg, 1) := dgX11_refuse_0 (19, (.ineg, 1)) (List.mem_of_getElem? (i := 12) rfl)
theorem dX11_refuse_20 : decode cX11_refuse 20 = .ok (.iconst 2, 1) := dgX11_refuse_0 (20, (.iconst 2, 1)) (List.mem_of_getElem? (i := 13) rfl)
theorem dX11_refuse_21 : decode cX11_refuse 21 = .ok (.isub, 1) := dgX11_refuse_0 (21, (.isub, 1)) (List.mem_of_getElem? (i := 14) rfl)
theorem dX11_refuse_22 : decode cX11_refuse 22 = .ok (.istore_n 2, 1) := dgX11_refuse_0 (22, (.istore_n 2, 1)) (List.mem_of_getElem? (i := 15) rfl)
theorem dX11_refuse_23 : decode cX11_refuse 23 = .ok (.iload_n 2, 1) := dgX11_refuse_0 (23, (.iload_n 2, 1)) (List.mem_of_getElem? (i := 16) rfl)
theorem dX11_refuse_24 : decode cX11_refuse 24 = .ok (.ifCond .lt 22, 3) := dgX11_refuse_0 (24, (.ifCond .lt 22, 3)) (List.mem_of_getElem? (i := 17) rfl)
theorem dX11_refuse_27 : decode cX11_refuse 27 = .ok (.iload_n 2, 1) := dgX11_refuse_0 (27, (.iload_n 2, 1)) (List.mem_of_getElem? (i := 18) rfl)
theorem dX11_refuse_28 : decode cX11_refuse 28 = .ok (.aload_n 0, 1) := dgX11_refuse_0 (28, (.aload_n 0, 1)) (List.mem_of_getElem? (i := 19) rfl)
theorem dX11_refuse_29 : decode cX11_refuse 29 = .ok (.getfield 91, 3) := dgX11_refuse_0 (29, (.getfield 91, 3)) (List.mem_of_getElem? (i := 20) rfl)
theorem dX11_refuse_32 : decode cX11_refuse 32 = .ok (.arraylength, 1) := dgX11_refuse_0 (32, (.arraylength, 1)) (List.mem_of_getElem? (i := 21) rfl)
theorem dX11_refuse_33 : decode cX11_refuse 33 = .ok (.if_icmp .ge 13, 3) := dgX11_refuse_0 (33, (.if_icmp .ge 13, 3)) (List.mem_of_getElem? (i := 22) rfl)
theorem dX11_refuse_36 : decode cX11_refuse 36 = .ok (.aload_n 0, 1) := dgX11_refuse_0 (36, (.aload_n 0, 1)) (List.mem_of_getElem? (i := 23) rfl)
theorem dX11_refuse_37 : decode cX11_refuse 37 = .ok (.getfield 91, 3) := dgX11_refuse_0 (37, (.getfield 91, 3)) (List.mem_of_getElem? (i := 24) rfl)
theorem dX11_refuse_40 : decode cX11_refuse 40 = .ok (.iload_n 2, 1) := dgX11_refuse_0 (40, (.iload_n 2, 1)) (List.mem_of_getElem? (i := 25) rfl)
theorem dX11_refuse_41 : decode cX11_refuse 41 = .ok (.dup2, 1) := dgX11_refuse_0 (41, (.dup2, 1)) (List.mem_of_getElem? (i := 26) rfl)
theorem dX11_refuse_42 : decode cX11_refuse 42 = .ok (.iaload, 1) := dgX11_refuse_0 (42, (.iaload, 1)) (List.mem_of_getElem? (i := 27) rfl)
theorem dX11_refuse_43 : decode cX11_refuse 43 = .ok (.iconst 1, 1) := dgX11_refuse_0 (43, (.iconst 1, 1)) (List.mem_of_getElem? (i := 28) rfl)
theorem dX11_refuse_44 : decode cX11_refuse 44 = .ok (.iadd, 1) := dgX11_refuse_0 (44, (.iadd, 1)) (List.mem_of_getElem? (i := 29) rfl)
theorem dX11_refuse_45 : decode cX11_refuse 45 = .ok (.iastore, 1) := dgX11_refuse_0 (45, (.iastore, 1)) (List.mem_of_getElem? (i := 30) rfl)
theorem dX11_refuse_46 : decode cX11_refuse 46 = .ok (.iload_n 1, 1) := dgX11_refuse_0 (46, (.iload_n 1, 1)) (List.mem_of_getElem? (i := 31) rfl)
theorem dX11_refuse_47 : decode cX11_refuse 47 = .ok (.ireturn, 1) := dgX11_refuse_0 (47, (.ireturn, 1)) (List.mem_of_getElem? (i := 32) rfl)
theorem inG_X11 : ∀ w ∈ wsX110, w ∈ tblG := tgs [461, 463, 465, 467, 469, 471, 473, 475, 477, 479, 481, 483, 485, 487, 489, 491, 493] (by decide +kernel) (by decide +kernel)
theorem fl_X11_94 : Cond.fieldLink RX11 94 "LateGlass" "latestRefusal" "I" ∈ tblG := tg 460 (by decide +kernel) (by decide +kernel)
theorem fl_X11_91 : Cond.fieldLink RX11 91 "LateGlass" "refusals" "[I" ∈ tblG := tg 459 (by decide +kernel) (by decide +kernel)
set_option maxHeartbeats 4000000 in
set_option maxRecDepth 100000 in
theorem x_refuse1 (l : Launch) (G : g5_G) (a_o a_rf a_h a_im a_ke a_k a_wa a_th a_ha a_wk a_r a_x a_wd : Nat) (sz : Nat) (e_tl : Int32) (e_fd : Int32) (e_fpl : Int32) (e_wn : Int32) (e_lr : Int32) (f_rf : Nat → Int32) (h_e_tl : 0 ≤ e_tl.toInt ∧ e_tl.toInt ≤ 400) (h_e_wn : 0 ≤ e_wn.toInt ∧ e_wn.toInt ≤ 1) : Met l yX11_refuse (wsG yX11_refuse cX11_refuse 3 (some .int)) ({ frames := 0, cells := 0, slots := 0, locals := 0 }) (va_Pc [.ref a_o, .int (-1)] (g5_P G [(a_o, (oc11 a_h a_im a_ke a_k a_wa a_th a_ha a_wk a_r a_x e_tl e_fd e_fpl a_wd e_wn a_rf e_lr)), (a_rf, (arI G 5 f_rf))] sz)) (va_Qi (fun (r : Int32) (u : va_W) => (∃ (o_rf : Nat → Int32), (r = (-1)) ∧ (u = [(a_o, (oc11 a_h a_im a_ke a_k a_wa a_th a_ha a_wk a_r a_x e_tl e_fd e_fpl a_wd e_wn a_rf (-1))), (a_rf, (arI G 5 o_rf))]))) (g5_B G (va_A [(a_o, (oc11 a_h a_im a_ke a_k a_wa a_th a_ha a_wk a_r a_x e_tl e_fd e_fpl a_wd e_wn a_rf e_lr)), (a_rf, (arI G 5 f_rf))] sz)) (va_A [(a_o, (oc11 a_h a_im a_ke a_k a_wa a_th a_ha a_wk a_r a_x e_tl e_fd e_fpl a_wd e_wn a_rf e_lr)), (a_rf, (arI G 5 f_rf))] sz)) 0 0 (va_A [(a_o, (oc11 a_h a_im a_ke a_k a_wa a_th a_ha a_wk a_r a_x e_tl e_fd e_fpl a_wd e_wn a_rf e_lr)), (a_rf, (arI G 5 f_rf))] sz) := by
  refine Met.ofW (cc := cX11_refuse) (maxL := 3) (ret := (some .int)) (by decide +kernel) rfl ?_
  intro p e s m args below meth c s₁ B hml hv
  obtain ⟨rfl, hsz, hP, hK, hD0, hN, hT⟩ := hv
  have hx := B.exec
  have hb := B.bytes
  have hr := B.returns
  have hts : ∀ w ∈ tblG, w.before _ s = true := fun w h => atoms_spec (ws := (wsG yX11_refuse cX11_refuse 3 (some .int))) B.pre w (List.mem_cons_of_mem _ h)
  have hown : s.vm.findClass RX11 = some m.cls := findClass_of_methodNamed B.named
  have hlocks := B.notSynchronized
  subst hsz
  have hD := hD0.self (sz := s.heap.size)
  generalize hAe : va_A [(a_o, (oc11 a_h a_im a_ke a_k a_wa a_th a_ha a_wk a_r a_x e_tl e_fd e_fpl a_wd e_wn a_rf e_lr)), (a_rf, (arI G 5 f_rf))] s.heap.size = A at hD hT ⊢
  have hA : ∀ q : Nat, s.heap.size ≤ q → A q := fun q h => by rw [← hAe]; exact Or.inr h
  have hS : va_S A s.heap s.heap [] := va_S.rf
  replace hP : va_P G.1 vwCl [(a_o, (oc11 a_h a_im a_ke a_k a_wa a_th a_ha a_wk a_r a_x e_tl e_fd e_fpl a_wd e_wn a_rf e_lr)), (a_rf, (arI G 5 f_rf))] s.heap := hP
  have hl := lv_entry ([.ref a_o, .int (-1)]) (n := 3) (Nat.le_of_ble_eq_true rfl)
  rw [lg_entry_eq]
  generalize (lg_sl ([.ref a_o, .int (-1)]) ++ List.replicate (3 - (lg_sl ([.ref a_o, .int (-1)])).length) Slot.unset).toArray = ls at hl ⊢
  replace hl : lv_has ls 3 [(0, .ref a_o), (1, .int (-1))] := hl
  refine lv_aload_n hx hb dX11_refuse_0 rfl (lv_at hl 0 rfl) ?_
  refine lv_iload_n hx hb dX11_refuse_1 rfl (lv_at hl 1 rfl) ?_
  refine va_put (D := G.1) (ci := 11) (v := .int (-1)) (ty := .int) (C := RX11) (T := TX11) (N := 17) hx hb hts inG_X11 tyX11 tyX11_ok nmX11 hown hK hP hD hS 0 rfl rfl 16 (by decide +kernel) (hts _ fl_X11_94) (fun _ h9 => h9) rfl (by decide +kernel) rfl rfl (Nat.le_of_ble_eq_true rfl) dX11_refuse_2 ?_
  clear hP hD hS
  intro H locs hP hD hS
  refine g5_rs [(a_o, (oc11 a_h a_im a_ke a_k a_wa a_th a_ha a_wk a_r a_x e_tl e_fd e_fpl a_wd e_wn a_rf (-1))), (a_rf, (arI G 5 f_rf))] hP hD ?_
  clear hP hD
  intro hP hD
  refine lv_iload_n hx hb dX11_refuse_5 rfl (lv_at hl 1 rfl) ?_
  refine W.eq (g2 := F0 m 6 ls [.int (-1)]) rfl ?_
  refine lv_bipush (v := (-3)) hx hb dX11_refuse_6 (by decide +kernel) ?_
  refine lv_icmp_lt (tgt := 18) hx hb dX11_refuse_8 (by decide +kernel) (fun c_1 => ?_) (fun c_1 => ?_)
  ·
    exact absurd c_1 (by decide +kernel)
  ·
    refine lv_iload_n hx hb dX11_refuse_11 rfl (lv_at hl 1 rfl) ?_
    refine lv_ineg hx hb dX11_refuse_12 ?_
    refine g5_ti (v := 1) (by decide +kernel) ?_
    refine lv_iconst (v := 1) hx hb dX11_refuse_13 (by decide +kernel) ?_
    refine lv_isub hx hb dX11_refuse_14 ?_
    refine g5_ti (v := 0) (by decide +kernel) ?_
    refine W.eq (g2 := F0 m 15 ls [.int 0]) rfl ?_
    refine lv_goto (tgt := 22) hx hb dX11_refuse_15 (by decide +kernel) ?_
    refine lv_istore_n (lv' := [(2, .int 0), (0, .ref a_o), (1, .int (-1))]) hx hb dX11_refuse_22 rfl hl (by decide +kernel) rfl ?_
    clear hl
    intro ls hl
    refine lv_iload_n hx hb dX11_refuse_23 rfl (lv_at hl 0 rfl) ?_
    refine lv_if_lt (tgt := 46) hx hb dX11_refuse_24 (by decide +kernel) (fun c_2 => ?_) (fun c_2 => ?_)
    ·
      exact absurd c_2 (by decide +kernel)
    ·
      refine lv_iload_n hx hb dX11_refuse_27 rfl (lv_at hl 0 rfl) ?_
      refine lv_aload_n hx hb dX11_refuse_28 rfl (lv_at hl 1 rfl) ?_
      refine va_get (D := G.1) (ci := 11) (v := .ref a_rf) (C := RX11) (T := TX11) (N := 17) hx hb hts inG_X11 hown hK hP 0 rfl rfl 15 (by decide +kernel) (hts _ fl_X11_91) (fun _ h9 => h9) rfl dX11_refuse_29 ?_
      refine va_alen hx hb hK hP 1 0 rfl rfl (v := 5) (by show Int32.ofNat 5 = 5; decide) dX11_refuse_32 ?_
      refine W.eq (g2 := F0 m 33 ls [.int 5, .int 0]) rfl ?_
      refine lv_icmp_ge (tgt := 46) hx hb dX11_refuse_33 (by decide +kernel) (fun c_3 => ?_) (fun c_3 => ?_)
      ·
        exact absurd c_3 (by decide +kernel)
      ·
        refine lv_aload_n hx hb dX11_refuse_36 rfl (lv_at hl 1 rfl) ?_
        refine va_get (D := G.1) (ci := 11) (v := .ref a_rf) (C := RX11) (T := TX11) (N := 17) hx hb hts inG_X11 hown hK hP 0 rfl rfl 15 (by decide +kernel) (hts _ fl_X11_91) (fun _ h9 => h9) rfl dX11_refuse_37 ?_
        refine lv_iload_n hx hb dX11_refuse_40 rfl (lv_at hl 0 rfl) ?_
        refine lv_dup2_11 hx hb dX11_refuse_41 rfl rfl ?_
        refine W.eq (g2 := F0 m 42 ls [.int 0, .ref a_rf, .int 0, .ref a_rf]) rfl ?_
        refine va_iald hx hb hK hP 1 0 rfl rfl (i := 0) (by unfold vp_in; decide) dX11_refuse_42 ?_
        refine g5_ti (v := (f_rf 0)) rfl ?_
        refine lv_iconst (v := 1) hx hb dX11_refuse_43 (by decide +kernel) ?_
        refine lv_iadd hx hb dX11_refuse_44 ?_
        refine va_iast hx hb hK hP hD hS 1 0 rfl rfl (i := 0) (x := ((f_rf 0) + 1)) (by unfold vp_in; decide) dX11_refuse_45 ?_
        clear hP hD hS
        intro H locs hP hD hS
        refine g5_rs [(a_o, (oc11 a_h a_im a_ke a_k a_wa a_th a_ha a_wk a_r a_x e_tl e_fd e_fpl a_wd e_wn a_rf (-1))), (a_rf, (arI G 5 (upd f_rf 0 ((f_rf 0) + 1))))] hP hD ?_
        clear hP hD
        intro hP hD
        refine lv_iload_n hx hb dX11_refuse_46 rfl (lv_at hl 2 rfl) ?_
        refine W.eq (g2 := F0 m 47 ls [.int (-1)]) rfl ?_
        exact W.iret (v := (-1)) hx hb hr (fun t ht hW => ⟨⟨(-1), [(a_o, (oc11 a_h a_im a_ke a_k a_wa a_th a_ha a_wk a_r a_x e_tl e_fd e_fpl a_wd e_wn a_rf (-1))), (a_rf, (arI G 5 (upd f_rf 0 ((f_rf 0) + 1))))], rfl, ⟨(upd f_rf 0 ((f_rf 0) + 1)), rfl, rfl⟩, by rw [ht]; exact hP.sub [0, 1] rfl, hD.sub [0, 1] (by decide +kernel) rfl⟩, hS.F ht⟩) hS.2.2 dX11_refuse_47
set_option maxHeartbeats 4000000 in
set_option maxRecDepth 100000 in
theorem x_refuse2 (l : Launch) (G : g5_G) (a_o a_rf a_h a_im a_ke a_k a_wa a_th a_ha a_wk a_r a_x a_wd : Nat) (sz : Nat) (e_tl : Int32) (e_fd : Int32) (e_fpl : Int32) (e_wn : Int32) (e_lr : Int32) (f_rf : Nat → Int32) (h_e_tl : 0 ≤ e_tl.toInt ∧ e_tl.toInt ≤ 400) (h_e_wn : 0 ≤ e_wn.toInt ∧ e_wn.toInt ≤ 1) : Met l yX11_refuse (wsG yX11_refuse cX11_refuse 3 (some .int)) ({ frames := 0, cells := 0, slots := 0, locals := 0 }) (va_Pc [.ref a_o, .int (-2)] (g5_P G [(a_o, (oc11 a_h a_im a_ke a_k a_wa a_th a_ha a_wk a_r a_x e_tl e_fd e_fpl a_wd e_wn a_rf e_lr)), (a_rf, (arI G 5 f_rf))] sz)) (va_Qi (fun (r : Int32) (u : va_W) => (∃ (o_rf : Nat → Int32), (r = (-2)) ∧ (u = [(a_o, (oc11 a_h a_im a_ke a_k a_wa a_th a_ha a_wk a_r a_x e_tl e_fd e_fpl a_wd e_wn a_rf (-2))), (a_rf, (arI G 5 o_rf))]))) (g5_B G (va_A [(a_o, (oc11 a_h a_im a_ke a_k a_wa a_th a_ha a_wk a_r a_x e_tl e_fd e_fpl a_wd e_wn a_rf e_lr)), (a_rf, (arI G 5 f_rf))] sz)) (va_A [(a_o, (oc11 a_h a_im a_ke a_k a_wa a_th a_ha a_wk a_r a_x e_tl e_fd e_fpl a_wd e_wn a_rf e_lr)), (a_rf, (arI G 5 f_rf))] sz)) 0 0 (va_A [(a_o, (oc11 a_h a_im a_ke a_k a_wa a_th a_ha a_wk a_r a_x e_tl e_fd e_fpl a_wd e_wn a_rf e_lr)), (a_rf, (arI G 5 f_rf))] sz) := by
  refine Met.ofW (cc := cX11_refuse) (maxL := 3) (ret := (some .int)) (by decide +kernel) rfl ?_
  intro p e s m args below meth c s₁ B hml hv
  obtain ⟨rfl, hsz, hP, hK, hD0, hN, hT⟩ := hv
  have hx := B.exec
  have hb := B.bytes
  have hr := B.returns
  have hts : ∀ w ∈ tblG, w.before _ s = true := fun w h => atoms_spec (ws := (wsG yX11_refuse cX11_refuse 3 (some .int))) B.pre w (List.mem_cons_of_mem _ h)
  have hown : s.vm.findClass RX11 = some m.cls := findClass_of_methodNamed B.named
  have hlocks := B.notSynchronized
  subst hsz
  have hD := hD0.self (sz := s.heap.size)
  generalize hAe : va_A [(a_o, (oc11 a_h a_im a_ke a_k a_wa a_th a_ha a_wk a_r a_x e_tl e_fd e_fpl a_wd e_wn a_rf e_lr)), (a_rf, (arI G 5 f_rf))] s.heap.size = A at hD hT ⊢
  have hA : ∀ q : Nat, s.heap.size ≤ q → A q := fun q h => by rw [← hAe]; exact Or.inr h
  have hS : va_S A s.heap s.heap [] := va_S.rf
  replace hP : va_P G.1 vwCl [(a_o, (oc11 a_h a_im a_ke a_k a_wa a_th a_ha a_wk a_r a_x e_tl e_fd e_fpl a_wd e_wn a_rf e_lr)), (a_rf, (arI G 5 f_rf))] s.heap := hP
  have hl := lv_entry ([.ref a_o, .int (-2)]) (n := 3) (Nat.le_of_ble_eq_true rfl)
  rw [lg_entry_eq]
  generalize (lg_sl ([.ref a_o, .int (-2)]) ++ List.replicate (3 - (lg_sl ([.ref a_o, .int (-2)])).length) Slot.unset).toArray = ls at hl ⊢
  replace hl : lv_has ls 3 [(0, .ref a_o), (1, .int (-2))] := hl
  refine lv_aload_n hx hb dX11_refuse_0 rfl (lv_at hl 0 rfl) ?_
  refine lv_iload_n hx hb dX11_refuse_1 rfl (lv_at hl 1 rfl) ?_
  refine va_put (D := G.1) (ci := 11) (v := .int (-2)) (ty := .int) (C := RX11) (T := TX11) (N := 17) hx hb hts inG_X11 tyX11 tyX11_ok nmX11 hown hK hP hD hS 0 rfl rfl 16 (by decide +kernel) (hts _ fl_X11_94) (fun _ h9 => h9) rfl (by decide +kernel) rfl rfl (Nat.le_of_ble_eq_true rfl) dX11_refuse_2 ?_
  clear hP hD hS
  intro H locs hP hD hS
  refine g5_rs [(a_o, (oc11 a_h a_im a_ke a_k a_wa a_th a_ha a_wk a_r a_x e_tl e_fd e_fpl a_wd e_wn a_rf (-2))), (a_rf, (arI G 5 f_rf))] hP hD ?_
  clear hP hD
  intro hP hD
  refine lv_iload_n hx hb dX11_refuse_5 rfl (lv_at hl 1 rfl) ?_
  refine W.eq (g2 := F0 m 6 ls [.int (-2)]) rfl ?_
  refine lv_bipush (v := (-3)) hx hb dX11_refuse_6 (by decide +kernel) ?_
  refine lv_icmp_lt (tgt := 18) hx hb dX11_refuse_8 (by decide +kernel) (fun c_1 => ?_) (fun c_1 => ?_)
  ·
    exact absurd c_1 (by decide +kernel)
  ·
    refine lv_iload_n hx hb dX11_refuse_11 rfl (lv_at hl 1 rfl) ?_
    refine lv_ineg hx hb dX11_refuse_12 ?_
    refine g5_ti (v := 2) (by decide +kernel) ?_
    refine lv_iconst (v := 1) hx hb dX11_refuse_13 (by decide +kernel) ?_
    refine lv_isub hx hb dX11_refuse_14 ?_
    refine g5_ti (v := 1) (by decide +kernel) ?_
    refine W.eq (g2 := F0 m 15 ls [.int 1]) rfl ?_
    refine lv_goto (tgt := 22) hx hb dX11_refuse_15 (by decide +kernel) ?_
    refine lv_istore_n (lv' := [(2, .int 1), (0, .ref a_o), (1, .int (-2))]) hx hb dX11_refuse_22 rfl hl (by decide +kernel) rfl ?_
    clear hl
    intro ls hl
    refine lv_iload_n hx hb dX11_refuse_23 rfl (lv_at hl 0 rfl) ?_
    refine lv_if_lt (tgt := 46) hx hb dX11_refuse_24 (by decide +kernel) (fun c_2 => ?_) (fun c_2 => ?_)
    ·
      exact absurd c_2 (by decide +kernel)
    ·
      refine lv_iload_n hx hb dX11_refuse_27 rfl (lv_at hl 0 rfl) ?_
      refine lv_aload_n hx hb dX11_refuse_28 rfl (lv_at hl 1 rfl) ?_
      refine va_get (D := G.1) (ci := 11) (v := .ref a_rf) (C := RX11) (T := TX11) (N := 17) hx hb hts inG_X11 hown hK hP 0 rfl rfl 15 (by decide +kernel) (hts _ fl_X11_91) (fun _ h9 => h9) rfl dX11_refuse_29 ?_
      refine va_alen hx hb hK hP 1 0 rfl rfl (v := 5) (by show Int32.ofNat 5 = 5; decide) dX11_refuse_32 ?_
      refine W.eq (g2 := F0 m 33 ls [.int 5, .int 1]) rfl ?_
      refine lv_icmp_ge (tgt := 46) hx hb dX11_refuse_33 (by decide +kernel) (fun c_3 => ?_) (fun c_3 => ?_)
      ·
        exact absurd c_3 (by decide +kernel)
      ·
        refine lv_aload_n hx hb dX11_refuse_36 rfl (lv_at hl 1 rfl) ?_
        refine va_get (D := G.1) (ci := 11) (v := .ref a_rf) (C := RX11) (T := TX11) (N := 17) hx hb hts inG_X11 hown hK hP 0 rfl rfl 15 (by decide +kernel) (hts _ fl_X11_91) (fun _ h9 => h9) rfl dX11_refuse_37 ?_
        refine lv_iload_n hx hb dX11_refuse_40 rfl (lv_at hl 0 rfl) ?_
        refine lv_dup2_11 hx hb dX11_refuse_41 rfl rfl ?_
        refine W.eq (g2 := F0 m 42 ls [.int 1, .ref a_rf, .int 1, .ref a_rf]) rfl ?_
        refine va_iald hx hb hK hP 1 0 rfl rfl (i := 1) (by unfold vp_in; decide) dX11_refuse_42 ?_
        refine g5_ti (v := (f_rf 1)) rfl ?_
        refine lv_iconst (v := 1) hx hb dX11_refuse_43 (by decide +kernel) ?_
        refine lv_iadd hx hb dX11_refuse_44 ?_
        refine va_iast hx hb hK hP hD hS 1 0 rfl rfl (i := 1) (x := ((f_rf 1) + 1)) (by unfold vp_in; decide) dX11_refuse_45 ?_
        clear hP hD hS
        intro H locs hP hD hS
        refine g5_rs [(a_o, (oc11 a_h a_im a_ke a_k a_wa a_th a_ha a_wk a_r a_x e_tl e_fd e_fpl a_wd e_wn a_rf (-2))), (a_rf, (arI G 5 (upd f_rf 1 ((f_rf 1) + 1))))] hP hD ?_
        clear hP hD
        intro hP hD
        refine lv_iload_n hx hb dX11_refuse_46 rfl (lv_at hl 2 rfl) ?_
        refine W.eq (g2 := F0 m 47 ls [.int (-2)]) rfl ?_
        exact W.iret (v := (-2)) hx hb hr (fun t ht hW => ⟨⟨(-2), [(a_o, (oc11 a_h a_im a_ke a_k a_wa a_th a_ha a_wk a_r a_x e_tl e_fd e_fpl a_wd e_wn a_rf (-2))), (a_rf, (arI G 5 (upd f_rf 1 ((f_rf 1) + 1))))], rfl, ⟨(upd f_rf 1 ((f_rf 1) + 1)), rfl, rfl⟩, by rw [ht]; exact hP.sub [0, 1] rfl, hD.sub [0, 1] (by decide +kernel) rfl⟩, hS.F ht⟩) hS.2.2 dX11_refuse_47
set_option maxHeartbeats 4000000 in
set_option maxRecDepth 100000 in
theorem x_refuse3 (l : Launch) (G : g5_G) (a_o a_rf a_h a_im a_ke a_k a_wa a_th a_ha a_wk a_r a_x a_wd : Nat) (sz : Nat) (e_tl : Int32) (e_fd : Int32) (e_fpl : Int32) (e_wn : Int32) (e_lr : Int32) (f_rf : Nat → Int32) (h_e_tl : 0 ≤ e_tl.toInt ∧ e_tl.toInt ≤ 400) (h_e_wn : 0 ≤ e_wn.toInt ∧ e_wn.toInt ≤ 1) : Met l yX11_refuse (wsG yX11_refuse cX11_refuse 3 (some .int)) ({ frames := 0, cells := 0, slots := 0, locals := 0 }) (va_Pc [.ref a_o, .int (-3)] (g5_P G [(a_o, (oc11 a_h a_im a_ke a_k a_wa a_th a_ha a_wk a_r a_x e_tl e_fd e_fpl a_wd e_wn a_rf e_lr)), (a_rf, (arI G 5 f_rf))] sz)) (va_Qi (fun (r : Int32) (u : va_W) => (∃ (o_rf : Nat → Int32), (r = (-3)) ∧ (u = [(a_o, (oc11 a_h a_im a_ke a_k a_wa a_th a_ha a_wk a_r a_x e_tl e_fd e_fpl a_wd e_wn a_rf (-3))), (a_rf, (arI G 5 o_rf))]))) (g5_B G (va_A [(a_o, (oc11 a_h a_im a_ke a_k a_wa a_th a_ha a_wk a_r a_x e_tl e_fd e_fpl a_wd e_wn a_rf e_lr)), (a_rf, (arI G 5 f_rf))] sz)) (va_A [(a_o, (oc11 a_h a_im a_ke a_k a_wa a_th a_ha a_wk a_r a_x e_tl e_fd e_fpl a_wd e_wn a_rf e_lr)), (a_rf, (arI G 5 f_rf))] sz)) 0 0 (va_A [(a_o, (oc11 a_h a_im a_ke a_k a_wa a_th a_ha a_wk a_r a_x e_tl e_fd e_fpl a_wd e_wn a_rf e_lr)), (a_rf, (arI G 5 f_rf))] sz) := by
  refine Met.ofW (cc := cX11_refuse) (maxL := 3) (ret := (some .int)) (by decide +kernel) rfl ?_
  intro p e s m args below meth c s₁ B hml hv
  obtain ⟨rfl, hsz, hP, hK, hD0, hN, hT⟩ := hv
  have hx := B.exec
  have hb := B.bytes
  have hr := B.returns
  have hts : ∀ w ∈ tblG, w.before _ s = true := fun w h => atoms_spec (ws := (wsG yX11_refuse cX11_refuse 3 (some .int))) B.pre w (List.mem_cons_of_mem _ h)
  have hown : s.vm.findClass RX11 = some m.cls := findClass_of_methodNamed B.named
  have hlocks := B.notSynchronized
  subst hsz
  have hD := hD0.self (sz := s.heap.size)
  generalize hAe : va_A [(a_o, (oc11 a_h a_im a_ke a_k a_wa a_th a_ha a_wk a_r a_x e_tl e_fd e_fpl a_wd e_wn a_rf e_lr)), (a_rf, (arI G 5 f_rf))] s.heap.size = A at hD hT ⊢
  have hA : ∀ q : Nat, s.heap.size ≤ q → A q := fun q h => by rw [← hAe]; exact Or.inr h
  have hS : va_S A s.heap s.heap [] := va_S.rf
  replace hP : va_P G.1 vwCl [(a_o, (oc11 a_h a_im a_ke a_k a_wa a_th a_ha a_wk a_r a_x e_tl e_fd e_fpl a_wd e_wn a_rf e_lr)), (a_rf, (arI G 5 f_rf))] s.heap := hP
  have hl := lv_entry ([.ref a_o, .int (-3)]) (n := 3) (Nat.le_of_ble_eq_true rfl)
  rw [lg_entry_eq]
  generalize (lg_sl ([.ref a_o, .int (-3)]) ++ List.replicate (3 - (lg_sl ([.ref a_o, .int (-3)])).length) Slot.unset).toArray = ls at hl ⊢
  replace hl : lv_has ls 3 [(0, .ref a_o), (1, .int (-3))] := hl
  refine lv_aload_n hx hb dX11_refuse_0 rfl (lv_at hl 0 rfl) ?_
  refine lv_iload_n hx hb dX11_refuse_1 rfl (lv_at hl 1 rfl) ?_
  refine va_put (D := G.1) (ci := 11) (v := .int (-3)) (ty := .int) (C := RX11) (T := TX11) (N := 17) hx hb hts inG_X11 tyX11 tyX11_ok nmX11 hown hK hP hD hS 0 rfl rfl 16 (by decide +kernel) (hts _ fl_X11_94) (fun _ h9 => h9) rfl (by decide +kernel) rfl rfl (Nat.le_of_ble_eq_true rfl) dX11_refuse_2 ?_
  clear hP hD hS
  intro H locs hP hD hS
  refine g5_rs [(a_o, (oc11 a_h a_im a_ke a_k a_wa a_th a_ha a_wk a_r a_x e_tl e_fd e_fpl a_wd e_wn a_rf (-3))), (a_rf, (arI G 5 f_rf))] hP hD ?_
  clear hP hD
  intro hP hD
  refine lv_iload_n hx hb dX11_refuse_5 rfl (lv_at hl 1 rfl) ?_
  refine W.eq (g2 := F0 m 6 ls [.int (-3)]) rfl ?_
  refine lv_bipush (v := (-3)) hx hb dX11_refuse_6 (by decide +kernel) ?_
  refine lv_icmp_lt (tgt := 18) hx hb dX11_refuse_8 (by decide +kernel) (fun c_1 => ?_) (fun c_1 => ?_)
  ·
    exact absurd c_1 (by decide +kernel)
  ·
    refine lv_iload_n hx hb dX11_refuse_11 rfl (lv_at hl 1 rfl) ?_
    refine lv_ineg hx hb dX11_refuse_12 ?_
    refine g5_ti (v := 3) (by decide +kernel) ?_
    refine lv_iconst (v := 1) hx hb dX11_refuse_13 (by decide +kernel) ?_
    refine lv_isub hx hb dX11_refuse_14 ?_
    refine g5_ti (v := 2) (by decide +kernel) ?_
    refine W.eq (g2 := F0 m 15 ls [.int 2]) rfl ?_
    refine lv_goto (tgt := 22) hx hb dX11_refuse_15 (by decide +kernel) ?_
    refine lv_istore_n (lv' := [(2, .int 2), (0, .ref a_o), (1, .int (-3))]) hx hb dX11_refuse_22 rfl hl (by decide +kernel) rfl ?_
    clear hl
    intro ls hl
    refine lv_iload_n hx hb dX11_refuse_23 rfl (lv_at hl 0 rfl) ?_
    refine lv_if_lt (tgt := 46) hx hb dX11_refuse_24 (by decide +kernel) (fun c_2 => ?_) (fun c_2 => ?_)
    ·
      exact absurd c_2 (by decide +kernel)
    ·
      refine lv_iload_n hx hb dX11_refuse_27 rfl (lv_at hl 0 rfl) ?_
      refine lv_aload_n hx hb dX11_refuse_28 rfl (lv_at hl 1 rfl) ?_
      refine va_get (D := G.1) (ci := 11) (v := .ref a_rf) (C := RX11) (T := TX11) (N := 17) hx hb hts inG_X11 hown hK hP 0 rfl rfl 15 (by decide +kernel) (hts _ fl_X11_91) (fun _ h9 => h9) rfl dX11_refuse_29 ?_
      refine va_alen hx hb hK hP 1 0 rfl rfl (v := 5) (by show Int32.ofNat 5 = 5; decide) dX11_refuse_32 ?_
      refine W.eq (g2 := F0 m 33 ls [.int 5, .int 2]) rfl ?_
      refine lv_icmp_ge (tgt := 46) hx hb dX11_refuse_33 (by decide +kernel) (fun c_3 => ?_) (fun c_3 => ?_)
      ·
        exact absurd c_3 (by decide +kernel)
      ·
        refine lv_aload_n hx hb dX11_refuse_36 rfl (lv_at hl 1 rfl) ?_
        refine va_get (D := G.1) (ci := 11) (v := .ref a_rf) (C := RX11) (T := TX11) (N := 17) hx hb hts inG_X11 hown hK hP 0 rfl rfl 15 (by decide +kernel) (hts _ fl_X11_91) (fun _ h9 => h9) rfl dX11_refuse_37 ?_
        refine lv_iload_n hx hb dX11_refuse_40 rfl (lv_at hl 0 rfl) ?_
        refine lv_dup2_11 hx hb dX11_refuse_41 rfl rfl ?_
        refine W.eq (g2 := F0 m 42 ls [.int 2, .ref a_rf, .int 2, .ref a_rf]) rfl ?_
        refine va_iald hx hb hK hP 1 0 rfl rfl (i := 2) (by unfold vp_in; decide) dX11_refuse_42 ?_
        refine g5_ti (v := (f_rf 2)) rfl ?_
        refine lv_iconst (v := 1) hx hb dX11_refuse_43 (by decide +kernel) ?_
        refine lv_iadd hx hb dX11_refuse_44 ?_
        refine va_iast hx hb hK hP hD hS 1 0 rfl rfl (i := 2) (x := ((f_rf 2) + 1)) (by unfold vp_in; decide) dX11_refuse_45 ?_
        clear hP hD hS
        intro H locs hP hD hS
        refine g5_rs [(a_o, (oc11 a_h a_im a_ke a_k a_wa a_th a_ha a_wk a_r a_x e_tl e_fd e_fpl a_wd e_wn a_rf (-3))), (a_rf, (arI G 5 (upd f_rf 2 ((f_rf 2) + 1))))] hP hD ?_
        clear hP hD
        intro hP hD
        refine lv_iload_n hx hb dX11_refuse_46 rfl (lv_at hl 2 rfl) ?_
        refine W.eq (g2 := F0 m 47 ls [.int (-3)]) rfl ?_
        exact W.iret (v := (-3)) hx hb hr (fun t ht hW => ⟨⟨(-3), [(a_o, (oc11 a_h a_im a_ke a_k a_wa a_th a_ha a_wk a_r a_x e_tl e_fd e_fpl a_wd e_wn a_rf (-3))), (a_rf, (arI G 5 (upd f_rf 2 ((f_rf 2) + 1))))], rfl, ⟨(upd f_rf 2 ((f_rf 2) + 1)), rfl, rfl⟩, by rw [ht]; exact hP.sub [0, 1] rfl, hD.sub [0, 1] (by decide +kernel) rfl⟩, hS.F ht⟩) hS.2.2 dX11_refuse_47
set_option maxHeartbeats 4000000 in
set_option maxRecDepth 100000 in
theorem x_refuse5 (l : Launch) (G : g5_G) (a_o a_rf a_h a_im a_ke a_k a_wa a_th a_ha a_wk a_r a_x a_wd : Nat) (sz : Nat) (e_tl : Int32) (e_fd : Int32) (e_fpl : Int32) (e_wn : Int32) (e_lr : Int32) (f_rf : Nat → Int32) (h_e_tl : 0 ≤ e_tl.toInt ∧ e_tl.toInt ≤ 400) (h_e_wn : 0 ≤ e_wn.toInt ∧ e_wn.toInt ≤ 1) : Met l yX11_refuse (wsG yX11_refuse cX11_refuse 3 (some .int)) ({ frames := 0, cells := 0, slots := 0, locals := 0 }) (va_Pc [.ref a_o, .int (-5)] (g5_P G [(a_o, (oc11 a_h a_im a_ke a_k a_wa a_th a_ha a_wk a_r a_x e_tl e_fd e_fpl a_wd e_wn a_rf e_lr)), (a_rf, (arI G 5 f_rf))] sz)) (va_Qi (fun (r : Int32) (u : va_W) => (∃ (o_rf : Nat → Int32), (r = (-5)) ∧ (u = [(a_o, (oc11 a_h a_im a_ke a_k a_wa a_th a_ha a_wk a_r a_x e_tl e_fd e_fpl a_wd e_wn a_rf (-5))), (a_rf, (arI G 5 o_rf))]))) (g5_B G (va_A [(a_o, (oc11 a_h a_im a_ke a_k a_wa a_th a_ha a_wk a_r a_x e_tl e_fd e_fpl a_wd e_wn a_rf e_lr)), (a_rf, (arI G 5 f_rf))] sz)) (va_A [(a_o, (oc11 a_h a_im a_ke a_k a_wa a_th a_ha a_wk a_r a_x e_tl e_fd e_fpl a_wd e_wn a_rf e_lr)), (a_rf, (arI G 5 f_rf))] sz)) 0 0 (va_A [(a_o, (oc11 a_h a_im a_ke a_k a_wa a_th a_ha a_wk a_r a_x e_tl e_fd e_fpl a_wd e_wn a_rf e_lr)), (a_rf, (arI G 5 f_rf))] sz) := by
  refine Met.ofW (cc := cX11_refuse) (maxL := 3) (ret := (some .int)) (by decide +kernel) rfl ?_
  intro p e s m args below meth c s₁ B hml hv
  obtain ⟨rfl, hsz, hP, hK, hD0, hN, hT⟩ := hv
  have hx := B.exec
  have hb := B.bytes
  have hr := B.returns
  have hts : ∀ w ∈ tblG, w.before _ s = true := fun w h => atoms_spec (ws := (wsG yX11_refuse cX11_refuse 3 (some .int))) B.pre w (List.mem_cons_of_mem _ h)
  have hown : s.vm.findClass RX11 = some m.cls := findClass_of_methodNamed B.named
  have hlocks := B.notSynchronized
  subst hsz
  have hD := hD0.self (sz := s.heap.size)
  generalize hAe : va_A [(a_o, (oc11 a_h a_im a_ke a_k a_wa a_th a_ha a_wk a_r a_x e_tl e_fd e_fpl a_wd e_wn a_rf e_lr)), (a_rf, (arI G 5 f_rf))] s.heap.size = A at hD hT ⊢
  have hA : ∀ q : Nat, s.heap.size ≤ q → A q := fun q h => by rw [← hAe]; exact Or.inr h
  have hS : va_S A s.heap s.heap [] := va_S.rf
  replace hP : va_P G.1 vwCl [(a_o, (oc11 a_h a_im a_ke a_k a_wa a_th a_ha a_wk a_r a_x e_tl e_fd e_fpl a_wd e_wn a_rf e_lr)), (a_rf, (arI G 5 f_rf))] s.heap := hP
  have hl := lv_entry ([.ref a_o, .int (-5)]) (n := 3) (Nat.le_of_ble_eq_true rfl)
  rw [lg_entry_eq]
  generalize (lg_sl ([.ref a_o, .int (-5)]) ++ List.replicate (3 - (lg_sl ([.ref a_o, .int (-5)])).length) Slot.unset).toArray = ls at hl ⊢
  replace hl : lv_has ls 3 [(0, .ref a_o), (1, .int (-5))] := hl
  refine lv_aload_n hx hb dX11_refuse_0 rfl (lv_at hl 0 rfl) ?_
  refine lv_iload_n hx hb dX11_refuse_1 rfl (lv_at hl 1 rfl) ?_
  refine va_put (D := G.1) (ci := 11) (v := .int (-5)) (ty := .int) (C := RX11) (T := TX11) (N := 17) hx hb hts inG_X11 tyX11 tyX11_ok nmX11 hown hK hP hD hS 0 rfl rfl 16 (by decide +kernel) (hts _ fl_X11_94) (fun _ h9 => h9) rfl (by decide +kernel) rfl rfl (Nat.le_of_ble_eq_true rfl) dX11_refuse_2 ?_
  clear hP hD hS
  intro H locs hP hD hS
  refine g5_rs [(a_o, (oc11 a_h a_im a_ke a_k a_wa a_th a_ha a_wk a_r a_x e_tl e_fd e_fpl a_wd e_wn a_rf (-5))), (a_rf, (arI G 5 f_rf))] hP hD ?_
  clear hP hD
  intro hP hD
  refine lv_iload_n hx hb dX11_refuse_5 rfl (lv_at hl 1 rfl) ?_
  refine W.eq (g2 := F0 m 6 ls [.int (-5)]) rfl ?_
  refine lv_bipush (v := (-3)) hx hb dX11_refuse_6 (by decide +kernel) ?_
  refine lv_icmp_lt (tgt := 18) hx hb dX11_refuse_8 (by decide +kernel) (fun c_1 => ?_) (fun c_1 => ?_)
  ·
    refine lv_iload_n hx hb dX11_refuse_18 rfl (lv_at hl 1 rfl) ?_
    refine lv_ineg hx hb dX11_refuse_19 ?_
    refine g5_ti (v := 5) (by decide +kernel) ?_
    refine lv_iconst (v := 2) hx hb dX11_refuse_20 (by decide +kernel) ?_
    refine lv_isub hx hb dX11_refuse_21 ?_
    refine g5_ti (v := 3) (by decide +kernel) ?_
    refine W.eq (g2 := F0 m 22 ls [.int 3]) rfl ?_
    refine lv_istore_n (lv' := [(2, .int 3), (0, .ref a_o), (1, .int (-5))]) hx hb dX11_refuse_22 rfl hl (by decide +kernel) rfl ?_
    clear hl
    intro ls hl
    refine lv_iload_n hx hb dX11_refuse_23 rfl (lv_at hl 0 rfl) ?_
    refine lv_if_lt (tgt := 46) hx hb dX11_refuse_24 (by decide +kernel) (fun c_2 => ?_) (fun c_2 => ?_)
    ·
      exact absurd c_2 (by decide +kernel)
    ·
      refine lv_iload_n hx hb dX11_refuse_27 rfl (lv_at hl 0 rfl) ?_
      refine lv_aload_n hx hb dX11_refuse_28 rfl (lv_at hl 1 rfl) ?_
      refine va_get (D := G.1) (ci := 11) (v := .ref a_rf) (C := RX11) (T := TX11) (N := 17) hx hb hts inG_X11 hown hK hP 0 rfl rfl 15 (by decide +kernel) (hts _ fl_X11_91) (fun _ h9 => h9) rfl dX11_refuse_29 ?_
      refine va_alen hx hb hK hP 1 0 rfl rfl (v := 5) (by show Int32.ofNat 5 = 5; decide) dX11_refuse_32 ?_
      refine W.eq (g2 := F0 m 33 ls [.int 5, .int 3]) rfl ?_
      refine lv_icmp_ge (tgt := 46) hx hb dX11_refuse_33 (by decide +kernel) (fun c_3 => ?_) (fun c_3 => ?_)
      ·
        exact absurd c_3 (by decide +kernel)
      ·
        refine lv_aload_n hx hb dX11_refuse_36 rfl (lv_at hl 1 rfl) ?_
        refine va_get (D := G.1) (ci := 11) (v := .ref a_rf) (C := RX11) (T := TX11) (N := 17) hx hb hts inG_X11 hown hK hP 0 rfl rfl 15 (by decide +kernel) (hts _ fl_X11_91) (fun _ h9 => h9) rfl dX11_refuse_37 ?_
        refine lv_iload_n hx hb dX11_refuse_40 rfl (lv_at hl 0 rfl) ?_
        refine lv_dup2_11 hx hb dX11_refuse_41 rfl rfl ?_
        refine W.eq (g2 := F0 m 42 ls [.int 3, .ref a_rf, .int 3, .ref a_rf]) rfl ?_
        refine va_iald hx hb hK hP 1 0 rfl rfl (i := 3) (by unfold vp_in; decide) dX11_refuse_42 ?_
        refine g5_ti (v := (f_rf 3)) rfl ?_
        refine lv_iconst (v := 1) hx hb dX11_refuse_43 (by decide +kernel) ?_
        refine lv_iadd hx hb dX11_refuse_44 ?_
        refine va_iast hx hb hK hP hD hS 1 0 rfl rfl (i := 3) (x := ((f_rf 3) + 1)) (by unfold vp_in; decide) dX11_refuse_45 ?_
        clear hP hD hS
        intro H locs hP hD hS
        refine g5_rs [(a_o, (oc11 a_h a_im a_ke a_k a_wa a_th a_ha a_wk a_r a_x e_tl e_fd e_fpl a_wd e_wn a_rf (-5))), (a_rf, (arI G 5 (upd f_rf 3 ((f_rf 3) + 1))))] hP hD ?_
        clear hP hD
        intro hP hD
        refine lv_iload_n hx hb dX11_refuse_46 rfl (lv_at hl 2 rfl) ?_
        refine W.eq (g2 := F0 m 47 ls [.int (-5)]) rfl ?_
        exact W.iret (v := (-5)) hx hb hr (fun t ht hW => ⟨⟨(-5), [(a_o, (oc11 a_h a_im a_ke a_k a_wa a_th a_ha a_wk a_r a_x e_tl e_fd e_fpl a_wd e_wn a_rf (-5))), (a_rf, (arI G 5 (upd f_rf 3 ((f_rf 3) + 1))))], rfl, ⟨(upd f_rf 3 ((f_rf 3) + 1)), rfl, rfl⟩, by rw [ht]; exact hP.sub [0, 1] rfl, hD.sub [0, 1] (by decide +kernel) rfl⟩, hS.F ht⟩) hS.2.2 dX11_refuse_47
  ·
    exact absurd c_1 (by decide +kernel)
set_option maxHeartbeats 4000000 in
set_option maxRecDepth 100000 in
theorem x_refuse6 (l : Launch) (G : g5_G) (a_o a_rf a_h a_im a_ke a_k a_wa a_th a_ha a_wk a_r a_x a_wd : Nat) (sz : Nat) (e_tl : Int32) (e_fd : Int32) (e_fpl : Int32) (e_wn : Int32) (e_lr : Int32) (f_rf : Nat → Int32) (h_e_tl : 0 ≤ e_tl.toInt ∧ e_tl.toInt ≤ 400) (h_e_wn : 0 ≤ e_wn.toInt ∧ e_wn.toInt ≤ 1) : Met l yX11_refuse (wsG yX11_refuse cX11_refuse 3 (some .int)) ({ frames := 0, cells := 0, slots := 0, locals := 0 }) (va_Pc [.ref a_o, .int (-6)] (g5_P G [(a_o, (oc11 a_h a_im a_ke a_k a_wa a_th a_ha a_wk a_r a_x e_tl e_fd e_fpl a_wd e_wn a_rf e_lr)), (a_rf, (arI G 5 f_rf))] sz)) (va_Qi (fun (r : Int32) (u : va_W) => (∃ (o_rf : Nat → Int32), (r = (-6)) ∧ (u = [(a_o, (oc11 a_h a_im a_ke a_k a_wa a_th a_ha a_wk a_r a_x e_tl e_fd e_fpl a_wd e_wn a_rf (-6))), (a_rf, (arI G 5 o_rf))]))) (g5_B G (va_A [(a_o, (oc11 a_h a_im a_ke a_k a_wa a_th a_ha a_wk a_r a_x e_tl e_fd e_fpl a_wd e_wn a_rf e_lr)), (a_rf, (arI G 5 f_rf))] sz)) (va_A [(a_o, (oc11 a_h a_im a_ke a_k a_wa a_th a_ha a_wk a_r a_x e_tl e_fd e_fpl a_wd e_wn a_rf e_lr)), (a_rf, (arI G 5 f_rf))] sz)) 0 0 (va_A [(a_o, (oc11 a_h a_im a_ke a_k a_wa a_th a_ha a_wk a_r a_x e_tl e_fd e_fpl a_wd e_wn a_rf e_lr)), (a_rf, (arI G 5 f_rf))] sz) := by
  refine Met.ofW (cc := cX11_refuse) (maxL := 3) (ret := (some .int)) (by decide +kernel) rfl ?_
  intro p e s m args below meth c s₁ B hml hv
  obtain ⟨rfl, hsz, hP, hK, hD0, hN, hT⟩ := hv
  have hx := B.exec
  have hb := B.bytes
  have hr := B.returns
  have hts : ∀ w ∈ tblG, w.before _ s = true := fun w h => atoms_spec (ws := (wsG yX11_refuse cX11_refuse 3 (some .int))) B.pre w (List.mem_cons_of_mem _ h)
  have hown : s.vm.findClass RX11 = some m.cls := findClass_of_methodNamed B.named
  have hlocks := B.notSynchronized
  subst hsz
  have hD := hD0.self (sz := s.heap.size)
  generalize hAe : va_A [(a_o, (oc11 a_h a_im a_ke a_k a_wa a_th a_ha a_wk a_r a_x e_tl e_fd e_fpl a_wd e_wn a_rf e_lr)), (a_rf, (arI G 5 f_rf))] s.heap.size = A at hD hT ⊢
  have hA : ∀ q : Nat, s.heap.size ≤ q → A q := fun q h => by rw [← hAe]; exact Or.inr h
  have hS : va_S A s.heap s.heap [] := va_S.rf
  replace hP : va_P G.1 vwCl [(a_o, (oc11 a_h a_im a_ke a_k a_wa a_th a_ha a_wk a_r a_x e_tl e_fd e_fpl a_wd e_wn a_rf e_lr)), (a_rf, (arI G 5 f_rf))] s.heap := hP
  have hl := lv_entry ([.ref a_o, .int (-6)]) (n := 3) (Nat.le_of_ble_eq_true rfl)
  rw [lg_entry_eq]
  generalize (lg_sl ([.ref a_o, .int (-6)]) ++ List.replicate (3 - (lg_sl ([.ref a_o, .int (-6)])).length) Slot.unset).toArray = ls at hl ⊢
  replace hl : lv_has ls 3 [(0, .ref a_o), (1, .int (-6))] := hl
  refine lv_aload_n hx hb dX11_refuse_0 rfl (lv_at hl 0 rfl) ?_
  refine lv_iload_n hx hb dX11_refuse_1 rfl (lv_at hl 1 rfl) ?_
  refine va_put (D := G.1) (ci := 11) (v := .int (-6)) (ty := .int) (C := RX11) (T := TX11) (N := 17) hx hb hts inG_X11 tyX11 tyX11_ok nmX11 hown hK hP hD hS 0 rfl rfl 16 (by decide +kernel) (hts _ fl_X11_94) (fun _ h9 => h9) rfl (by decide +kernel) rfl rfl (Nat.le_of_ble_eq_true rfl) dX11_refuse_2 ?_
  clear hP hD hS
  intro H locs hP hD hS
  refine g5_rs [(a_o, (oc11 a_h a_im a_ke a_k a_wa a_th a_ha a_wk a_r a_x e_tl e_fd e_fpl a_wd e_wn a_rf (-6))), (a_rf, (arI G 5 f_rf))] hP hD ?_
  clear hP hD
  intro hP hD
  refine lv_iload_n hx hb dX11_refuse_5 rfl (lv_at hl 1 rfl) ?_
  refine W.eq (g2 := F0 m 6 ls [.int (-6)]) rfl ?_
  refine lv_bipush (v := (-3)) hx hb dX11_refuse_6 (by decide +kernel) ?_
  refine lv_icmp_lt (tgt := 18) hx hb dX11_refuse_8 (by decide +kernel) (fun c_1 => ?_) (fun c_1 => ?_)
  ·
    refine lv_iload_n hx hb dX11_refuse_18 rfl (lv_at hl 1 rfl) ?_
    refine lv_ineg hx hb dX11_refuse_19 ?_
    refine g5_ti (v := 6) (by decide +kernel) ?_
    refine lv_iconst (v := 2) hx hb dX11_refuse_20 (by decide +kernel) ?_
    refine lv_isub hx hb dX11_refuse_21 ?_
    refine g5_ti (v := 4) (by decide +kernel) ?_
    refine W.eq (g2 := F0 m 22 ls [.int 4]) rfl ?_
    refine lv_istore_n (lv' := [(2, .int 4), (0, .ref a_o), (1, .int (-6))]) hx hb dX11_refuse_22 rfl hl (by decide +kernel) rfl ?_
    clear hl
    intro ls hl
    refine lv_iload_n hx hb dX11_refuse_23 rfl (lv_at hl 0 rfl) ?_
    refine lv_if_lt (tgt := 46) hx hb dX11_refuse_24 (by decide +kernel) (fun c_2 => ?_) (fun c_2 => ?_)
    ·
      exact absurd c_2 (by decide +kernel)
    ·
      refine lv_iload_n hx hb dX11_refuse_27 rfl (lv_at hl 0 rfl) ?_
      refine lv_aload_n hx hb dX11_refuse_28 rfl (lv_at hl 1 rfl) ?_
      refine va_get (D := G.1) (ci := 11) (v := .ref a_rf) (C := RX11) (T := TX11) (N := 17) hx hb hts inG_X11 hown hK hP 0 rfl rfl 15 (by decide +kernel) (hts _ fl_X11_91) (fun _ h9 => h9) rfl dX11_refuse_29 ?_
      refine va_alen hx hb hK hP 1 0 rfl rfl (v := 5) (by show Int32.ofNat 5 = 5; decide) dX11_refuse_32 ?_
      refine W.eq (g2 := F0 m 33 ls [.int 5, .int 4]) rfl ?_
      refine lv_icmp_ge (tgt := 46) hx hb dX11_refuse_33 (by decide +kernel) (fun c_3 => ?_) (fun c_3 => ?_)
      ·
        exact absurd c_3 (by decide +kernel)
      ·
        refine lv_aload_n hx hb dX11_refuse_36 rfl (lv_at hl 1 rfl) ?_
        refine va_get (D := G.1) (ci := 11) (v := .ref a_rf) (C := RX11) (T := TX11) (N := 17) hx hb hts inG_X11 hown hK hP 0 rfl rfl 15 (by decide +kernel) (hts _ fl_X11_91) (fun _ h9 => h9) rfl dX11_refuse_37 ?_
        refine lv_iload_n hx hb dX11_refuse_40 rfl (lv_at hl 0 rfl) ?_
        refine lv_dup2_11 hx hb dX11_refuse_41 rfl rfl ?_
        refine W.eq (g2 := F0 m 42 ls [.int 4, .ref a_rf, .int 4, .ref a_rf]) rfl ?_
        refine va_iald hx hb hK hP 1 0 rfl rfl (i := 4) (by unfold vp_in; decide) dX11_refuse_42 ?_
        refine g5_ti (v := (f_rf 4)) rfl ?_
        refine lv_iconst (v := 1) hx hb dX11_refuse_43 (by decide +kernel) ?_
        refine lv_iadd hx hb dX11_refuse_44 ?_
        refine va_iast hx hb hK hP hD hS 1 0 rfl rfl (i := 4) (x := ((f_rf 4) + 1)) (by unfold vp_in; decide) dX11_refuse_45 ?_
        clear hP hD hS
        intro H locs hP hD hS
        refine g5_rs [(a_o, (oc11 a_h a_im a_ke a_k a_wa a_th a_ha a_wk a_r a_x e_tl e_fd e_fpl a_wd e_wn a_rf (-6))), (a_rf, (arI G 5 (upd f_rf 4 ((f_rf 4) + 1))))] hP hD ?_
        clear hP hD
        intro hP hD
        refine lv_iload_n hx hb dX11_refuse_46 rfl (lv_at hl 2 rfl) ?_
        refine W.eq (g2 := F0 m 47 ls [.int (-6)]) rfl ?_
        exact W.iret (v := (-6)) hx hb hr (fun t ht hW => ⟨⟨(-6), [(a_o, (oc11 a_h a_im a_ke a_k a_wa a_th a_ha a_wk a_r a_x e_tl e_fd e_fpl a_wd e_wn a_rf (-6))), (a_rf, (arI G 5 (upd f_rf 4 ((f_rf 4) + 1))))], rfl, ⟨(upd f_rf 4 ((f_rf 4) + 1)), rfl, rfl⟩, by rw [ht]; exact hP.sub [0, 1] rfl, hD.sub [0, 1] (by decide +kernel) rfl⟩, hS.F ht⟩) hS.2.2 dX11_refuse_47
  ·
    exact absurd c_1 (by decide +kernel)
theorem dgX11_done_0 : ∀ r ∈ ([(0, (.aload_n 0, 1)), (1, (.iconst 0, 1)), (2, (.putfield 94, 3)), (5, (.iload_n 1, 1)), (6, (.ireturn, 1))] : List (Nat × (Instr × Nat))), decode cX11_done r.1 = .ok r.2 := by decide +kernel
theorem dX11_done_0 : decode cX11_done 0 = .ok (.aload_n 0, 1) := dgX11_done_0 (0, (.aload_n 0, 1)) (List.mem_of_getElem? (i := 0) rfl)
theorem dX11_done_1 : decode cX11_done 1 = .ok (.iconst 0, 1) := dgX11_done_0 (1, (.iconst 0, 1)) (List.mem_of_getElem? (i := 1) rfl)
theorem dX11_done_2 : decode cX11_done 2 = .ok (.putfield 94, 3) := dgX11_done_0 (2, (.putfield 94, 3)) (List.mem_of_getElem? (i := 2) rfl)
theorem dX11_done_5 : decode cX11_done 5 = .ok (.iload_n 1, 1) := dgX11_done_0 (5, (.iload_n 1, 1)) (List.mem_of_getElem? (i := 3) rfl)
theorem dX11_done_6 : decode cX11_done 6 = .ok (.ireturn, 1) := dgX11_done_0 (6, (.ireturn, 1)) (List.mem_of_getElem? (i := 4) rfl)
set_option maxHeartbeats 4000000 in
set_option maxRecDepth 100000 in
theorem x_done (l : Launch) (G : g5_G) (a_o a_h a_im a_ke a_k a_wa a_th a_ha a_wk a_r a_x a_wd a_rf : Nat) (sz : Nat) (e_tl : Int32) (e_fd : Int32) (e_fpl : Int32) (e_wn : Int32) (e_lr : Int32) (p_a : Int32) (h_e_tl : 0 ≤ e_tl.toInt ∧ e_tl.toInt ≤ 400) (h_e_wn : 0 ≤ e_wn.toInt ∧ e_wn.toInt ≤ 1) : Met l yX11_done (wsG yX11_done cX11_done 2 (some .int)) ({ frames := 0, cells := 0, slots := 0, locals := 0 }) (va_Pc [.ref a_o, .int p_a] (g5_P G [(a_o, (oc11 a_h a_im a_ke a_k a_wa a_th a_ha a_wk a_r a_x e_tl e_fd e_fpl a_wd e_wn a_rf e_lr))] sz)) (va_Qi (fun (r : Int32) (u : va_W) => ((r = p_a) ∧ (u = [(a_o, (oc11 a_h a_im a_ke a_k a_wa a_th a_ha a_wk a_r a_x e_tl e_fd e_fpl a_wd e_wn a_rf 0))]))) (g5_B G (va_A [(a_o, (oc11 a_h a_im a_ke a_k a_wa a_th a_ha a_wk a_r a_x e_tl e_fd e_fpl a_wd e_wn a_rf e_lr))] sz)) (va_A [(a_o, (oc11 a_h a_im a_ke a_k a_wa a_th a_ha a_wk a_r a_x e_tl e_fd e_fpl a_wd e_wn a_rf e_lr))] sz)) 0 0 (va_A [(a_o, (oc11 a_h a_im a_ke a_k a_wa a_th a_ha a_wk a_r a_x e_tl e_fd e_fpl a_wd e_wn a_rf e_lr))] sz) := by
  refine Met.ofW (cc := cX11_done) (maxL := 2) (ret := (some .int)) (by decide +kernel) rfl ?_
  intro p e s m args below meth c s₁ B hml hv
  obtain ⟨rfl, hsz, hP, hK, hD0, hN, hT⟩ := hv
  have hx := B.exec
  have hb := B.bytes
  have hr := B.returns
  have hts : ∀ w ∈ tblG, w.before _ s = true := fun w h => atoms_spec (ws := (wsG yX11_done cX11_done 2 (some .int))) B.pre w (List.mem_cons_of_mem _ h)
  have hown : s.vm.findClass RX11 = some m.cls := findClass_of_methodNamed B.named
  have hlocks := B.notSynchronized
  subst hsz
  have hD := hD0.self (sz := s.heap.size)
  generalize hAe : va_A [(a_o, (oc11 a_h a_im a_ke a_k a_wa a_th a_ha a_wk a_r a_x e_tl e_fd e_fpl a_wd e_wn a_rf e_lr))] s.heap.size = A at hD hT ⊢
  have hA : ∀ q : Nat, s.heap.size ≤ q → A q := fun q h => by rw [← hAe]; exact Or.inr h
  have hS : va_S A s.heap s.heap [] := va_S.rf
  replace hP : va_P G.1 vwCl [(a_o, (oc11 a_h a_im a_ke a_k a_wa a_th a_ha a_wk a_r a_x e_tl e_fd e_fpl a_wd e_wn a_rf e_lr))] s.heap := hP
  have hl := lv_entry ([.ref a_o, .int p_a]) (n := 2) (Nat.le_of_ble_eq_true rfl)
  rw [lg_entry_eq]
  generalize (lg_sl ([.ref a_o, .int p_a]) ++ List.replicate (2 - (lg_sl ([.ref a_o, .int p_a])).length) Slot.unset).toArray = ls at hl ⊢
  replace hl : lv_has ls 2 [(0, .ref a_o), (1, .int p_a)] := hl
  refine lv_aload_n hx hb dX11_done_0 rfl (lv_at hl 0 rfl) ?_
  refine lv_iconst (v := 0) hx hb dX11_done_1 (by decide +kernel) ?_
  refine va_put (D := G.1) (ci := 11) (v := .int 0) (ty := .int) (C := RX11) (T := TX11) (N := 17) hx hb hts inG_X11 tyX11 tyX11_ok nmX11 hown hK hP hD hS 0 rfl rfl 16 (by decide +kernel) (hts _ fl_X11_94) (fun _ h9 => h9) rfl (by decide +kernel) rfl rfl (Nat.le_of_ble_eq_true rfl) dX11_done_2 ?_
  clear hP hD hS
  intro H locs hP hD hS
  refine g5_rs [(a_o, (oc11 a_h a_im a_ke a_k a_wa a_th a_ha a_wk a_r a_x e_tl e_fd e_fpl a_wd e_wn a_rf 0))] hP hD ?_
  clear hP hD
  intro hP hD
  refine lv_iload_n hx hb dX11_done_5 rfl (lv_at hl 1 rfl) ?_
  refine W.eq (g2 := F0 m 6 ls [.int p_a]) rfl ?_
  exact W.iret (v := p_a) hx hb hr (fun t ht hW => ⟨⟨p_a, [(a_o, (oc11 a_h a_im a_ke a_k a_wa a_th a_ha a_wk a_r a_x e_tl e_fd e_fpl a_wd e_wn a_rf 0))], rfl, ⟨rfl, rfl⟩, by rw [ht]; exact hP.sub [0] rfl, hD.sub [0] (by decide +kernel) rfl⟩, hS.F ht⟩) hS.2.2 dX11_done_6
theorem dgX11_wall_0 : ∀ r ∈ ([(0, (.iload_n 1, 1)), (1, (.invokestatic 97, 3)), (4, (.ifCond .eq 10, 3)), (7, (.iload_n 2, 1)), (8, (.invokestatic 101, 3)), (11, (.ifCond .ne 9, 3)), (14, (.aload_n 0, 1)), (15, (.iconst (-1), 1)), (16, (.invokevirtual 104, 3)), (19, (.ireturn, 1)), (20, (.aload_n 0, 1)), (21, (.getfield 12, 3)), (24, (.iload_n 1, 1)), (25, (.invokevirtual 108, 3)), (28, (.ifCond .eq 10, 3)), (31, (.aload_n 0, 1)), (32, (.bipush (-3), 2)), (34, (.invokevirtual 104, 3)), (37, (.ireturn, 1)), (38, (.aload_n 0, 1)), (39, (.getfield 12, 3)), (42, (.getfield 111, 3)), (45, (.iload_n 1, 1)), (46, (.invokestatic 115, 3)), (49, (.ifCond .eq 7, 3)), (52, (.iconst 1, 1)), (53, (.goto 4, 3)), (56, (.iconst 0, 1)), (57, (.istore_n 3, 1)), (58, (.aload_n 0, 1)), (59, (.getfield 12, 3)), (62, (.iload_n 2, 1)), (63, (.iconst 1, 1)), (64, (.if_icmp .ne 17, 3)), (67, (.aload_n 0, 1)), (68, (.getfield 12, 3)), (71, (.getfield 111, 3)), (74, (.lconst 1, 1)), (75, (.iload_n 1, 1)), (76, (.lshl, 1))] : List (Nat × (Instr × Nat))), decode cX11_wall r.1 = .ok r.2 := by decide +kernel
theorem dX11_wall_0 : decode cX11_wall 0 = .ok (.iload_n 1, 1) := dgX11_wall_0 (0, (.iload_n 1, 1)) (List.mem_of_getElem? (i := 0) rfl)
theorem dX11_wall_1 : decode cX11_wall 1 = .ok (.invokestatic 97, 3) := dgX11_wall_0 (1, (.invokestatic 97, 3)) (List.mem_of_getElem? (i := 1) rfl)
theorem dX11_wall_4 : decode cX11_wall 4 = .ok (.ifCond .eq 10, 3) := dgX11_wall_0 (4, (.ifCond .eq 10, 3)) (List.mem_of_getElem? (i := 2) rfl)
theorem dX11_wall_7 : decode cX11_wall 7 = .ok (.iload_n 2, 1) := dgX11_wall_0 (7, (.iload_n 2, 1)) (List.mem_of_getElem? (i := 3) rfl)
theorem dX11_wall_8 : decode cX11_wall 8 = .ok (.invokestatic 101, 3) := dgX11_wall_0 (8, (.invokestatic 101, 3)) (List.mem_of_getElem? (i := 4) rfl)
theorem dX11_wall_11 : decode cX11_wall 11 = .ok (.ifCond .ne 9, 3) := dgX11_wall_0 (11, (.ifCond .ne 9, 3)) (List.mem_of_getElem? (i := 5) rfl)
theorem dX11_wall_14 : decode cX11_wall 14 = .ok (.aload_n 0, 1) := dgX11_wall_0 (14, (.aload_n 0, 1)) (List.mem_of_getElem? (i := 6) rfl)
theorem dX11_wall_15 : decode cX11_wall 15 = .ok (.iconst (-1), 1) := dgX11_wall_0 (15, (.iconst (-1), 1)) (List.mem_of_getElem? (i := 7) rfl)
theorem dX11_wall_16 : decode cX11_wall 16 = .ok (.invokevirtual 104, 3) := dgX11_wall_0 (16, (.invokevirtual 104, 3)) (List.mem_of_getElem? (i := 8) rfl)
theorem dX11_wall_19 : decode cX11_wall 19 = .ok (.ireturn, 1) := dgX11_wall_0 (19, (.ireturn, 1)) (List.mem_of_getElem? (i := 9) rfl)
theorem dX11_wall_20 : decode cX11_wall 20 = .ok (.aload_n 0, 1) := dgX11_wall_0 (20, (.aload_n 0, 1)) (List.mem_of_getElem? (i := 10) rfl)
theorem dX11_wall_21 : decode cX11_wall 21 = .ok (.getfield 12, 3) := dgX11_wall_0 (21, (.getfield 12, 3)) (List.mem_of_getElem? (i := 11) rfl)
theorem dX11_wall_24 : decode cX11_wall 24 = .ok (.iload_n 1, 1) := dgX11_wall_0 (24, (.iload_n 1, 1)) (List.mem_of_getElem? (i := 12) rfl)
theorem dX11_wall_25 : decode cX11_wall 25 = .ok (.invokevirtual 108, 3) := dgX11_wall_0 (25, (.invokevirtual 108, 3)) (List.mem_of_getElem? (i := 13) rfl)
theorem dX11_wall_28 : decode cX11_wall 28 = .ok (.ifCond .eq 10, 3) := dgX11_wall_0 (28, (.ifCond .eq 10, 3)) (List.mem_of_getElem? (i := 14) rfl)
theorem dX11_wall_31 : decode cX11_wall 31 = .ok (.aload_n 0, 1) := dgX11_wall_0 (31, (.aload_n 0, 1)) (List.mem_of_getElem? (i := 15) rfl)
theorem dX11_wall_32 : decode cX11_wall 32 = .ok (.bipush (-3), 2) := dgX11_wall_0 (32, (.bipush (-3), 2)) (List.mem_of_getElem? (i := 16) rfl)
theorem dX11_wall_34 : decode cX11_wall 34 = .ok (.invokevirtual 104, 3) := dgX11_wall_0 (34, (.invokevirtual 104, 3)) (List.mem_of_getElem? (i := 17) rfl)
theorem dX11_wall_37 : decode cX11_wall 37 = .ok (.ireturn, 1) := dgX11_wall_0 (37, (.ireturn, 1)) (List.mem_of_getElem? (i := 18) rfl)
theorem dX11_wall_38 : decode cX11_wall 38 = .ok (.aload_n 0, 1) := dgX11_wall_0 (38, (.aload_n 0, 1)) (List.mem_of_getElem? (i := 19) rfl)
theorem dX11_wall_39 : decode cX11_wall 39 = .ok (.getfield 12, 3) := dgX11_wall_0 (39, (.getfield 12, 3)) (List.mem_of_getElem? (i := 20) rfl)
theorem dX11_wall_42 : decode cX11_wall 42 = .ok (.getfield 111, 3) := dgX11_wall_0 (42, (.getfield 111, 3)) (List.mem_of_getElem? (i := 21) rfl)
theorem dX11_wall_45 : decode cX11_wall 45 = .ok (.iload_n 1, 1) := dgX11_wall_0 (45, (.iload_n 1, 1)) (List.mem_of_getElem? (i := 22) rfl)
theorem dX11_wall_46 : decode cX11_wall 46 = .ok (.invokestatic 115, 3) := dgX11_wall_0 (46, (.invokestatic 115, 3)) (List.mem_of_getElem? (i := 23) rfl)
theorem dX11_wall_49 : decode cX11_wall 49 = .ok (.ifCond .eq 7, 3) := dgX11_wall_0 (49, (.ifCond .eq 7, 3)) (List.mem_of_getElem? (i := 24) rfl)
theorem dX11_wall_52 : decode cX11_wall 52 = .ok (.iconst 1, 1) := dgX11_wall_0 (52, (.iconst 1, 1)) (List.mem_of_getElem? (i := 25) rfl)
theorem dX11_wall_53 : decode cX11_wall 53 = .ok (.goto 4, 3) := dgX11_wall_0 (53, (.goto 4, 3)) (List.mem_of_getElem? (i := 26) rfl)
theorem dX11_wall_56 : decode cX11_wall 56 = .ok (.iconst 0, 1) := dgX11_wall_0 (56, (.iconst 0, 1)) (List.mem_of_getElem? (i := 27) rfl)
theorem dX11_wall_57 : decode cX11_wall 57 = .ok (.istore_n 3, 1) := dgX11_wall_0 (57, (.istore_n 3, 1)) (List.mem_of_getElem? (i := 28) rfl)
theorem dX11_wall_58 : decode cX11_wall 58 = .ok (.aload_n 0, 1) := dgX11_wall_0 (58, (.aload_n 0, 1)) (List.mem_of_getElem? (i := 29) rfl)
theorem dX11_wall_59 : decode cX11_wall 59 = .ok (.getfield 12, 3) := dgX11_wall_0 (59, (.getfield 12, 3)) (List.mem_of_getElem? (i := 30) rfl)
theorem dX11_wall_62 : decode cX11_wall 62 = .ok (.iload_n 2, 1) := dgX11_wall_0 (62, (.iload_n 2, 1)) (List.mem_of_getElem? (i := 31) rfl)
theorem dX11_wall_63 : decode cX11_wall 63 = .ok (.iconst 1, 1) := dgX11_wall_0 (63, (.iconst 1, 1)) (List.mem_of_getElem? (i := 32) rfl)
theorem dX11_wall_64 : decode cX11_wall 64 = .ok (.if_icmp .ne 17, 3) := dgX11_wall_0 (64, (.if_icmp .ne 17, 3)) (List.mem_of_getElem? (i := 33) rfl)
theorem dX11_wall_67 : decode cX11_wall 67 = .ok (.aload_n 0, 1) := dgX11_wall_0 (67, (.aload_n 0, 1)) (List.mem_of_getElem? (i := 34) rfl)
theorem dX11_wall_68 : decode cX11_wall 68 = .ok (.getfield 12, 3) := dgX11_wall_0 (68, (.getfield 12, 3)) (List.mem_of_getElem? (i := 35) rfl)
theorem dX11_wall_71 : decode cX11_wall 71 = .ok (.getfield 111, 3) := dgX11_wall_0 (71, (.getfield 111, 3)) (List.mem_of_getElem? (i := 36) rfl)
theorem dX11_wall_74 : decode cX11_wall 74 = .ok (.lconst 1, 1) := dgX11_wall_0 (74, (.lconst 1, 1)) (List.mem_of_getElem? (i := 37) rfl)
theorem dX11_wall_75 : decode cX11_wall 75 = .ok (.iload_n 1, 1) := dgX11_wall_0 (75, (.iload_n 1, 1)) (List.mem_of_getElem? (i := 38) rfl)
theorem dX11_wall_76 : decode cX11_wall 76 = .ok (.lshl, 1) := dgX11_wall_0 (76, (.lshl, 1)) (List.mem_of_getElem? (i := 39) rfl)
theorem dgX11_wall_1 : ∀ r ∈ ([(77, (.lor, 1)), (78, (.goto 18, 3)), (81, (.aload_n 0, 1)), (82, (.getfield 12, 3)), (85, (.getfield 111, 3)), (88, (.lconst 1, 1)), (89, (.iload_n 1, 1)), (90, (.lshl, 1)), (91, (.ldc2_w 119, 3)), (94, (.lxor, 1)), (95, (.land, 1)), (96, (.putfield 111, 3)), (99, (.aload_n 0, 1)), (100, (.iload_n 3, 1)), (101, (.invokevirtual 121, 3)), (104, (.ireturn, 1))] : List (Nat × (Instr × Nat))), decode cX11_wall r.1 = .ok r.2 := by decide +kernel
theorem dX11_wall_77 : decode cX11_wall 77 = .ok (.lor, 1) := dgX11_wall_1 (77, (.lor, 1)) (List.mem_of_getElem? (i := 0) rfl)
theorem dX11_wall_78 : decode cX11_wall 78 = .ok (.goto 18, 3) := dgX11_wall_1 (78, (.goto 18, 3)) (List.mem_of_getElem? (i := 1) rfl)
theorem dX11_wall_81 : decode cX11_wall 81 = .ok (.aload_n 0, 1) := dgX11_wall_1 (81, (.aload_n 0, 1)) (List.mem_of_getElem? (i := 2) rfl)
theorem dX11_wall_82 : decode cX11_wall 82 = .ok (.getfield 12, 3) := dgX11_wall_1 (82, (.getfield 12, 3)) (List.mem_of_getElem? (i := 3) rfl)
theorem dX11_wall_85 : decode cX11_wall 85 = .ok (.getfield 111, 3) := dgX11_wall_1 (85, (.getfield 111, 3)) (List.mem_of_getElem? (i := 4) rfl)
theorem dX11_wall_88 : decode cX11_wall 88 = .ok (.lconst 1, 1) := dgX11_wall_1 (88, (.lconst 1, 1)) (List.mem_of_getElem? (i := 5) rfl)
theorem dX11_wall_89 : decode cX11_wall 89 = .ok (.iload_n 1, 1) := dgX11_wall_1 (89, (.iload_n 1, 1)) (List.mem_of_getElem? (i := 6) rfl)
theorem dX11_wall_90 : decode cX11_wall 90 = .ok (.lshl, 1) := dgX11_wall_1 (90, (.lshl, 1)) (List.mem_of_getElem? (i := 7) rfl)
theorem dX11_wall_91 : decode cX11_wall 91 = .ok (.ldc2_w 119, 3) := dgX11_wall_1 (91, (.ldc2_w 119, 3)) (List.mem_of_getElem? (i := 8) rfl)
theorem dX11_wall_94 : decode cX11_wall 94 = .ok (.lxor, 1) := dgX11_wall_1 (94, (.lxor, 1)) (List.mem_of_getElem? (i := 9) rfl)
theorem dX11_wall_95 : decode cX11_wall 95 = .ok (.land, 1) := dgX11_wall_1 (95, (.land, 1)) (List.mem_of_getElem? (i := 10) rfl)
theorem dX11_wall_96 : decode cX11_wall 96 = .ok (.putfield 111, 3) := dgX11_wall_1 (96, (.putfield 111, 3)) (List.mem_of_getElem? (i := 11) rfl)
theorem dX11_wall_99 : decode cX11_wall 99 = .ok (.aload_n 0, 1) := dgX11_wall_1 (99, (.aload_n 0, 1)) (List.mem_of_getElem? (i := 12) rfl)
theorem dX11_wall_100 : decode cX11_wall 100 = .ok (.iload_n 3, 1) := dgX11_wall_1 (100, (.iload_n 3, 1)) (List.mem_of_getElem? (i := 13) rfl)
theorem dX11_wall_101 : decode cX11_wall 101 = .ok (.invokevirtual 121, 3) := dgX11_wall_1 (101, (.invokevirtual 121, 3)) (List.mem_of_getElem? (i := 14) rfl)
theorem dX11_wall_104 : decode cX11_wall 104 = .ok (.ireturn, 1) := dgX11_wall_1 (104, (.ireturn, 1)) (List.mem_of_getElem? (i := 15) rfl)
theorem ml_X11_101 : Cond.methodLink RX11 101 yX11_isFlag ∈ tblG := tg 503 (by decide +kernel) (by decide +kernel)
theorem st_X11_isFlag : Cond.static yX11_isFlag ∈ tblG := tg 504 (by decide +kernel) (by decide +kernel)
theorem cd_X11_isFlag : Cond.code yX11_isFlag cX11_isFlag 1 (some .boolean) ∈ tblG := tg 505 (by decide +kernel) (by decide +kernel)
theorem gW_X11_isFlag : GoodIn tblG (wsG yX11_isFlag cX11_isFlag 1 (some .boolean)) := tgi cd_X11_isFlag
theorem gS_X11_101 : GoodIn tblG (va_wsS RX11 101 yX11_isFlag (wsG yX11_isFlag cX11_isFlag 1 (some .boolean))) := tgS ml_X11_101 st_X11_isFlag ini_X11 gW_X11_isFlag
theorem hs_X11_isFlag : yX11_isFlag.cls ≠ "java/lang/invoke/MethodHandle" ∧ yX11_isFlag.cls ≠ "java/lang/invoke/VarHandle" ∧ (parseMethodDescriptor yX11_isFlag.desc).map (fun d => d.parameters.length) = some 1 := by decide +kernel
theorem fl_X11_12 : Cond.fieldLink RX11 12 "LateGlass" "house" "LLateGlass$House;" ∈ tblG := tg 444 (by decide +kernel) (by decide +kernel)
theorem ml_X11_108 : Cond.methodLink RX11 108 yX1_isTaken ∈ tblG := tg 510 (by decide +kernel) (by decide +kernel)
theorem im_X1_isTaken : Cond.instanceMethod yX1_isTaken ∈ tblG := tg 511 (by decide +kernel) (by decide +kernel)
theorem se_X1_isTaken : Cond.selects RX1 yX1_isTaken yX1_isTaken ∈ tblG := tg 512 (by decide +kernel) (by decide +kernel)
theorem cd_X1_isTaken : Cond.code yX1_isTaken cX1_isTaken 3 (some .boolean) ∈ tblG := tg 513 (by decide +kernel) (by decide +kernel)
theorem gW_X1_isTaken : GoodIn tblG (wsG yX1_isTaken cX1_isTaken 3 (some .boolean)) := tgi cd_X1_isTaken
theorem gV_X11_108 : GoodIn tblG (wsV RX11 108 RX1 yX1_isTaken (wsG yX1_isTaken cX1_isTaken 3 (some .boolean))) := tgV ml_X11_108 im_X1_isTaken se_X1_isTaken ini_X1 gW_X1_isTaken
theorem hv_X1_isTaken : yX1_isTaken.cls = RX1 ∧ yX1_isTaken.cls ≠ "java/lang/invoke/MethodHandle" ∧ yX1_isTaken.cls ≠ "java/lang/invoke/VarHandle" ∧ (parseMethodDescriptor yX1_isTaken.desc).map (fun d => d.parameters.length) = some 1 := by decide +kernel
theorem ml_X11_104 : Cond.methodLink RX11 104 yX11_refuse ∈ tblG := tg 506 (by decide +kernel) (by decide +kernel)
theorem im_X11_refuse : Cond.instanceMethod yX11_refuse ∈ tblG := tg 508 (by decide +kernel) (by decide +kernel)
theorem se_X11_refuse : Cond.selects RX11 yX11_refuse yX11_refuse ∈ tblG := tg 0 (by decide +kernel) (by decide +kernel)
theorem cd_X11_refuse : Cond.code yX11_refuse cX11_refuse 3 (some .int) ∈ tblG := tg 509 (by decide +kernel) (by decide +kernel)
theorem gW_X11_refuse : GoodIn tblG (wsG yX11_refuse cX11_refuse 3 (some .int)) := tgi cd_X11_refuse
theorem gV_X11_104 : GoodIn tblG (wsV RX11 104 RX11 yX11_refuse (wsG yX11_refuse cX11_refuse 3 (some .int))) := tgV ml_X11_104 im_X11_refuse se_X11_refuse ini_X11 gW_X11_refuse
theorem hv_X11_refuse : yX11_refuse.cls = RX11 ∧ yX11_refuse.cls ≠ "java/lang/invoke/MethodHandle" ∧ yX11_refuse.cls ≠ "java/lang/invoke/VarHandle" ∧ (parseMethodDescriptor yX11_refuse.desc).map (fun d => d.parameters.length) = some 1 := by decide +kernel
theorem fl_X11_111 : Cond.fieldLink RX11 111 "LateGlass$House" "walls" "J" ∈ tblG := tg 154 (by decide +kernel) (by decide +kernel)
theorem ml_X11_115 : Cond.methodLink RX11 115 yX11_isOn ∈ tblG := tg 525 (by decide +kernel) (by decide +kernel)
theorem gS_X11_115 : GoodIn tblG (va_wsS RX11 115 yX11_isOn (wsG yX11_isOn cX11_isOn 3 (some .boolean))) := tgS ml_X11_115 st_X11_isOn ini_X11 gW_X11_isOn
theorem kl_X11_119 : Cond.constantLong RX11 119 (-1) ∈ tblG := tg 526 (by decide +kernel) (by decide +kernel)
theorem ml_X11_121 : Cond.methodLink RX11 121 yX11_done ∈ tblG := tg 527 (by decide +kernel) (by decide +kernel)
theorem im_X11_done : Cond.instanceMethod yX11_done ∈ tblG := tg 529 (by decide +kernel) (by decide +kernel)
theorem se_X11_done : Cond.selects RX11 yX11_done yX11_done ∈ tblG := tg 1 (by decide +kernel) (by decide +kernel)
theorem cd_X11_done : Cond.code yX11_done cX11_done 2 (some .int) ∈ tblG := tg 530 (by decide +kernel) (by decide +kernel)
theorem gW_X11_done : GoodIn tblG (wsG yX11_done cX11_done 2 (some .int)) := tgi cd_X11_done
theorem gV_X11_121 : GoodIn tblG (wsV RX11 121 RX11 yX11_done (wsG yX11_done cX11_done 2 (some .int))) := tgV ml_X11_121 im_X11_done se_X11_done ini_X11 gW_X11_done
theorem hv_X11_done : yX11_done.cls = RX11 ∧ yX11_done.cls ≠ "java/lang/invoke/MethodHandle" ∧ yX11_done.cls ≠ "java/lang/invoke/VarHandle" ∧ (parseMethodDescriptor yX11_done.desc).map (fun d => d.parameters.length) = some 1 := by decide +kernel
theorem dgX11_glass_0 : ∀ r ∈ ([(0, (.iload_n 1, 1)), (1, (.invokestatic 97, 3)), (4, (.ifCond .eq 25, 3)), (7, (.iload_n 2, 1)), (8, (.invokestatic 124, 3)), (11, (.ifCond .eq 18, 3)), (14, (.iload_n 3, 1)), (15, (.invokestatic 127, 3)), (18, (.ifCond .eq 11, 3)), (21, (.iload 4, 2)), (23, (.invokestatic 130, 3)), (26, (.ifCond .ne 9, 3)), (29, (.aload_n 0, 1)), (30, (.iconst (-1), 1)), (31, (.invokevirtual 104, 3)), (34, (.ireturn, 1)), (35, (.aload_n 0, 1)), (36, (.getfield 12, 3)), (39, (.iload_n 1, 1)), (40, (.invokevirtual 133, 3)), (43, (.ifCond .ne 10, 3)), (46, (.aload_n 0, 1)), (47, (.bipush (-3), 2)), (49, (.invokevirtual 104, 3)), (52, (.ireturn, 1)), (53, (.aload_n 0, 1)), (54, (.getfield 12, 3)), (57, (.getfield 136, 3)), (60, (.invokevirtual 140, 3)), (63, (.ifCond .eq 10, 3)), (66, (.aload_n 0, 1)), (67, (.bipush (-5), 2)), (69, (.invokevirtual 104, 3)), (72, (.ireturn, 1)), (73, (.aload_n 0, 1)), (74, (.getfield 12, 3)), (77, (.getfield 136, 3)), (80, (.iconst 0, 1)), (81, (.invokevirtual 146, 3)), (84, (.istore 5, 2))] : List (Nat × (Instr × Nat))), decode cX11_glass r.1 = .ok r.2 := by decide +kernel
theorem dX11_glass_0 : decode cX11_glass 0 = .ok (.iload_n 1, 1) := dgX11_glass_0 (0, (.iload_n 1, 1)) (List.mem_of_getElem? (i := 0) rfl)
theorem dX11_glass_1 : decode cX11_glass 1 = .ok (.invokestatic 97, 3) := dgX11_glass_0 (1, (.invokestatic 97, 3)) (List.mem_of_getElem? (i := 1) rfl)
theorem dX11_glass_4 : decode cX11_glass 4 = .ok (.ifCond .eq 25, 3) := dgX11_glass_0 (4, (.ifCond .eq 25, 3)) (List.mem_of_getElem? (i := 2) rfl)
theorem dX11_glass_7 : decode cX11_glass 7 = .ok (.iload_n 2, 1) := dgX11_glass_0 (7, (.iload_n 2, 1)) (List.mem_of_getElem? (i := 3) rfl)
theorem dX11_glass_8 : decode cX11_glass 8 = .ok (.invokestatic 124, 3) := dgX11_glass_0 (8, (.invokestatic 124, 3)) (List.mem_of_getElem? (i := 4) rfl)
theorem dX11_glass_11 : decode cX11_glass 11 = .ok (.ifCond .eq 18, 3) := dgX11_glass_0 (11, (.ifCond .eq 18, 3)) (List.mem_of_getElem? (i := 5) rfl)
theorem dX11_glass_14 : decode cX11_glass 14 = .ok (.iload_n 3, 1) := dgX11_glass_0 (14, (.iload_n 3, 1)) (List.mem_of_getElem? (i := 6) rfl)
theorem dX11_glass_15 : decode cX11_glass 15 = .ok (.invokestatic 127, 3) := dgX11_glass_0 (15, (.invokestatic 127, 3)) (List.mem_of_getElem? (i := 7) rfl)
theorem dX11_glass_18 : decode cX11_glass 18 = .ok (.ifCond .eq 11, 3) := dgX11_glass_0 (18, (.ifCond .eq 11, 3)) (List.mem_of_getElem? (i := 8) rfl)
theorem dX11_glass_21 : decode cX11_glass 21 = .ok (.iload 4, 2) := dgX11_glass_0 (21, (.iload 4, 2)) (List.mem_of_getElem? (i := 9) rfl)
theorem dX11_glass_23 : decode cX11_glass 23 = .ok (.invokestatic 130, 3) := dgX11_glass_0 (23, (.invokestatic 130, 3)) (List.mem_of_getElem? (i := 10) rfl)
theorem dX11_glass_26 : decode cX11_glass 26 = .ok (.ifCond .ne 9, 3) := dgX11_glass_0 (26, (.ifCond .ne 9, 3)) (List.mem_of_getElem? (i := 11) rfl)
theorem dX11_glass_29 : decode cX11_glass 29 = .ok (.aload_n 0, 1) := dgX11_glass_0 (29, (.aload_n 0, 1)) (List.mem_of_getElem? (i := 12) rfl)
theorem dX11_glass_30 : decode cX11_glass 30 = .ok (.iconst (-1), 1) := dgX11_glass_0 (30, (.iconst (-1), 1)) (List.mem_of_getElem? (i := 13) rfl)
theorem dX11_glass_31 : decode cX11_glass 31 = .ok (.invokevirtual 104, 3) := dgX11_glass_0 (31, (.invokevirtual 104, 3)) (List.mem_of_getElem? (i := 14) rfl)
theorem dX11_glass_34 : decode cX11_glass 34 = .ok (.ireturn, 1) := dgX11_glass_0 (34, (.ireturn, 1)) (List.mem_of_getElem? (i := 15) rfl)
theorem dX11_glass_35 : decode cX11_glass 35 = .ok (.aload_n 0, 1) := dgX11_glass_0 (35, (.aload_n 0, 1)) (List.mem_of_getElem? (i := 16) rfl)
theorem dX11_glass_36 : decode cX11_glass 36 = .ok (.getfield 12, 3) := dgX11_glass_0 (36, (.getfield 12, 3)) (List.mem_of_getElem? (i := 17) rfl)
theorem dX11_glass_39 : decode cX11_glass 39 = .ok (.iload_n 1, 1) := dgX11_glass_0 (39, (.iload_n 1, 1)) (List.mem_of_getElem? (i := 18) rfl)
theorem dX11_glass_40 : decode cX11_glass 40 = .ok (.invokevirtual 133, 3) := dgX11_glass_0 (40, (.invokevirtual 133, 3)) (List.mem_of_getElem? (i := 19) rfl)
theorem dX11_glass_43 : decode cX11_glass 43 = .ok (.ifCond .ne 10, 3) := dgX11_glass_0 (43, (.ifCond .ne 10, 3)) (List.mem_of_getElem? (i := 20) rfl)
theorem dX11_glass_46 : decode cX11_glass 46 = .ok (.aload_n 0, 1) := dgX11_glass_0 (46, (.aload_n 0, 1)) (List.mem_of_getElem? (i := 21) rfl)
theorem dX11_glass_47 : decode cX11_glass 47 = .ok (.bipush (-3), 2) := dgX11_glass_0 (47, (.bipush (-3), 2)) (List.mem_of_getElem? (i := 22) rfl)
theorem dX11_glass_49 : decode cX11_glass 49 = .ok (.invokevirtual 104, 3) := dgX11_glass_0 (49, (.invokevirtual 104, 3)) (List.mem_of_getElem? (i := 23) rfl)
theorem dX11_glass_52 : decode cX11_glass 52 = .ok (.ireturn, 1) := dgX11_glass_0 (52, (.ireturn, 1)) (List.mem_of_getElem? (i := 24) rfl)
theorem dX11_glass_53 : decode cX11_glass 53 = .ok (.aload_n 0, 1) := dgX11_glass_0 (53, (.aload_n 0, 1)) (List.mem_of_getElem? (i := 25) rfl)
theorem dX11_glass_54 : decode cX11_glass 54 = .ok (.getfield 12, 3) := dgX11_glass_0 (54, (.getfield 12, 3)) (List.mem_of_getElem? (i := 26) rfl)
theorem dX11_glass_57 : decode cX11_glass 57 = .ok (.getfield 136, 3) := dgX11_glass_0 (57, (.getfield 136, 3)) (List.mem_of_getElem? (i := 27) rfl)
theorem dX11_glass_60 : decode cX11_glass 60 = .ok (.invokevirtual 140, 3) := dgX11_glass_0 (60, (.invokevirtual 140, 3)) (List.mem_of_getElem? (i := 28) rfl)
theorem dX11_glass_63 : decode cX11_glass 63 = .ok (.ifCond .eq 10, 3) := dgX11_glass_0 (63, (.ifCond .eq 10, 3)) (List.mem_of_getElem? (i := 29) rfl)
theorem dX11_glass_66 : decode cX11_glass 66 = .ok (.aload_n 0, 1) := dgX11_glass_0 (66, (.aload_n 0, 1)) (List.mem_of_getElem? (i := 30) rfl)
theorem dX11_glass_67 : decode cX11_glass 67 = .ok (.bipush (-5), 2) := dgX11_glass_0 (67, (.bipush (-5), 2)) (List.mem_of_getElem? (i := 31) rfl)
theorem dX11_glass_69 : decode cX11_glass 69 = .ok (.invokevirtual 104, 3) := dgX11_glass_0 (69, (.invokevirtual 104, 3)) (List.mem_of_getElem? (i := 32) rfl)
theorem dX11_glass_72 : decode cX11_glass 72 = .ok (.ireturn, 1) := dgX11_glass_0 (72, (.ireturn, 1)) (List.mem_of_getElem? (i := 33) rfl)
theorem dX11_glass_73 : decode cX11_glass 73 = .ok (.aload_n 0, 1) := dgX11_glass_0 (73, (.aload_n 0, 1)) (List.mem_of_getElem? (i := 34) rfl)
theorem dX11_glass_74 : decode cX11_glass 74 = .ok (.getfield 12, 3) := dgX11_glass_0 (74, (.getfield 12, 3)) (List.mem_of_getElem? (i := 35) rfl)
theorem dX11_glass_77 : decode cX11_glass 77 = .ok (.getfield 136, 3) := dgX11_glass_0 (77, (.getfield 136, 3)) (List.mem_of_getElem? (i := 36) rfl)
theorem dX11_glass_80 : decode cX11_glass 80 = .ok (.iconst 0, 1) := dgX11_glass_0 (80, (.iconst 0, 1)) (List.mem_of_getElem? (i := 37) rfl)
theorem dX11_glass_81 : decode cX11_glass 81 = .ok (.invokevirtual 146, 3) := dgX11_glass_0 (81, (.invokevirtual 146, 3)) (List.mem_of_getElem? (i := 38) rfl)
theorem dX11_glass_84 : decode cX11_glass 84 = .ok (.istore 5, 2) := dgX11_glass_0 (84, (.istore 5, 2)) (List.mem_of_getElem? (i := 39) rfl)
theorem dgX11_glass_1 : ∀ r ∈ ([(86, (.aload_n 0, 1)), (87, (.getfield 12, 3)), (90, (.getfield 136, 3)), (93, (.iload 5, 2)), (95, (.iconst 0, 1)), (96, (.iload_n 1, 1)), (97, (.invokevirtual 149, 3)), (100, (.aload_n 0, 1)), (101, (.getfield 12, 3)), (104, (.getfield 136, 3)), (107, (.iload 5, 2)), (109, (.iconst 1, 1)), (110, (.iload_n 2, 1)), (111, (.invokevirtual 149, 3)), (114, (.aload_n 0, 1)), (115, (.getfield 12, 3)), (118, (.getfield 136, 3)), (121, (.iload 5, 2)), (123, (.iconst 2, 1)), (124, (.iload_n 3, 1)), (125, (.invokevirtual 149, 3)), (128, (.aload_n 0, 1)), (129, (.getfield 12, 3)), (132, (.getfield 136, 3)), (135, (.iload 5, 2)), (137, (.iconst 3, 1)), (138, (.iload 4, 2)), (140, (.invokevirtual 149, 3)), (143, (.aload_n 0, 1)), (144, (.getfield 12, 3)), (147, (.dup, 1)), (148, (.getfield 153, 3)), (151, (.lconst 1, 1)), (152, (.iload_n 1, 1)), (153, (.lshl, 1)), (154, (.lor, 1)), (155, (.putfield 153, 3)), (158, (.aload_n 0, 1)), (159, (.iload 5, 2)), (161, (.invokevirtual 121, 3))] : List (Nat × (Instr × Nat))), decode cX11_glass r.1 = .ok r.2 := by decide +kernel
theorem dX11_glass_86 : decode cX11_glass 86 = .ok (.aload_n 0, 1) := dgX11_glass_1 (86, (.aload_n 0, 1)) (List.mem_of_getElem? (i := 0) rfl)
theorem dX11_glass_87 : decode cX11_glass 87 = .ok (.getfield 12, 3) := dgX11_glass_1 (87, (.getfield 12, 3)) (List.mem_of_getElem? (i := 1) rfl)
theorem dX11_glass_90 : decode cX11_glass 90 = .ok (.getfield 136, 3) := dgX11_glass_1 (90, (.getfield 136, 3)) (List.mem_of_getElem? (i := 2) rfl)
theorem dX11_glass_93 : decode cX11_glass 93 = .ok (.iload 5, 2) := dgX11_glass_1 (93, (.iload 5, 2)) (List.mem_of_getElem? (i := 3) rfl)
theorem dX11_glass_95 : decode cX11_glass 95 = .ok (.iconst 0, 1) := dgX11_glass_1 (95, (.iconst 0, 1)) (List.mem_of_getElem? (i := 4) rfl)
theorem dX11_glass_96 : decode cX11_glass 96 = .ok (.iload_n 1, 1) := dgX11_glass_1 (96, (.iload_n 1, 1)) (List.mem_of_getElem? (i := 5) rfl)
theorem dX11_glass_97 : decode cX11_glass 97 = .ok (.invokevirtual 149, 3) := dgX11_glass_1 (97, (.invokevirtual 149, 3)) (List.mem_of_getElem? (i := 6) rfl)
theorem dX11_glass_100 : decode cX11_glass 100 = .ok (.aload_n 0, 1) := dgX11_glass_1 (100, (.aload_n 0, 1)) (List.mem_of_getElem? (i := 7) rfl)
theorem dX11_glass_101 : decode cX11_glass 101 = .ok (.getfield 12, 3) := dgX11_glass_1 (101, (.getfield 12, 3)) (List.mem_of_getElem? (i := 8) rfl)
theorem dX11_glass_104 : decode cX11_glass 104 = .ok (.getfield 136, 3) := dgX11_glass_1 (104, (.getfield 136, 3)) (List.mem_of_getElem? (i := 9) rfl)
theorem dX11_glass_107 : decode cX11_glass 107 = .ok (.iload 5, 2) := dgX11_glass_1 (107, (.iload 5, 2)) (List.mem_of_getElem? (i := 10) rfl)
theorem dX11_glass_109 : decode cX11_glass 109 = .ok (.iconst 1, 1) := dgX11_glass_1 (109, (.iconst 1, 1)) (List.mem_of_getElem? (i := 11) rfl)
theorem dX11_glass_110 : decode cX11_glass 110 = .ok (.iload_n 2, 1) := dgX11_glass_1 (110, (.iload_n 2, 1)) (List.mem_of_getElem? (i := 12) rfl)
theorem dX11_glass_111 : decode cX11_glass 111 = .ok (.invokevirtual 149, 3) := dgX11_glass_1 (111, (.invokevirtual 149, 3)) (List.mem_of_getElem? (i := 13) rfl)
theorem dX11_glass_114 : decode cX11_glass 114 = .ok (.aload_n 0, 1) := dgX11_glass_1 (114, (.aload_n 0, 1)) (List.mem_of_getElem? (i := 14) rfl)
theorem dX11_glass_115 : decode cX11_glass 115 = .ok (.getfield 12, 3) := dgX11_glass_1 (115, (.getfield 12, 3)) (List.mem_of_getElem? (i := 15) rfl)
theorem dX11_glass_118 : decode cX11_glass 118 = .ok (.getfield 136, 3) := dgX11_glass_1 (118, (.getfield 136, 3)) (List.mem_of_getElem? (i := 16) rfl)
theorem dX11_glass_121 : decode cX11_glass 121 = .ok (.iload 5, 2) := dgX11_glass_1 (121, (.iload 5, 2)) (List.mem_of_getElem? (i := 17) rfl)
theorem dX11_glass_123 : decode cX11_glass 123 = .ok (.iconst 2, 1) := dgX11_glass_1 (123, (.iconst 2, 1)) (List.mem_of_getElem? (i := 18) rfl)
theorem dX11_glass_124 : decode cX11_glass 124 = .ok (.iload_n 3, 1) := dgX11_glass_1 (124, (.iload_n 3, 1)) (List.mem_of_getElem? (i := 19) rfl)
theorem dX11_glass_125 : decode cX11_glass 125 = .ok (.invokevirtual 149, 3) := dgX11_glass_1 (125, (.invokevirtual 149, 3)) (List.mem_of_getElem? (i := 20) rfl)
theorem dX11_glass_128 : decode cX11_glass 128 = .ok (.aload_n 0, 1) := dgX11_glass_1 (128, (.aload_n 0, 1)) (List.mem_of_getElem? (i := 21) rfl)
theorem dX11_glass_129 : decode cX11_glass 129 = .ok (.getfield 12, 3) := dgX11_glass_1 (129, (.getfield 12, 3)) (List.mem_of_getElem? (i := 22) rfl)
theorem dX11_glass_132 : decode cX11_glass 132 = .ok (.getfield 136, 3) := dgX11_glass_1 (132, (.getfield 136, 3)) (List.mem_of_getElem? (i := 23) rfl)
theorem dX11_glass_135 : decode cX11_glass 135 = .ok (.iload 5, 2) := dgX11_glass_1 (135, (.iload 5, 2)) (List.mem_of_getElem? (i := 24) rfl)
theorem dX11_glass_137 : decode cX11_glass 137 = .ok (.iconst 3, 1) := dgX11_glass_1 (137, (.iconst 3, 1)) (List.mem_of_getElem? (i := 25) rfl)
theorem dX11_glass_138 : decode cX11_glass 138 = .ok (.iload 4, 2) := dgX11_glass_1 (138, (.iload 4, 2)) (List.mem_of_getElem? (i := 26) rfl)
theorem dX11_glass_140 : decode cX11_glass 140 = .ok (.invokevirtual 149, 3) := dgX11_glass_1 (140, (.invokevirtual 149, 3)) (List.mem_of_getElem? (i := 27) rfl)
theorem dX11_glass_143 : decode cX11_glass 143 = .ok (.aload_n 0, 1) := dgX11_glass_1 (143, (.aload_n 0, 1)) (List.mem_of_getElem? (i := 28) rfl)
theorem dX11_glass_144 : decode cX11_glass 144 = .ok (.getfield 12, 3) := dgX11_glass_1 (144, (.getfield 12, 3)) (List.mem_of_getElem? (i := 29) rfl)
theorem dX11_glass_147 : decode cX11_glass 147 = .ok (.dup, 1) := dgX11_glass_1 (147, (.dup, 1)) (List.mem_of_getElem? (i := 30) rfl)
theorem dX11_glass_148 : decode cX11_glass 148 = .ok (.getfield 153, 3) := dgX11_glass_1 (148, (.getfield 153, 3)) (List.mem_of_getElem? (i := 31) rfl)
theorem dX11_glass_151 : decode cX11_glass 151 = .ok (.lconst 1, 1) := dgX11_glass_1 (151, (.lconst 1, 1)) (List.mem_of_getElem? (i := 32) rfl)
theorem dX11_glass_152 : decode cX11_glass 152 = .ok (.iload_n 1, 1) := dgX11_glass_1 (152, (.iload_n 1, 1)) (List.mem_of_getElem? (i := 33) rfl)
theorem dX11_glass_153 : decode cX11_glass 153 = .ok (.lshl, 1) := dgX11_glass_1 (153, (.lshl, 1)) (List.mem_of_getElem? (i := 34) rfl)
theorem dX11_glass_154 : decode cX11_glass 154 = .ok (.lor, 1) := dgX11_glass_1 (154, (.lor, 1)) (List.mem_of_getElem? (i := 35) rfl)
theorem dX11_glass_155 : decode cX11_glass 155 = .ok (.putfield 153, 3) := dgX11_glass_1 (155, (.putfield 153, 3)) (List.mem_of_getElem? (i := 36) rfl)
theorem dX11_glass_158 : decode cX11_glass 158 = .ok (.aload_n 0, 1) := dgX11_glass_1 (158, (.aload_n 0, 1)) (List.mem_of_getElem? (i := 37) rfl)
theorem dX11_glass_159 : decode cX11_glass 159 = .ok (.iload 5, 2) := dgX11_glass_1 (159, (.iload 5, 2)) (List.mem_of_getElem? (i := 38) rfl)
theorem dX11_glass_161 : decode cX11_glass 161 = .ok (.invokevirtual 121, 3) := dgX11_glass_1 (161, (.invokevirtual 121, 3)) (List.mem_of_getElem? (i := 39) rfl)
theorem dgX11_glass_2 : ∀ r ∈ ([(164, (.ireturn, 1))] : List (Nat × (Instr × Nat))), decode cX11_glass r.1 = .ok r.2 := by decide +kernel
theorem dX11_glass_164 : decode cX11_glass 164 = .ok (.ireturn, 1) := dgX11_glass_2 (164, (.ireturn, 1)) (List.mem_of_getElem? (i := 0) rfl)
theorem ml_X11_133 : Cond.methodLink RX11 133 yX1_canHang ∈ tblG := tg 544 (by decide +kernel) (by decide +kernel)
theorem im_X1_canHang : Cond.instanceMethod yX1_canHang ∈ tblG := tg 545 (by decide +kernel) (by decide +kernel)
theorem se_X1_canHang : Cond.selects RX1 yX1_canHang yX1_canHang ∈ tblG := tg 546 (by decide +kernel) (by decide +kernel)
theorem cd_X1_canHang : Cond.code yX1_canHang cX1_canHang 2 (some .boolean) ∈ tblG := tg 547 (by decide +kernel) (by decide +kernel)
theorem gW_X1_canHang : GoodIn tblG (wsG yX1_canHang cX1_canHang 2 (some .boolean)) := tgi cd_X1_canHang
theorem gV_X11_133 : GoodIn tblG (wsV RX11 133 RX1 yX1_canHang (wsG yX1_canHang cX1_canHang 2 (some .boolean))) := tgV ml_X11_133 im_X1_canHang se_X1_canHang ini_X1 gW_X1_canHang
theorem hv_X1_canHang : yX1_canHang.cls = RX1 ∧ yX1_canHang.cls ≠ "java/lang/invoke/MethodHandle" ∧ yX1_canHang.cls ≠ "java/lang/invoke/VarHandle" ∧ (parseMethodDescriptor yX1_canHang.desc).map (fun d => d.parameters.length) = some 1 := by decide +kernel
theorem fl_X11_136 : Cond.fieldLink RX11 136 "LateGlass$House" "glasses" "LLateGlass$Table;" ∈ tblG := tg 171 (by decide +kernel) (by decide +kernel)
theorem ml_X11_140 : Cond.methodLink RX11 140 yX6_isFull ∈ tblG := tg 548 (by decide +kernel) (by decide +kernel)
theorem gV_X11_140 : GoodIn tblG (wsV RX11 140 RX6 yX6_isFull (wsG yX6_isFull cX6_isFull 1 (some .boolean))) := tgV ml_X11_140 im_X6_isFull se_X6_isFull ini_X6 gW_X6_isFull
theorem ml_X11_146 : Cond.methodLink RX11 146 yX6_open ∈ tblG := tg 552 (by decide +kernel) (by decide +kernel)
theorem im_X6_open : Cond.instanceMethod yX6_open ∈ tblG := tg 553 (by decide +kernel) (by decide +kernel)
theorem se_X6_open : Cond.selects RX6 yX6_open yX6_open ∈ tblG := tg 554 (by decide +kernel) (by decide +kernel)
theorem cd_X6_open : Cond.code yX6_open cX6_open 4 (some .int) ∈ tblG := tg 555 (by decide +kernel) (by decide +kernel)
theorem gW_X6_open : GoodIn tblG (wsG yX6_open cX6_open 4 (some .int)) := tgi cd_X6_open
theorem gV_X11_146 : GoodIn tblG (wsV RX11 146 RX6 yX6_open (wsG yX6_open cX6_open 4 (some .int))) := tgV ml_X11_146 im_X6_open se_X6_open ini_X6 gW_X6_open
theorem hv_X6_open : yX6_open.cls = RX6 ∧ yX6_open.cls ≠ "java/lang/invoke/MethodHandle" ∧ yX6_open.cls ≠ "java/lang/invoke/VarHandle" ∧ (parseMethodDescriptor yX6_open.desc).map (fun d => d.parameters.length) = some 1 := by decide +kernel
theorem ml_X11_149 : Cond.methodLink RX11 149 yX6_set ∈ tblG := tg 565 (by decide +kernel) (by decide +kernel)
theorem gV_X11_149 : GoodIn tblG (wsV RX11 149 RX6 yX6_set (wsG yX6_set cX6_set 4 none)) := tgV ml_X11_149 im_X6_set se_X6_set ini_X6 gW_X6_set
theorem fl_X11_153 : Cond.fieldLink RX11 153 "LateGlass$House" "glassBoard" "J" ∈ tblG := tg 190 (by decide +kernel) (by decide +kernel)
theorem dgX11_turn_0 : ∀ r ∈ ([(0, (.iload_n 2, 1)), (1, (.iload_n 3, 1)), (2, (.invokestatic 156, 3)), (5, (.ifCond .ne 9, 3)), (8, (.aload_n 0, 1)), (9, (.iconst (-1), 1)), (10, (.invokevirtual 104, 3)), (13, (.ireturn, 1)), (14, (.aload_n 0, 1)), (15, (.getfield 12, 3)), (18, (.getfield 136, 3)), (21, (.iload_n 1, 1)), (22, (.invokevirtual 160, 3)), (25, (.ifCond .ne 10, 3)), (28, (.aload_n 0, 1)), (29, (.bipush (-2), 2)), (31, (.invokevirtual 104, 3)), (34, (.ireturn, 1)), (35, (.aload_n 0, 1)), (36, (.getfield 12, 3)), (39, (.getfield 136, 3)), (42, (.iload_n 1, 1)), (43, (.iload_n 2, 1)), (44, (.iconst 1, 1)), (45, (.iadd, 1)), (46, (.invokevirtual 163, 3)), (49, (.istore 4, 2)), (51, (.aload_n 0, 1)), (52, (.getfield 12, 3)), (55, (.getfield 136, 3)), (58, (.iload_n 1, 1)), (59, (.iload_n 2, 1)), (60, (.iconst 1, 1)), (61, (.iadd, 1)), (62, (.iload_n 3, 1)), (63, (.invokevirtual 149, 3)), (66, (.aload_n 0, 1)), (67, (.iload 4, 2)), (69, (.invokevirtual 121, 3)), (72, (.ireturn, 1))] : List (Nat × (Instr × Nat))), decode cX11_turn r.1 = .ok r.2 := by decide +kernel
theorem dX11_turn_0 : decode cX11_turn 0 = .ok (.iload_n 2, 1) := dgX11_turn_0 (0, (.iload_n 2, 1)) (List.mem_of_getElem? (i := 0) rfl)
theorem dX11_turn_1 : decode cX11_turn 1 = .ok (.iload_n 3, 1) := dgX11_turn_0 (1, (.iload_n 3, 1)) (List.mem_of_getElem? (i := 1) rfl)
theorem dX11_turn_2 : decode cX11_turn 2 = .ok (.invokestatic 156, 3) := dgX11_turn_0 (2, (.invokestatic 156, 3)) (List.mem_of_getElem? (i := 2) rfl)
theorem dX11_turn_5 : decode cX11_turn 5 = .ok (.ifCond .ne 9, 3) := dgX11_turn_0 (5, (.ifCond .ne 9, 3)) (List.mem_of_getElem? (i := 3) rfl)
theorem dX11_turn_8 : decode cX11_turn 8 = .ok (.aload_n 0, 1) := dgX11_turn_0 (8, (.aload_n 0, 1)) (List.mem_of_getElem? (i := 4) rfl)
theorem dX11_turn_9 : decode cX11_turn 9 = .ok (.iconst (-1), 1) := dgX11_turn_0 (9, (.iconst (-1), 1)) (List.mem_of_getElem? (i := 5) rfl)
theorem dX11_turn_10 : decode cX11_turn 10 = .ok (.invokevirtual 104, 3) := dgX11_turn_0 (10, (.invokevirtual 104, 3)) (List.mem_of_getElem? (i := 6) rfl)
theorem dX11_turn_13 : decode cX11_turn 13 = .ok (.ireturn, 1) := dgX11_turn_0 (13, (.ireturn, 1)) (List.mem_of_getElem? (i := 7) rfl)
theorem dX11_turn_14 : decode cX11_turn 14 = .ok (.aload_n 0, 1) := dgX11_turn_0 (14, (.aload_n 0, 1)) (List.mem_of_getElem? (i := 8) rfl)
theorem dX11_turn_15 : decode cX11_turn 15 = .ok (.getfield 12, 3) := dgX11_turn_0 (15, (.getfield 12, 3)) (List.mem_of_getElem? (i := 9) rfl)
theorem dX11_turn_18 : decode cX11_turn 18 = .ok (.getfield 136, 3) := dgX11_turn_0 (18, (.getfield 136, 3)) (List.mem_of_getElem? (i := 10) rfl)
theorem dX11_turn_21 : decode cX11_turn 21 = .ok (.iload_n 1, 1) := dgX11_turn_0 (21, (.iload_n 1, 1)) (List.mem_of_getElem? (i := 11) rfl)
theorem dX11_turn_22 : decode cX11_turn 22 = .ok (.invokevirtual 160, 3) := dgX11_turn_0 (22, (.invokevirtual 160, 3)) (List.mem_of_getElem? (i := 12) rfl)
theorem dX11_turn_25 : decode cX11_turn 25 = .ok (.ifCond .ne 10, 3) := dgX11_turn_0 (25, (.ifCond .ne 10, 3)) (List.mem_of_getElem? (i := 13) rfl)
theorem dX11_turn_28 : decode cX11_turn 28 = .ok (.aload_n 0, 1) := dgX11_turn_0 (28, (.aload_n 0, 1)) (List.mem_of_getElem? (i := 14) rfl)
theorem dX11_turn_29 : decode cX11_turn 29 = .ok (.bipush (-2), 2) := dgX11_turn_0 (29, (.bipush (-2), 2)) (List.mem_of_getElem? (i := 15) rfl)
theorem dX11_turn_31 : decode cX11_turn 31 = .ok (.invokevirtual 104, 3) := dgX11_turn_0 (31, (.invokevirtual 104, 3)) (List.mem_of_getElem? (i := 16) rfl)
theorem dX11_turn_34 : decode cX11_turn 34 = .ok (.ireturn, 1) := dgX11_turn_0 (34, (.ireturn, 1)) (List.mem_of_getElem? (i := 17) rfl)
theorem dX11_turn_35 : decode cX11_turn 35 = .ok (.aload_n 0, 1) := dgX11_turn_0 (35, (.aload_n 0, 1)) (List.mem_of_getElem? (i := 18) rfl)
theorem dX11_turn_36 : decode cX11_turn 36 = .ok (.getfield 12, 3) := dgX11_turn_0 (36, (.getfield 12, 3)) (List.mem_of_getElem? (i := 19) rfl)
theorem dX11_turn_39 : decode cX11_turn 39 = .ok (.getfield 136, 3) := dgX11_turn_0 (39, (.getfield 136, 3)) (List.mem_of_getElem? (i := 20) rfl)
theorem dX11_turn_42 : decode cX11_turn 42 = .ok (.iload_n 1, 1) := dgX11_turn_0 (42, (.iload_n 1, 1)) (List.mem_of_getElem? (i := 21) rfl)
theorem dX11_turn_43 : decode cX11_turn 43 = .ok (.iload_n 2, 1) := dgX11_turn_0 (43, (.iload_n 2, 1)) (List.mem_of_getElem? (i := 22) rfl)
theorem dX11_turn_44 : decode cX11_turn 44 = .ok (.iconst 1, 1) := dgX11_turn_0 (44, (.iconst 1, 1)) (List.mem_of_getElem? (i := 23) rfl)
theorem dX11_turn_45 : decode cX11_turn 45 = .ok (.iadd, 1) := dgX11_turn_0 (45, (.iadd, 1)) (List.mem_of_getElem? (i := 24) rfl)
theorem dX11_turn_46 : decode cX11_turn 46 = .ok (.invokevirtual 163, 3) := dgX11_turn_0 (46, (.invokevirtual 163, 3)) (List.mem_of_getElem? (i := 25) rfl)
theorem dX11_turn_49 : decode cX11_turn 49 = .ok (.istore 4, 2) := dgX11_turn_0 (49, (.istore 4, 2)) (List.mem_of_getElem? (i := 26) rfl)
theorem dX11_turn_51 : decode cX11_turn 51 = .ok (.aload_n 0, 1) := dgX11_turn_0 (51, (.aload_n 0, 1)) (List.mem_of_getElem? (i := 27) rfl)
theorem dX11_turn_52 : decode cX11_turn 52 = .ok (.getfield 12, 3) := dgX11_turn_0 (52, (.getfield 12, 3)) (List.mem_of_getElem? (i := 28) rfl)
theorem dX11_turn_55 : decode cX11_turn 55 = .ok (.getfield 136, 3) := dgX11_turn_0 (55, (.getfield 136, 3)) (List.mem_of_getElem? (i := 29) rfl)
theorem dX11_turn_58 : decode cX11_turn 58 = .ok (.iload_n 1, 1) := dgX11_turn_0 (58, (.iload_n 1, 1)) (List.mem_of_getElem? (i := 30) rfl)
theorem dX11_turn_59 : decode cX11_turn 59 = .ok (.iload_n 2, 1) := dgX11_turn_0 (59, (.iload_n 2, 1)) (List.mem_of_getElem? (i := 31) rfl)
theorem dX11_turn_60 : decode cX11_turn 60 = .ok (.iconst 1, 1) := dgX11_turn_0 (60, (.iconst 1, 1)) (List.mem_of_getElem? (i := 32) rfl)
theorem dX11_turn_61 : decode cX11_turn 61 = .ok (.iadd, 1) := dgX11_turn_0 (61, (.iadd, 1)) (List.mem_of_getElem? (i := 33) rfl)
theorem dX11_turn_62 : decode cX11_turn 62 = .ok (.iload_n 3, 1) := dgX11_turn_0 (62, (.iload_n 3, 1)) (List.mem_of_getElem? (i := 34) rfl)
theorem dX11_turn_63 : decode cX11_turn 63 = .ok (.invokevirtual 149, 3) := dgX11_turn_0 (63, (.invokevirtual 149, 3)) (List.mem_of_getElem? (i := 35) rfl)
theorem dX11_turn_66 : decode cX11_turn 66 = .ok (.aload_n 0, 1) := dgX11_turn_0 (66, (.aload_n 0, 1)) (List.mem_of_getElem? (i := 36) rfl)
theorem dX11_turn_67 : decode cX11_turn 67 = .ok (.iload 4, 2) := dgX11_turn_0 (67, (.iload 4, 2)) (List.mem_of_getElem? (i := 37) rfl)
theorem dX11_turn_69 : decode cX11_turn 69 = .ok (.invokevirtual 121, 3) := dgX11_turn_0 (69, (.invokevirtual 121, 3)) (List.mem_of_getElem? (i := 38) rfl)
theorem dX11_turn_72 : decode cX11_turn 72 = .ok (.ireturn, 1) := dgX11_turn_0 (72, (.ireturn, 1)) (List.mem_of_getElem? (i := 39) rfl)
theorem ml_X11_156 : Cond.methodLink RX11 156 yX11_isTurn ∈ tblG := tg 570 (by decide +kernel) (by decide +kernel)
theorem st_X11_isTurn : Cond.static yX11_isTurn ∈ tblG := tg 571 (by decide +kernel) (by decide +kernel)
theorem cd_X11_isTurn : Cond.code yX11_isTurn cX11_isTurn 2 (some .boolean) ∈ tblG := tg 572 (by decide +kernel) (by decide +kernel)
theorem gW_X11_isTurn : GoodIn tblG (wsG yX11_isTurn cX11_isTurn 2 (some .boolean)) := tgi cd_X11_isTurn
theorem gS_X11_156 : GoodIn tblG (va_wsS RX11 156 yX11_isTurn (wsG yX11_isTurn cX11_isTurn 2 (some .boolean))) := tgS ml_X11_156 st_X11_isTurn ini_X11 gW_X11_isTurn
theorem hs_X11_isTurn : yX11_isTurn.cls ≠ "java/lang/invoke/MethodHandle" ∧ yX11_isTurn.cls ≠ "java/lang/invoke/VarHandle" ∧ (parseMethodDescriptor yX11_isTurn.desc).map (fun d => d.parameters.length) = some 2 := by decide +kernel
theorem ml_X11_160 : Cond.methodLink RX11 160 yX6_has ∈ tblG := tg 574 (by decide +kernel) (by decide +kernel)
theorem gV_X11_160 : GoodIn tblG (wsV RX11 160 RX6 yX6_has (wsG yX6_has cX6_has 2 (some .boolean))) := tgV ml_X11_160 im_X6_has se_X6_has ini_X6 gW_X6_has
theorem ml_X11_163 : Cond.methodLink RX11 163 yX6_get ∈ tblG := tg 575 (by decide +kernel) (by decide +kernel)
theorem gV_X11_163 : GoodIn tblG (wsV RX11 163 RX6 yX6_get (wsG yX6_get cX6_get 3 (some .int))) := tgV ml_X11_163 im_X6_get se_X6_get ini_X6 gW_X6_get
theorem dgX11_of_0 : ∀ r ∈ ([(0, (.aload_n 0, 1)), (1, (.getfield 12, 3)), (4, (.getfield 136, 3)), (7, (.iload_n 1, 1)), (8, (.iload_n 2, 1)), (9, (.invokevirtual 163, 3)), (12, (.ireturn, 1))] : List (Nat × (Instr × Nat))), decode cX11_of r.1 = .ok r.2 := by decide +kernel
theorem dX11_of_0 : decode cX11_of 0 = .ok (.aload_n 0, 1) := dgX11_of_0 (0, (.aload_n 0, 1)) (List.mem_of_getElem? (i := 0) rfl)
theorem dX11_of_1 : decode cX11_of 1 = .ok (.getfield 12, 3) := dgX11_of_0 (1, (.getfield 12, 3)) (List.mem_of_getElem? (i := 1) rfl)
theorem dX11_of_4 : decode cX11_of 4 = .ok (.getfield 136, 3) := dgX11_of_0 (4, (.getfield 136, 3)) (List.mem_of_getElem? (i := 2) rfl)
theorem dX11_of_7 : decode cX11_of 7 = .ok (.iload_n 1, 1) := dgX11_of_0 (7, (.iload_n 1, 1)) (List.mem_of_getElem? (i := 3) rfl)
theorem dX11_of_8 : decode cX11_of 8 = .ok (.iload_n 2, 1) := dgX11_of_0 (8, (.iload_n 2, 1)) (List.mem_of_getElem? (i := 4) rfl)
theorem dX11_of_9 : decode cX11_of 9 = .ok (.invokevirtual 163, 3) := dgX11_of_0 (9, (.invokevirtual 163, 3)) (List.mem_of_getElem? (i := 5) rfl)
theorem dX11_of_12 : decode cX11_of 12 = .ok (.ireturn, 1) := dgX11_of_0 (12, (.ireturn, 1)) (List.mem_of_getElem? (i := 6) rfl)
theorem dgX11_body_0 : ∀ r ∈ ([(0, (.aload_n 0, 1)), (1, (.getfield 12, 3)), (4, (.getfield 167, 3)), (7, (.invokevirtual 140, 3)), (10, (.ifCond .eq 10, 3)), (13, (.aload_n 0, 1)), (14, (.bipush (-5), 2)), (16, (.invokevirtual 104, 3)), (19, (.ireturn, 1)), (20, (.aload_n 0, 1)), (21, (.aload_n 0, 1)), (22, (.getfield 12, 3)), (25, (.getfield 167, 3)), (28, (.iconst (-1), 1)), (29, (.invokevirtual 146, 3)), (32, (.invokevirtual 121, 3)), (35, (.ireturn, 1))] : List (Nat × (Instr × Nat))), decode cX11_body r.1 = .ok r.2 := by decide +kernel
theorem dX11_body_0 : decode cX11_body 0 = .ok (.aload_n 0, 1) := dgX11_body_0 (0, (.aload_n 0, 1)) (List.mem_of_getElem? (i := 0) rfl)
theorem dX11_body_1 : decode cX11_body 1 = .ok (.getfield 12, 3) := dgX11_body_0 (1, (.getfield 12, 3)) (List.mem_of_getElem? (i := 1) rfl)
theorem dX11_body_4 : decode cX11_body 4 = .ok (.getfield 167, 3) := dgX11_body_0 (4, (.getfield 167, 3)) (List.mem_of_getElem? (i := 2) rfl)
theorem dX11_body_7 : decode cX11_body 7 = .ok (.invokevirtual 140, 3) := dgX11_body_0 (7, (.invokevirtual 140, 3)) (List.mem_of_getElem? (i := 3) rfl)
theorem dX11_body_10 : decode cX11_body 10 = .ok (.ifCond .eq 10, 3) := dgX11_body_0 (10, (.ifCond .eq 10, 3)) (List.mem_of_getElem? (i := 4) rfl)
theorem dX11_body_13 : decode cX11_body 13 = .ok (.aload_n 0, 1) := dgX11_body_0 (13, (.aload_n 0, 1)) (List.mem_of_getElem? (i := 5) rfl)
theorem dX11_body_14 : decode cX11_body 14 = .ok (.bipush (-5), 2) := dgX11_body_0 (14, (.bipush (-5), 2)) (List.mem_of_getElem? (i := 6) rfl)
theorem dX11_body_16 : decode cX11_body 16 = .ok (.invokevirtual 104, 3) := dgX11_body_0 (16, (.invokevirtual 104, 3)) (List.mem_of_getElem? (i := 7) rfl)
theorem dX11_body_19 : decode cX11_body 19 = .ok (.ireturn, 1) := dgX11_body_0 (19, (.ireturn, 1)) (List.mem_of_getElem? (i := 8) rfl)
theorem dX11_body_20 : decode cX11_body 20 = .ok (.aload_n 0, 1) := dgX11_body_0 (20, (.aload_n 0, 1)) (List.mem_of_getElem? (i := 9) rfl)
theorem dX11_body_21 : decode cX11_body 21 = .ok (.aload_n 0, 1) := dgX11_body_0 (21, (.aload_n 0, 1)) (List.mem_of_getElem? (i := 10) rfl)
theorem dX11_body_22 : decode cX11_body 22 = .ok (.getfield 12, 3) := dgX11_body_0 (22, (.getfield 12, 3)) (List.mem_of_getElem? (i := 11) rfl)
theorem dX11_body_25 : decode cX11_body 25 = .ok (.getfield 167, 3) := dgX11_body_0 (25, (.getfield 167, 3)) (List.mem_of_getElem? (i := 12) rfl)
theorem dX11_body_28 : decode cX11_body 28 = .ok (.iconst (-1), 1) := dgX11_body_0 (28, (.iconst (-1), 1)) (List.mem_of_getElem? (i := 13) rfl)
theorem dX11_body_29 : decode cX11_body 29 = .ok (.invokevirtual 146, 3) := dgX11_body_0 (29, (.invokevirtual 146, 3)) (List.mem_of_getElem? (i := 14) rfl)
theorem dX11_body_32 : decode cX11_body 32 = .ok (.invokevirtual 121, 3) := dgX11_body_0 (32, (.invokevirtual 121, 3)) (List.mem_of_getElem? (i := 15) rfl)
theorem dX11_body_35 : decode cX11_body 35 = .ok (.ireturn, 1) := dgX11_body_0 (35, (.ireturn, 1)) (List.mem_of_getElem? (i := 16) rfl)
theorem fl_X11_167 : Cond.fieldLink RX11 167 "LateGlass$House" "bodies" "LLateGlass$Table;" ∈ tblG := tg 176 (by decide +kernel) (by decide +kernel)
theorem dgX11_stay_0 : ∀ r ∈ ([(0, (.iload_n 2, 1)), (1, (.iload_n 3, 1)), (2, (.iload 4, 2)), (4, (.invokestatic 170, 3)), (7, (.ifCond .ne 9, 3)), (10, (.aload_n 0, 1)), (11, (.iconst (-1), 1)), (12, (.invokevirtual 104, 3)), (15, (.ireturn, 1)), (16, (.aload_n 0, 1)), (17, (.getfield 12, 3)), (20, (.getfield 167, 3)), (23, (.iload_n 1, 1)), (24, (.invokevirtual 160, 3)), (27, (.ifCond .ne 10, 3)), (30, (.aload_n 0, 1)), (31, (.bipush (-2), 2)), (33, (.invokevirtual 104, 3)), (36, (.ireturn, 1)), (37, (.aload_n 0, 1)), (38, (.getfield 12, 3)), (41, (.iload 4, 2)), (43, (.invokevirtual 174, 3)), (46, (.ifCond .eq 10, 3)), (49, (.aload_n 0, 1)), (50, (.bipush (-3), 2)), (52, (.invokevirtual 104, 3)), (55, (.ireturn, 1)), (56, (.aload_n 0, 1)), (57, (.getfield 12, 3)), (60, (.iload_n 1, 1)), (61, (.iload_n 2, 1)), (62, (.iload_n 3, 1)), (63, (.iload 4, 2)), (65, (.invokevirtual 177, 3)), (68, (.aload_n 0, 1)), (69, (.iconst 0, 1)), (70, (.invokevirtual 121, 3)), (73, (.ireturn, 1))] : List (Nat × (Instr × Nat))), decode cX11_stay r.1 = .ok r.2 := by decide +kernel
theorem dX11_stay_0 : decode cX11_stay 0 = .ok (.iload_n 2, 1) := dgX11_stay_0 (0, (.iload_n 2, 1)) (List.mem_of_getElem? (i := 0) rfl)
theorem dX11_stay_1 : decode cX11_stay 1 = .ok (.iload_n 3, 1) := dgX11_stay_0 (1, (.iload_n 3, 1)) (List.mem_of_getElem? (i := 1) rfl)
theorem dX11_stay_2 : decode cX11_stay 2 = .ok (.iload 4, 2) := dgX11_stay_0 (2, (.iload 4, 2)) (List.mem_of_getElem? (i := 2) rfl)
theorem dX11_stay_4 : decode cX11_stay 4 = .ok (.invokestatic 170, 3) := dgX11_stay_0 (4, (.invokestatic 170, 3)) (List.mem_of_getElem? (i := 3) rfl)
theorem dX11_stay_7 : decode cX11_stay 7 = .ok (.ifCond .ne 9, 3) := dgX11_stay_0 (7, (.ifCond .ne 9, 3)) (List.mem_of_getElem? (i := 4) rfl)
theorem dX11_stay_10 : decode cX11_stay 10 = .ok (.aload_n 0, 1) := dgX11_stay_0 (10, (.aload_n 0, 1)) (List.mem_of_getElem? (i := 5) rfl)
theorem dX11_stay_11 : decode cX11_stay 11 = .ok (.iconst (-1), 1) := dgX11_stay_0 (11, (.iconst (-1), 1)) (List.mem_of_getElem? (i := 6) rfl)
theorem dX11_stay_12 : decode cX11_stay 12 = .ok (.invokevirtual 104, 3) := dgX11_stay_0 (12, (.invokevirtual 104, 3)) (List.mem_of_getElem? (i := 7) rfl)
theorem dX11_stay_15 : decode cX11_stay 15 = .ok (.ireturn, 1) := dgX11_stay_0 (15, (.ireturn, 1)) (List.mem_of_getElem? (i := 8) rfl)
theorem dX11_stay_16 : decode cX11_stay 16 = .ok (.aload_n 0, 1) := dgX11_stay_0 (16, (.aload_n 0, 1)) (List.mem_of_getElem? (i := 9) rfl)
theorem dX11_stay_17 : decode cX11_stay 17 = .ok (.getfield 12, 3) := dgX11_stay_0 (17, (.getfield 12, 3)) (List.mem_of_getElem? (i := 10) rfl)
theorem dX11_stay_20 : decode cX11_stay 20 = .ok (.getfield 167, 3) := dgX11_stay_0 (20, (.getfield 167, 3)) (List.mem_of_getElem? (i := 11) rfl)
theorem dX11_stay_23 : decode cX11_stay 23 = .ok (.iload_n 1, 1) := dgX11_stay_0 (23, (.iload_n 1, 1)) (List.mem_of_getElem? (i := 12) rfl)
theorem dX11_stay_24 : decode cX11_stay 24 = .ok (.invokevirtual 160, 3) := dgX11_stay_0 (24, (.invokevirtual 160, 3)) (List.mem_of_getElem? (i := 13) rfl)
theorem dX11_stay_27 : decode cX11_stay 27 = .ok (.ifCond .ne 10, 3) := dgX11_stay_0 (27, (.ifCond .ne 10, 3)) (List.mem_of_getElem? (i := 14) rfl)
theorem dX11_stay_30 : decode cX11_stay 30 = .ok (.aload_n 0, 1) := dgX11_stay_0 (30, (.aload_n 0, 1)) (List.mem_of_getElem? (i := 15) rfl)
theorem dX11_stay_31 : decode cX11_stay 31 = .ok (.bipush (-2), 2) := dgX11_stay_0 (31, (.bipush (-2), 2)) (List.mem_of_getElem? (i := 16) rfl)
theorem dX11_stay_33 : decode cX11_stay 33 = .ok (.invokevirtual 104, 3) := dgX11_stay_0 (33, (.invokevirtual 104, 3)) (List.mem_of_getElem? (i := 17) rfl)
theorem dX11_stay_36 : decode cX11_stay 36 = .ok (.ireturn, 1) := dgX11_stay_0 (36, (.ireturn, 1)) (List.mem_of_getElem? (i := 18) rfl)
theorem dX11_stay_37 : decode cX11_stay 37 = .ok (.aload_n 0, 1) := dgX11_stay_0 (37, (.aload_n 0, 1)) (List.mem_of_getElem? (i := 19) rfl)
theorem dX11_stay_38 : decode cX11_stay 38 = .ok (.getfield 12, 3) := dgX11_stay_0 (38, (.getfield 12, 3)) (List.mem_of_getElem? (i := 20) rfl)
theorem dX11_stay_41 : decode cX11_stay 41 = .ok (.iload 4, 2) := dgX11_stay_0 (41, (.iload 4, 2)) (List.mem_of_getElem? (i := 21) rfl)
theorem dX11_stay_43 : decode cX11_stay 43 = .ok (.invokevirtual 174, 3) := dgX11_stay_0 (43, (.invokevirtual 174, 3)) (List.mem_of_getElem? (i := 22) rfl)
theorem dX11_stay_46 : decode cX11_stay 46 = .ok (.ifCond .eq 10, 3) := dgX11_stay_0 (46, (.ifCond .eq 10, 3)) (List.mem_of_getElem? (i := 23) rfl)
theorem dX11_stay_49 : decode cX11_stay 49 = .ok (.aload_n 0, 1) := dgX11_stay_0 (49, (.aload_n 0, 1)) (List.mem_of_getElem? (i := 24) rfl)
theorem dX11_stay_50 : decode cX11_stay 50 = .ok (.bipush (-3), 2) := dgX11_stay_0 (50, (.bipush (-3), 2)) (List.mem_of_getElem? (i := 25) rfl)
theorem dX11_stay_52 : decode cX11_stay 52 = .ok (.invokevirtual 104, 3) := dgX11_stay_0 (52, (.invokevirtual 104, 3)) (List.mem_of_getElem? (i := 26) rfl)
theorem dX11_stay_55 : decode cX11_stay 55 = .ok (.ireturn, 1) := dgX11_stay_0 (55, (.ireturn, 1)) (List.mem_of_getElem? (i := 27) rfl)
theorem dX11_stay_56 : decode cX11_stay 56 = .ok (.aload_n 0, 1) := dgX11_stay_0 (56, (.aload_n 0, 1)) (List.mem_of_getElem? (i := 28) rfl)
theorem dX11_stay_57 : decode cX11_stay 57 = .ok (.getfield 12, 3) := dgX11_stay_0 (57, (.getfield 12, 3)) (List.mem_of_getElem? (i := 29) rfl)
theorem dX11_stay_60 : decode cX11_stay 60 = .ok (.iload_n 1, 1) := dgX11_stay_0 (60, (.iload_n 1, 1)) (List.mem_of_getElem? (i := 30) rfl)
theorem dX11_stay_61 : decode cX11_stay 61 = .ok (.iload_n 2, 1) := dgX11_stay_0 (61, (.iload_n 2, 1)) (List.mem_of_getElem? (i := 31) rfl)
theorem dX11_stay_62 : decode cX11_stay 62 = .ok (.iload_n 3, 1) := dgX11_stay_0 (62, (.iload_n 3, 1)) (List.mem_of_getElem? (i := 32) rfl)
theorem dX11_stay_63 : decode cX11_stay 63 = .ok (.iload 4, 2) := dgX11_stay_0 (63, (.iload 4, 2)) (List.mem_of_getElem? (i := 33) rfl)
theorem dX11_stay_65 : decode cX11_stay 65 = .ok (.invokevirtual 177, 3) := dgX11_stay_0 (65, (.invokevirtual 177, 3)) (List.mem_of_getElem? (i := 34) rfl)
theorem dX11_stay_68 : decode cX11_stay 68 = .ok (.aload_n 0, 1) := dgX11_stay_0 (68, (.aload_n 0, 1)) (List.mem_of_getElem? (i := 35) rfl)
theorem dX11_stay_69 : decode cX11_stay 69 = .ok (.iconst 0, 1) := dgX11_stay_0 (69, (.iconst 0, 1)) (List.mem_of_getElem? (i := 36) rfl)
theorem dX11_stay_70 : decode cX11_stay 70 = .ok (.invokevirtual 121, 3) := dgX11_stay_0 (70, (.invokevirtual 121, 3)) (List.mem_of_getElem? (i := 37) rfl)
theorem dX11_stay_73 : decode cX11_stay 73 = .ok (.ireturn, 1) := dgX11_stay_0 (73, (.ireturn, 1)) (List.mem_of_getElem? (i := 38) rfl)
theorem ml_X11_170 : Cond.methodLink RX11 170 yX11_isStay ∈ tblG := tg 588 (by decide +kernel) (by decide +kernel)
theorem st_X11_isStay : Cond.static yX11_isStay ∈ tblG := tg 589 (by decide +kernel) (by decide +kernel)
theorem cd_X11_isStay : Cond.code yX11_isStay cX11_isStay 3 (some .boolean) ∈ tblG := tg 590 (by decide +kernel) (by decide +kernel)
theorem gW_X11_isStay : GoodIn tblG (wsG yX11_isStay cX11_isStay 3 (some .boolean)) := tgi cd_X11_isStay
theorem gS_X11_170 : GoodIn tblG (va_wsS RX11 170 yX11_isStay (wsG yX11_isStay cX11_isStay 3 (some .boolean))) := tgS ml_X11_170 st_X11_isStay ini_X11 gW_X11_isStay
theorem hs_X11_isStay : yX11_isStay.cls ≠ "java/lang/invoke/MethodHandle" ∧ yX11_isStay.cls ≠ "java/lang/invoke/VarHandle" ∧ (parseMethodDescriptor yX11_isStay.desc).map (fun d => d.parameters.length) = some 3 := by decide +kernel
theorem ml_X11_174 : Cond.methodLink RX11 174 yX1_isWalled ∈ tblG := tg 594 (by decide +kernel) (by decide +kernel)
theorem im_X1_isWalled : Cond.instanceMethod yX1_isWalled ∈ tblG := tg 595 (by decide +kernel) (by decide +kernel)
theorem se_X1_isWalled : Cond.selects RX1 yX1_isWalled yX1_isWalled ∈ tblG := tg 596 (by decide +kernel) (by decide +kernel)
theorem cd_X1_isWalled : Cond.code yX1_isWalled cX1_isWalled 2 (some .boolean) ∈ tblG := tg 597 (by decide +kernel) (by decide +kernel)
theorem gW_X1_isWalled : GoodIn tblG (wsG yX1_isWalled cX1_isWalled 2 (some .boolean)) := tgi cd_X1_isWalled
theorem gV_X11_174 : GoodIn tblG (wsV RX11 174 RX1 yX1_isWalled (wsG yX1_isWalled cX1_isWalled 2 (some .boolean))) := tgV ml_X11_174 im_X1_isWalled se_X1_isWalled ini_X1 gW_X1_isWalled
theorem hv_X1_isWalled : yX1_isWalled.cls = RX1 ∧ yX1_isWalled.cls ≠ "java/lang/invoke/MethodHandle" ∧ yX1_isWalled.cls ≠ "java/lang/invoke/VarHandle" ∧ (parseMethodDescriptor yX1_isWalled.desc).map (fun d => d.parameters.length) = some 1 := by decide +kernel
theorem ml_X11_177 : Cond.methodLink RX11 177 yX1_put ∈ tblG := tg 598 (by decide +kernel) (by decide +kernel)
theorem im_X1_put : Cond.instanceMethod yX1_put ∈ tblG := tg 599 (by decide +kernel) (by decide +kernel)
theorem se_X1_put : Cond.selects RX1 yX1_put yX1_put ∈ tblG := tg 600 (by decide +kernel) (by decide +kernel)
theorem cd_X1_put : Cond.code yX1_put cX1_put 10 none ∈ tblG := tg 601 (by decide +kernel) (by decide +kernel)
theorem gW_X1_put : GoodIn tblG (wsG yX1_put cX1_put 10 none) := tgi cd_X1_put
theorem gV_X11_177 : GoodIn tblG (wsV RX11 177 RX1 yX1_put (wsG yX1_put cX1_put 10 none)) := tgV ml_X11_177 im_X1_put se_X1_put ini_X1 gW_X1_put
theorem hv_X1_put : yX1_put.cls = RX1 ∧ yX1_put.cls ≠ "java/lang/invoke/MethodHandle" ∧ yX1_put.cls ≠ "java/lang/invoke/VarHandle" ∧ (parseMethodDescriptor yX1_put.desc).map (fun d => d.parameters.length) = some 4 := by decide +kernel
theorem dgX11_where_0 : ∀ r ∈ ([(0, (.aload_n 0, 1)), (1, (.getfield 12, 3)), (4, (.getfield 167, 3)), (7, (.iload_n 1, 1)), (8, (.iload_n 2, 1)), (9, (.invokevirtual 163, 3)), (12, (.ireturn, 1))] : List (Nat × (Instr × Nat))), decode cX11_where r.1 = .ok r.2 := by decide +kernel
theorem dX11_where_0 : decode cX11_where 0 = .ok (.aload_n 0, 1) := dgX11_where_0 (0, (.aload_n 0, 1)) (List.mem_of_getElem? (i := 0) rfl)
theorem dX11_where_1 : decode cX11_where 1 = .ok (.getfield 12, 3) := dgX11_where_0 (1, (.getfield 12, 3)) (List.mem_of_getElem? (i := 1) rfl)
theorem dX11_where_4 : decode cX11_where 4 = .ok (.getfield 167, 3) := dgX11_where_0 (4, (.getfield 167, 3)) (List.mem_of_getElem? (i := 2) rfl)
theorem dX11_where_7 : decode cX11_where 7 = .ok (.iload_n 1, 1) := dgX11_where_0 (7, (.iload_n 1, 1)) (List.mem_of_getElem? (i := 3) rfl)
theorem dX11_where_8 : decode cX11_where 8 = .ok (.iload_n 2, 1) := dgX11_where_0 (8, (.iload_n 2, 1)) (List.mem_of_getElem? (i := 4) rfl)
theorem dX11_where_9 : decode cX11_where 9 = .ok (.invokevirtual 163, 3) := dgX11_where_0 (9, (.invokevirtual 163, 3)) (List.mem_of_getElem? (i := 5) rfl)
theorem dX11_where_12 : decode cX11_where 12 = .ok (.ireturn, 1) := dgX11_where_0 (12, (.ireturn, 1)) (List.mem_of_getElem? (i := 6) rfl)
theorem dgX11_least_0 : ∀ r ∈ ([(0, (.iload_n 1, 1)), (1, (.ifCond .lt 9, 3)), (4, (.iload_n 1, 1)), (5, (.ldc 181, 2)), (7, (.if_icmp .le 9, 3)), (10, (.aload_n 0, 1)), (11, (.iconst (-1), 1)), (12, (.invokevirtual 104, 3)), (15, (.ireturn, 1)), (16, (.aload_n 0, 1)), (17, (.getfield 12, 3)), (20, (.getfield 182, 3)), (23, (.istore_n 2, 1)), (24, (.aload_n 0, 1)), (25, (.getfield 12, 3)), (28, (.iload_n 1, 1)), (29, (.putfield 182, 3)), (32, (.aload_n 0, 1)), (33, (.iload_n 2, 1)), (34, (.invokevirtual 121, 3)), (37, (.ireturn, 1))] : List (Nat × (Instr × Nat))), decode cX11_least r.1 = .ok r.2 := by decide +kernel
theorem dX11_least_0 : decode cX11_least 0 = .ok (.iload_n 1, 1) := dgX11_least_0 (0, (.iload_n 1, 1)) (List.mem_of_getElem? (i := 0) rfl)
theorem dX11_least_1 : decode cX11_least 1 = .ok (.ifCond .lt 9, 3) := dgX11_least_0 (1, (.ifCond .lt 9, 3)) (List.mem_of_getElem? (i := 1) rfl)
theorem dX11_least_4 : decode cX11_least 4 = .ok (.iload_n 1, 1) := dgX11_least_0 (4, (.iload_n 1, 1)) (List.mem_of_getElem? (i := 2) rfl)
theorem dX11_least_5 : decode cX11_least 5 = .ok (.ldc 181, 2) := dgX11_least_0 (5, (.ldc 181, 2)) (List.mem_of_getElem? (i := 3) rfl)
theorem dX11_least_7 : decode cX11_least 7 = .ok (.if_icmp .le 9, 3) := dgX11_least_0 (7, (.if_icmp .le 9, 3)) (List.mem_of_getElem? (i := 4) rfl)
theorem dX11_least_10 : decode cX11_least 10 = .ok (.aload_n 0, 1) := dgX11_least_0 (10, (.aload_n 0, 1)) (List.mem_of_getElem? (i := 5) rfl)
theorem dX11_least_11 : decode cX11_least 11 = .ok (.iconst (-1), 1) := dgX11_least_0 (11, (.iconst (-1), 1)) (List.mem_of_getElem? (i := 6) rfl)
theorem dX11_least_12 : decode cX11_least 12 = .ok (.invokevirtual 104, 3) := dgX11_least_0 (12, (.invokevirtual 104, 3)) (List.mem_of_getElem? (i := 7) rfl)
theorem dX11_least_15 : decode cX11_least 15 = .ok (.ireturn, 1) := dgX11_least_0 (15, (.ireturn, 1)) (List.mem_of_getElem? (i := 8) rfl)
theorem dX11_least_16 : decode cX11_least 16 = .ok (.aload_n 0, 1) := dgX11_least_0 (16, (.aload_n 0, 1)) (List.mem_of_getElem? (i := 9) rfl)
theorem dX11_least_17 : decode cX11_least 17 = .ok (.getfield 12, 3) := dgX11_least_0 (17, (.getfield 12, 3)) (List.mem_of_getElem? (i := 10) rfl)
theorem dX11_least_20 : decode cX11_least 20 = .ok (.getfield 182, 3) := dgX11_least_0 (20, (.getfield 182, 3)) (List.mem_of_getElem? (i := 11) rfl)
theorem dX11_least_23 : decode cX11_least 23 = .ok (.istore_n 2, 1) := dgX11_least_0 (23, (.istore_n 2, 1)) (List.mem_of_getElem? (i := 12) rfl)
theorem dX11_least_24 : decode cX11_least 24 = .ok (.aload_n 0, 1) := dgX11_least_0 (24, (.aload_n 0, 1)) (List.mem_of_getElem? (i := 13) rfl)
theorem dX11_least_25 : decode cX11_least 25 = .ok (.getfield 12, 3) := dgX11_least_0 (25, (.getfield 12, 3)) (List.mem_of_getElem? (i := 14) rfl)
theorem dX11_least_28 : decode cX11_least 28 = .ok (.iload_n 1, 1) := dgX11_least_0 (28, (.iload_n 1, 1)) (List.mem_of_getElem? (i := 15) rfl)
theorem dX11_least_29 : decode cX11_least 29 = .ok (.putfield 182, 3) := dgX11_least_0 (29, (.putfield 182, 3)) (List.mem_of_getElem? (i := 16) rfl)
theorem dX11_least_32 : decode cX11_least 32 = .ok (.aload_n 0, 1) := dgX11_least_0 (32, (.aload_n 0, 1)) (List.mem_of_getElem? (i := 17) rfl)
theorem dX11_least_33 : decode cX11_least 33 = .ok (.iload_n 2, 1) := dgX11_least_0 (33, (.iload_n 2, 1)) (List.mem_of_getElem? (i := 18) rfl)
theorem dX11_least_34 : decode cX11_least 34 = .ok (.invokevirtual 121, 3) := dgX11_least_0 (34, (.invokevirtual 121, 3)) (List.mem_of_getElem? (i := 19) rfl)
theorem dX11_least_37 : decode cX11_least 37 = .ok (.ireturn, 1) := dgX11_least_0 (37, (.ireturn, 1)) (List.mem_of_getElem? (i := 20) rfl)
theorem ki_X11_181 : Cond.constant RX11 181 1000000 ∈ tblG := tg 612 (by decide +kernel) (by decide +kernel)
theorem fl_X11_182 : Cond.fieldLink RX11 182 "LateGlass$House" "least" "I" ∈ tblG := tg 159 (by decide +kernel) (by decide +kernel)
theorem dgX11_write_0 : ∀ r ∈ ([(0, (.bipush 24, 2)), (2, (.istore_n 2, 1)), (3, (.iload_n 2, 1)), (4, (.ifCond .lt 47, 3)), (7, (.aload_n 0, 1)), (8, (.getfield 74, 3)), (11, (.aload_n 0, 1)), (12, (.getfield 70, 3)), (15, (.arraylength, 1)), (16, (.if_icmp .ge 35, 3)), (19, (.aload_n 0, 1)), (20, (.getfield 70, 3)), (23, (.aload_n 0, 1)), (24, (.getfield 74, 3)), (27, (.iload_n 1, 1)), (28, (.iload_n 2, 1)), (29, (.iushr, 1)), (30, (.sipush 255, 3)), (33, (.iand, 1)), (34, (.iastore, 1)), (35, (.aload_n 0, 1)), (36, (.dup, 1)), (37, (.getfield 74, 3)), (40, (.iconst 1, 1)), (41, (.iadd, 1)), (42, (.putfield 74, 3)), (45, (.iinc 2 (-8), 3)), (48, (.goto (-45), 3)), (51, (.return_, 1))] : List (Nat × (Instr × Nat))), decode cX11_write r.1 = .ok r.2 := by decide +kernel
theorem dX11_write_0 : decode cX11_write 0 = .ok (.bipush 24, 2) := dgX11_write_0 (0, (.bipush 24, 2)) (List.mem_of_getElem? (i := 0) rfl)
theorem dX11_write_2 : decode cX11_write 2 = .ok (.istore_n 2, 1) := dgX11_write_0 (2, (.istore_n 2, 1)) (List.mem_of_getElem? (i := 1) rfl)
theorem dX11_write_3 : decode cX11_write 3 = .ok (.iload_n 2, 1) := dgX11_write_0 (3, (.iload_n 2, 1)) (List.mem_of_getElem? (i := 2) rfl)
theorem dX11_write_4 : decode cX11_write 4 = .ok (.ifCond .lt 47, 3) := dgX11_write_0 (4, (.ifCond .lt 47, 3)) (List.mem_of_getElem? (i := 3) rfl)
theorem dX11_write_7 : decode cX11_write 7 = .ok (.aload_n 0, 1) := dgX11_write_0 (7, (.aload_n 0, 1)) (List.mem_of_getElem? (i := 4) rfl)
theorem dX11_write_8 : decode cX11_write 8 = .ok (.getfield 74, 3) := dgX11_write_0 (8, (.getfield 74, 3)) (List.mem_of_getElem? (i := 5) rfl)
theorem dX11_write_11 : decode cX11_write 11 = .ok (.aload_n 0, 1) := dgX11_write_0 (11, (.aload_n 0, 1)) (List.mem_of_getElem? (i := 6) rfl)
theorem dX11_write_12 : decode cX11_write 12 = .ok (.getfield 70, 3) := dgX11_write_0 (12, (.getfield 70, 3)) (List.mem_of_getElem? (i := 7) rfl)
theorem dX11_write_15 : decode cX11_write 15 = .ok (.arraylength, 1) := dgX11_write_0 (15, (.arraylength, 1)) (List.mem_of_getElem? (i := 8) rfl)
theorem dX11_write_16 : decode cX11_write 16 = .ok (.if_icmp .ge 35, 3) := dgX11_write_0 (16, (.if_icmp .ge 35, 3)) (List.mem_of_getElem? (i := 9) rfl)
theorem dX11_write_19 : decode cX11_write 19 = .ok (.aload_n 0, 1) := dgX11_write_0 (19, (.aload_n 0, 1)) (List.mem_of_getElem? (i := 10) rfl)
theorem dX11_write_20 : decode cX11_write 20 = .ok (.getfield 70, 3) := dgX11_write_0 (20, (.getfield 70, 3)) (List.mem_of_getElem? (i := 11) rfl)
theorem dX11_write_23 : decode cX11_write 23 = .ok (.aload_n 0, 1) := dgX11_write_0 (23, (.aload_n 0, 1)) (List.mem_of_getElem? (i := 12) rfl)
theorem dX11_write_24 : decode cX11_write 24 = .ok (.getfield 74, 3) := dgX11_write_0 (24, (.getfield 74, 3)) (List.mem_of_getElem? (i := 13) rfl)
theorem dX11_write_27 : decode cX11_write 27 = .ok (.iload_n 1, 1) := dgX11_write_0 (27, (.iload_n 1, 1)) (List.mem_of_getElem? (i := 14) rfl)
theorem dX11_write_28 : decode cX11_write 28 = .ok (.iload_n 2, 1) := dgX11_write_0 (28, (.iload_n 2, 1)) (List.mem_of_getElem? (i := 15) rfl)
theorem dX11_write_29 : decode cX11_write 29 = .ok (.iushr, 1) := dgX11_write_0 (29, (.iushr, 1)) (List.mem_of_getElem? (i := 16) rfl)
theorem dX11_write_30 : decode cX11_write 30 = .ok (.sipush 255, 3) := dgX11_write_0 (30, (.sipush 255, 3)) (List.mem_of_getElem? (i := 17) rfl)
theorem dX11_write_33 : decode cX11_write 33 = .ok (.iand, 1) := dgX11_write_0 (33, (.iand, 1)) (List.mem_of_getElem? (i := 18) rfl)
theorem dX11_write_34 : decode cX11_write 34 = .ok (.iastore, 1) := dgX11_write_0 (34, (.iastore, 1)) (List.mem_of_getElem? (i := 19) rfl)
theorem dX11_write_35 : decode cX11_write 35 = .ok (.aload_n 0, 1) := dgX11_write_0 (35, (.aload_n 0, 1)) (List.mem_of_getElem? (i := 20) rfl)
theorem dX11_write_36 : decode cX11_write 36 = .ok (.dup, 1) := dgX11_write_0 (36, (.dup, 1)) (List.mem_of_getElem? (i := 21) rfl)
theorem dX11_write_37 : decode cX11_write 37 = .ok (.getfield 74, 3) := dgX11_write_0 (37, (.getfield 74, 3)) (List.mem_of_getElem? (i := 22) rfl)
theorem dX11_write_40 : decode cX11_write 40 = .ok (.iconst 1, 1) := dgX11_write_0 (40, (.iconst 1, 1)) (List.mem_of_getElem? (i := 23) rfl)
theorem dX11_write_41 : decode cX11_write 41 = .ok (.iadd, 1) := dgX11_write_0 (41, (.iadd, 1)) (List.mem_of_getElem? (i := 24) rfl)
theorem dX11_write_42 : decode cX11_write 42 = .ok (.putfield 74, 3) := dgX11_write_0 (42, (.putfield 74, 3)) (List.mem_of_getElem? (i := 25) rfl)
theorem dX11_write_45 : decode cX11_write 45 = .ok (.iinc 2 (-8), 3) := dgX11_write_0 (45, (.iinc 2 (-8), 3)) (List.mem_of_getElem? (i := 26) rfl)
theorem dX11_write_48 : decode cX11_write 48 = .ok (.goto (-45), 3) := dgX11_write_0 (48, (.goto (-45), 3)) (List.mem_of_getElem? (i := 27) rfl)
theorem dX11_write_51 : decode cX11_write 51 = .ok (.return_, 1) := dgX11_write_0 (51, (.return_, 1)) (List.mem_of_getElem? (i := 28) rfl)
theorem fl_X11_74 : Cond.fieldLink RX11 74 "LateGlass" "tapeLength" "I" ∈ tblG := tg 454 (by decide +kernel) (by decide +kernel)
theorem fl_X11_70 : Cond.fieldLink RX11 70 "LateGlass" "tape" "[I" ∈ tblG := tg 453 (by decide +kernel) (by decide +kernel)
theorem dgX11_feed_0 : ∀ r ∈ ([(0, (.aload_n 0, 1)), (1, (.getfield 74, 3)), (4, (.bipush 20, 2)), (6, (.iadd, 1)), (7, (.sipush 400, 3)), (10, (.if_icmp .le 5, 3)), (13, (.iconst (-1), 1)), (14, (.ireturn, 1)), (15, (.aload_n 0, 1)), (16, (.iload_n 1, 1)), (17, (.invokevirtual 185, 3)), (20, (.aload_n 0, 1)), (21, (.iload_n 2, 1)), (22, (.invokevirtual 185, 3)), (25, (.aload_n 0, 1)), (26, (.iload_n 3, 1)), (27, (.invokevirtual 185, 3)), (30, (.aload_n 0, 1)), (31, (.iload 4, 2)), (33, (.invokevirtual 185, 3)), (36, (.aload_n 0, 1)), (37, (.iload 5, 2)), (39, (.invokevirtual 185, 3)), (42, (.aload_n 0, 1)), (43, (.getfield 74, 3)), (46, (.ireturn, 1))] : List (Nat × (Instr × Nat))), decode cX11_feed r.1 = .ok r.2 := by decide +kernel
theorem dX11_feed_0 : decode cX11_feed 0 = .ok (.aload_n 0, 1) := dgX11_feed_0 (0, (.aload_n 0, 1)) (List.mem_of_getElem? (i := 0) rfl)
theorem dX11_feed_1 : decode cX11_feed 1 = .ok (.getfield 74, 3) := dgX11_feed_0 (1, (.getfield 74, 3)) (List.mem_of_getElem? (i := 1) rfl)
theorem dX11_feed_4 : decode cX11_feed 4 = .ok (.bipush 20, 2) := dgX11_feed_0 (4, (.bipush 20, 2)) (List.mem_of_getElem? (i := 2) rfl)
theorem dX11_feed_6 : decode cX11_feed 6 = .ok (.iadd, 1) := dgX11_feed_0 (6, (.iadd, 1)) (List.mem_of_getElem? (i := 3) rfl)
theorem dX11_feed_7 : decode cX11_feed 7 = .ok (.sipush 400, 3) := dgX11_feed_0 (7, (.sipush 400, 3)) (List.mem_of_getElem? (i := 4) rfl)
theorem dX11_feed_10 : decode cX11_feed 10 = .ok (.if_icmp .le 5, 3) := dgX11_feed_0 (10, (.if_icmp .le 5, 3)) (List.mem_of_getElem? (i := 5) rfl)
theorem dX11_feed_13 : decode cX11_feed 13 = .ok (.iconst (-1), 1) := dgX11_feed_0 (13, (.iconst (-1), 1)) (List.mem_of_getElem? (i := 6) rfl)
theorem dX11_feed_14 : decode cX11_feed 14 = .ok (.ireturn, 1) := dgX11_feed_0 (14, (.ireturn, 1)) (List.mem_of_getElem? (i := 7) rfl)
theorem dX11_feed_15 : decode cX11_feed 15 = .ok (.aload_n 0, 1) := dgX11_feed_0 (15, (.aload_n 0, 1)) (List.mem_of_getElem? (i := 8) rfl)
theorem dX11_feed_16 : decode cX11_feed 16 = .ok (.iload_n 1, 1) := dgX11_feed_0 (16, (.iload_n 1, 1)) (List.mem_of_getElem? (i := 9) rfl)
theorem dX11_feed_17 : decode cX11_feed 17 = .ok (.invokevirtual 185, 3) := dgX11_feed_0 (17, (.invokevirtual 185, 3)) (List.mem_of_getElem? (i := 10) rfl)
theorem dX11_feed_20 : decode cX11_feed 20 = .ok (.aload_n 0, 1) := dgX11_feed_0 (20, (.aload_n 0, 1)) (List.mem_of_getElem? (i := 11) rfl)
theorem dX11_feed_21 : decode cX11_feed 21 = .ok (.iload_n 2, 1) := dgX11_feed_0 (21, (.iload_n 2, 1)) (List.mem_of_getElem? (i := 12) rfl)
theorem dX11_feed_22 : decode cX11_feed 22 = .ok (.invokevirtual 185, 3) := dgX11_feed_0 (22, (.invokevirtual 185, 3)) (List.mem_of_getElem? (i := 13) rfl)
theorem dX11_feed_25 : decode cX11_feed 25 = .ok (.aload_n 0, 1) := dgX11_feed_0 (25, (.aload_n 0, 1)) (List.mem_of_getElem? (i := 14) rfl)
theorem dX11_feed_26 : decode cX11_feed 26 = .ok (.iload_n 3, 1) := dgX11_feed_0 (26, (.iload_n 3, 1)) (List.mem_of_getElem? (i := 15) rfl)
theorem dX11_feed_27 : decode cX11_feed 27 = .ok (.invokevirtual 185, 3) := dgX11_feed_0 (27, (.invokevirtual 185, 3)) (List.mem_of_getElem? (i := 16) rfl)
theorem dX11_feed_30 : decode cX11_feed 30 = .ok (.aload_n 0, 1) := dgX11_feed_0 (30, (.aload_n 0, 1)) (List.mem_of_getElem? (i := 17) rfl)
theorem dX11_feed_31 : decode cX11_feed 31 = .ok (.iload 4, 2) := dgX11_feed_0 (31, (.iload 4, 2)) (List.mem_of_getElem? (i := 18) rfl)
theorem dX11_feed_33 : decode cX11_feed 33 = .ok (.invokevirtual 185, 3) := dgX11_feed_0 (33, (.invokevirtual 185, 3)) (List.mem_of_getElem? (i := 19) rfl)
theorem dX11_feed_36 : decode cX11_feed 36 = .ok (.aload_n 0, 1) := dgX11_feed_0 (36, (.aload_n 0, 1)) (List.mem_of_getElem? (i := 20) rfl)
theorem dX11_feed_37 : decode cX11_feed 37 = .ok (.iload 5, 2) := dgX11_feed_0 (37, (.iload 5, 2)) (List.mem_of_getElem? (i := 21) rfl)
theorem dX11_feed_39 : decode cX11_feed 39 = .ok (.invokevirtual 185, 3) := dgX11_feed_0 (39, (.invokevirtual 185, 3)) (List.mem_of_getElem? (i := 22) rfl)
theorem dX11_feed_42 : decode cX11_feed 42 = .ok (.aload_n 0, 1) := dgX11_feed_0 (42, (.aload_n 0, 1)) (List.mem_of_getElem? (i := 23) rfl)
theorem dX11_feed_43 : decode cX11_feed 43 = .ok (.getfield 74, 3) := dgX11_feed_0 (43, (.getfield 74, 3)) (List.mem_of_getElem? (i := 24) rfl)
theorem dX11_feed_46 : decode cX11_feed 46 = .ok (.ireturn, 1) := dgX11_feed_0 (46, (.ireturn, 1)) (List.mem_of_getElem? (i := 25) rfl)
theorem ml_X11_185 : Cond.methodLink RX11 185 yX11_write ∈ tblG := tg 617 (by decide +kernel) (by decide +kernel)
theorem im_X11_write : Cond.instanceMethod yX11_write ∈ tblG := tg 619 (by decide +kernel) (by decide +kernel)
theorem se_X11_write : Cond.selects RX11 yX11_write yX11_write ∈ tblG := tg 2 (by decide +kernel) (by decide +kernel)
theorem cd_X11_write : Cond.code yX11_write cX11_write 3 none ∈ tblG := tg 620 (by decide +kernel) (by decide +kernel)
theorem gW_X11_write : GoodIn tblG (wsG yX11_write cX11_write 3 none) := tgi cd_X11_write
theorem gV_X11_185 : GoodIn tblG (wsV RX11 185 RX11 yX11_write (wsG yX11_write cX11_write 3 none)) := tgV ml_X11_185 im_X11_write se_X11_write ini_X11 gW_X11_write
theorem hv_X11_write : yX11_write.cls = RX11 ∧ yX11_write.cls ≠ "java/lang/invoke/MethodHandle" ∧ yX11_write.cls ≠ "java/lang/invoke/VarHandle" ∧ (parseMethodDescriptor yX11_write.desc).map (fun d => d.parameters.length) = some 1 := by decide +kernel
theorem dgX11_end_0 : ∀ r ∈ ([(0, (.iload_n 1, 1)), (1, (.ifCond .lt 11, 3)), (4, (.iload_n 1, 1)), (5, (.aload_n 0, 1)), (6, (.getfield 74, 3)), (9, (.if_icmp .le 5, 3)), (12, (.iconst (-1), 1)), (13, (.ireturn, 1)), (14, (.aload_n 0, 1)), (15, (.iload_n 1, 1)), (16, (.putfield 74, 3)), (19, (.iload_n 1, 1)), (20, (.ireturn, 1))] : List (Nat × (Instr × Nat))), decode cX11_end r.1 = .ok r.2 := by decide +kernel
theorem dX11_end_0 : decode cX11_end 0 = .ok (.iload_n 1, 1) := dgX11_end_0 (0, (.iload_n 1, 1)) (List.mem_of_getElem? (i := 0) rfl)
theorem dX11_end_1 : decode cX11_end 1 = .ok (.ifCond .lt 11, 3) := dgX11_end_0 (1, (.ifCond .lt 11, 3)) (List.mem_of_getElem? (i := 1) rfl)
theorem dX11_end_4 : decode cX11_end 4 = .ok (.iload_n 1, 1) := dgX11_end_0 (4, (.iload_n 1, 1)) (List.mem_of_getElem? (i := 2) rfl)
theorem dX11_end_5 : decode cX11_end 5 = .ok (.aload_n 0, 1) := dgX11_end_0 (5, (.aload_n 0, 1)) (List.mem_of_getElem? (i := 3) rfl)
theorem dX11_end_6 : decode cX11_end 6 = .ok (.getfield 74, 3) := dgX11_end_0 (6, (.getfield 74, 3)) (List.mem_of_getElem? (i := 4) rfl)
theorem dX11_end_9 : decode cX11_end 9 = .ok (.if_icmp .le 5, 3) := dgX11_end_0 (9, (.if_icmp .le 5, 3)) (List.mem_of_getElem? (i := 5) rfl)
theorem dX11_end_12 : decode cX11_end 12 = .ok (.iconst (-1), 1) := dgX11_end_0 (12, (.iconst (-1), 1)) (List.mem_of_getElem? (i := 6) rfl)
theorem dX11_end_13 : decode cX11_end 13 = .ok (.ireturn, 1) := dgX11_end_0 (13, (.ireturn, 1)) (List.mem_of_getElem? (i := 7) rfl)
theorem dX11_end_14 : decode cX11_end 14 = .ok (.aload_n 0, 1) := dgX11_end_0 (14, (.aload_n 0, 1)) (List.mem_of_getElem? (i := 8) rfl)
theorem dX11_end_15 : decode cX11_end 15 = .ok (.iload_n 1, 1) := dgX11_end_0 (15, (.iload_n 1, 1)) (List.mem_of_getElem? (i := 9) rfl)
theorem dX11_end_16 : decode cX11_end 16 = .ok (.putfield 74, 3) := dgX11_end_0 (16, (.putfield 74, 3)) (List.mem_of_getElem? (i := 10) rfl)
theorem dX11_end_19 : decode cX11_end 19 = .ok (.iload_n 1, 1) := dgX11_end_0 (19, (.iload_n 1, 1)) (List.mem_of_getElem? (i := 11) rfl)
theorem dX11_end_20 : decode cX11_end 20 = .ok (.ireturn, 1) := dgX11_end_0 (20, (.ireturn, 1)) (List.mem_of_getElem? (i := 12) rfl)
theorem dX11_faded_0 : decode cX11_faded 0 = .ok (.aload_n 0, 1) := by decide +kernel
theorem dX11_faded_1 : decode cX11_faded 1 = .ok (.getfield 78, 3) := by decide +kernel
theorem dX11_faded_4 : decode cX11_faded 4 = .ok (.ireturn, 1) := by decide +kernel
theorem fl_X11_78 : Cond.fieldLink RX11 78 "LateGlass" "fadedStays" "I" ∈ tblG := tg 455 (by decide +kernel) (by decide +kernel)
set_option maxHeartbeats 4000000 in
set_option maxRecDepth 100000 in
theorem x_faded (l : Launch) (G : g5_G) (a_o a_h a_im a_ke a_k a_wa a_th a_ha a_wk a_r a_x a_wd a_rf : Nat) (sz : Nat) (e_tl : Int32) (e_fd : Int32) (e_fpl : Int32) (e_wn : Int32) (e_lr : Int32) (h_e_tl : 0 ≤ e_tl.toInt ∧ e_tl.toInt ≤ 400) (h_e_wn : 0 ≤ e_wn.toInt ∧ e_wn.toInt ≤ 1) : Met l yX11_faded (wsG yX11_faded cX11_faded 1 (some .int)) ({ frames := 0, cells := 0, slots := 0, locals := 0 }) (va_Pc [.ref a_o] (g5_P G [(a_o, (oc11 a_h a_im a_ke a_k a_wa a_th a_ha a_wk a_r a_x e_tl e_fd e_fpl a_wd e_wn a_rf e_lr))] sz)) (va_Qi (fun (r : Int32) (u : va_W) => ((r = e_fd) ∧ (u = [(a_o, (oc11 a_h a_im a_ke a_k a_wa a_th a_ha a_wk a_r a_x e_tl e_fd e_fpl a_wd e_wn a_rf e_lr))]))) (g5_B G (va_A [(a_o, (oc11 a_h a_im a_ke a_k a_wa a_th a_ha a_wk a_r a_x e_tl e_fd e_fpl a_wd e_wn a_rf e_lr))] sz)) (va_A [(a_o, (oc11 a_h a_im a_ke a_k a_wa a_th a_ha a_wk a_r a_x e_tl e_fd e_fpl a_wd e_wn a_rf e_lr))] sz)) 0 0 (va_A [(a_o, (oc11 a_h a_im a_ke a_k a_wa a_th a_ha a_wk a_r a_x e_tl e_fd e_fpl a_wd e_wn a_rf e_lr))] sz) := by
  refine Met.ofW (cc := cX11_faded) (maxL := 1) (ret := (some .int)) (by decide) rfl ?_
  intro p e s m args below meth c s₁ B hml hv
  obtain ⟨rfl, hsz, hP, hK, hD0, hN, hT⟩ := hv
  have hx := B.exec
  have hb := B.bytes
  have hr := B.returns
  have hts : ∀ w ∈ tblG, w.before _ s = true := fun w h => atoms_spec (ws := (wsG yX11_faded cX11_faded 1 (some .int))) B.pre w (List.mem_cons_of_mem _ h)
  have hown : s.vm.findClass RX11 = some m.cls := findClass_of_methodNamed B.named
  have hlocks := B.notSynchronized
  subst hsz
  have hD := hD0.self (sz := s.heap.size)
  generalize hAe : va_A [(a_o, (oc11 a_h a_im a_ke a_k a_wa a_th a_ha a_wk a_r a_x e_tl e_fd e_fpl a_wd e_wn a_rf e_lr))] s.heap.size = A at hD hT ⊢
  have hA : ∀ q : Nat, s.heap.size ≤ q → A q := fun q h => by rw [← hAe]; exact Or.inr h
  have hS : va_S A s.heap s.heap [] := va_S.rf
  have hP : va_P G.1 vwCl [(a_o, (oc11 a_h a_im a_ke a_k a_wa a_th a_ha a_wk a_r a_x e_tl e_fd e_fpl a_wd e_wn a_rf e_lr))] s.heap := hP
  have hl := lv_entry ([.ref a_o]) (n := 1) (Nat.le_of_ble_eq_true rfl)
  rw [lg_entry_eq]
  generalize (lg_sl ([.ref a_o]) ++ List.replicate (1 - (lg_sl ([.ref a_o])).length) Slot.unset).toArray = ls at hl ⊢
  have hl : lv_has ls 1 [(0, .ref a_o)] := hl
  refine lv_aload_n hx hb dX11_faded_0 rfl (lv_at hl 0 rfl) ?_
  refine va_get (D := G.1) (ci := 11) (v := .int e_fd) (C := RX11) (T := TX11) (N := 17) hx hb hts inG_X11 hown hK hP 0 rfl rfl 11 (by decide) (hts _ fl_X11_78) (fun _ h9 => h9) rfl dX11_faded_1 ?_
  exact W.iret (v := e_fd) hx hb hr (fun t ht hW => ⟨⟨e_fd, [(a_o, (oc11 a_h a_im a_ke a_k a_wa a_th a_ha a_wk a_r a_x e_tl e_fd e_fpl a_wd e_wn a_rf e_lr))], rfl, ⟨rfl, rfl⟩, by rw [ht]; exact hP.sub [0] rfl, hD.sub [0] (by decide) rfl⟩, hS.F ht⟩) hS.2.2 dX11_faded_4
theorem dX11_fault_0 : decode cX11_fault 0 = .ok (.aload_n 0, 1) := by decide +kernel
theorem dX11_fault_1 : decode cX11_fault 1 = .ok (.getfield 81, 3) := by decide +kernel
theorem dX11_fault_4 : decode cX11_fault 4 = .ok (.ireturn, 1) := by decide +kernel
theorem fl_X11_81 : Cond.fieldLink RX11 81 "LateGlass" "faultPlace" "I" ∈ tblG := tg 456 (by decide +kernel) (by decide +kernel)
set_option maxHeartbeats 4000000 in
set_option maxRecDepth 100000 in
theorem x_fault (l : Launch) (G : g5_G) (a_o a_h a_im a_ke a_k a_wa a_th a_ha a_wk a_r a_x a_wd a_rf : Nat) (sz : Nat) (e_tl : Int32) (e_fd : Int32) (e_fpl : Int32) (e_wn : Int32) (e_lr : Int32) (h_e_tl : 0 ≤ e_tl.toInt ∧ e_tl.toInt ≤ 400) (h_e_wn : 0 ≤ e_wn.toInt ∧ e_wn.toInt ≤ 1) : Met l yX11_fault (wsG yX11_fault cX11_fault 1 (some .int)) ({ frames := 0, cells := 0, slots := 0, locals := 0 }) (va_Pc [.ref a_o] (g5_P G [(a_o, (oc11 a_h a_im a_ke a_k a_wa a_th a_ha a_wk a_r a_x e_tl e_fd e_fpl a_wd e_wn a_rf e_lr))] sz)) (va_Qi (fun (r : Int32) (u : va_W) => ((r = e_fpl) ∧ (u = [(a_o, (oc11 a_h a_im a_ke a_k a_wa a_th a_ha a_wk a_r a_x e_tl e_fd e_fpl a_wd e_wn a_rf e_lr))]))) (g5_B G (va_A [(a_o, (oc11 a_h a_im a_ke a_k a_wa a_th a_ha a_wk a_r a_x e_tl e_fd e_fpl a_wd e_wn a_rf e_lr))] sz)) (va_A [(a_o, (oc11 a_h a_im a_ke a_k a_wa a_th a_ha a_wk a_r a_x e_tl e_fd e_fpl a_wd e_wn a_rf e_lr))] sz)) 0 0 (va_A [(a_o, (oc11 a_h a_im a_ke a_k a_wa a_th a_ha a_wk a_r a_x e_tl e_fd e_fpl a_wd e_wn a_rf e_lr))] sz) := by
  refine Met.ofW (cc := cX11_fault) (maxL := 1) (ret := (some .int)) (by decide) rfl ?_
  intro p e s m args below meth c s₁ B hml hv
  obtain ⟨rfl, hsz, hP, hK, hD0, hN, hT⟩ := hv
  have hx := B.exec
  have hb := B.bytes
  have hr := B.returns
  have hts : ∀ w ∈ tblG, w.before _ s = true := fun w h => atoms_spec (ws := (wsG yX11_fault cX11_fault 1 (some .int))) B.pre w (List.mem_cons_of_mem _ h)
  have hown : s.vm.findClass RX11 = some m.cls := findClass_of_methodNamed B.named
  have hlocks := B.notSynchronized
  subst hsz
  have hD := hD0.self (sz := s.heap.size)
  generalize hAe : va_A [(a_o, (oc11 a_h a_im a_ke a_k a_wa a_th a_ha a_wk a_r a_x e_tl e_fd e_fpl a_wd e_wn a_rf e_lr))] s.heap.size = A at hD hT ⊢
  have hA : ∀ q : Nat, s.heap.size ≤ q → A q := fun q h => by rw [← hAe]; exact Or.inr h
  have hS : va_S A s.heap s.heap [] := va_S.rf
  have hP : va_P G.1 vwCl [(a_o, (oc11 a_h a_im a_ke a_k a_wa a_th a_ha a_wk a_r a_x e_tl e_fd e_fpl a_wd e_wn a_rf e_lr))] s.heap := hP
  have hl := lv_entry ([.ref a_o]) (n := 1) (Nat.le_of_ble_eq_true rfl)
  rw [lg_entry_eq]
  generalize (lg_sl ([.ref a_o]) ++ List.replicate (1 - (lg_sl ([.ref a_o])).length) Slot.unset).toArray = ls at hl ⊢
  have hl : lv_has ls 1 [(0, .ref a_o)] := hl
  refine lv_aload_n hx hb dX11_fault_0 rfl (lv_at hl 0 rfl) ?_
  refine va_get (D := G.1) (ci := 11) (v := .int e_fpl) (C := RX11) (T := TX11) (N := 17) hx hb hts inG_X11 hown hK hP 0 rfl rfl 12 (by decide) (hts _ fl_X11_81) (fun _ h9 => h9) rfl dX11_fault_1 ?_
  exact W.iret (v := e_fpl) hx hb hr (fun t ht hW => ⟨⟨e_fpl, [(a_o, (oc11 a_h a_im a_ke a_k a_wa a_th a_ha a_wk a_r a_x e_tl e_fd e_fpl a_wd e_wn a_rf e_lr))], rfl, ⟨rfl, rfl⟩, by rw [ht]; exact hP.sub [0] rfl, hD.sub [0] (by decide) rfl⟩, hS.F ht⟩) hS.2.2 dX11_fault_4
theorem dX11_status_0 : decode cX11_status 0 = .ok (.aload_n 0, 1) := by decide +kernel
theorem dX11_status_1 : decode cX11_status 1 = .ok (.getfield 94, 3) := by decide +kernel
theorem dX11_status_4 : decode cX11_status 4 = .ok (.ireturn, 1) := by decide +kernel
set_option maxHeartbeats 4000000 in
set_option maxRecDepth 100000 in
theorem x_status (l : Launch) (G : g5_G) (a_o a_h a_im a_ke a_k a_wa a_th a_ha a_wk a_r a_x a_wd a_rf : Nat) (sz : Nat) (e_tl : Int32) (e_fd : Int32) (e_fpl : Int32) (e_wn : Int32) (e_lr : Int32) (h_e_tl : 0 ≤ e_tl.toInt ∧ e_tl.toInt ≤ 400) (h_e_wn : 0 ≤ e_wn.toInt ∧ e_wn.toInt ≤ 1) : Met l yX11_status (wsG yX11_status cX11_status 1 (some .int)) ({ frames := 0, cells := 0, slots := 0, locals := 0 }) (va_Pc [.ref a_o] (g5_P G [(a_o, (oc11 a_h a_im a_ke a_k a_wa a_th a_ha a_wk a_r a_x e_tl e_fd e_fpl a_wd e_wn a_rf e_lr))] sz)) (va_Qi (fun (r : Int32) (u : va_W) => ((r = e_lr) ∧ (u = [(a_o, (oc11 a_h a_im a_ke a_k a_wa a_th a_ha a_wk a_r a_x e_tl e_fd e_fpl a_wd e_wn a_rf e_lr))]))) (g5_B G (va_A [(a_o, (oc11 a_h a_im a_ke a_k a_wa a_th a_ha a_wk a_r a_x e_tl e_fd e_fpl a_wd e_wn a_rf e_lr))] sz)) (va_A [(a_o, (oc11 a_h a_im a_ke a_k a_wa a_th a_ha a_wk a_r a_x e_tl e_fd e_fpl a_wd e_wn a_rf e_lr))] sz)) 0 0 (va_A [(a_o, (oc11 a_h a_im a_ke a_k a_wa a_th a_ha a_wk a_r a_x e_tl e_fd e_fpl a_wd e_wn a_rf e_lr))] sz) := by
  refine Met.ofW (cc := cX11_status) (maxL := 1) (ret := (some .int)) (by decide) rfl ?_
  intro p e s m args below meth c s₁ B hml hv
  obtain ⟨rfl, hsz, hP, hK, hD0, hN, hT⟩ := hv
  have hx := B.exec
  have hb := B.bytes
  have hr := B.returns
  have hts : ∀ w ∈ tblG, w.before _ s = true := fun w h => atoms_spec (ws := (wsG yX11_status cX11_status 1 (some .int))) B.pre w (List.mem_cons_of_mem _ h)
  have hown : s.vm.findClass RX11 = some m.cls := findClass_of_methodNamed B.named
  have hlocks := B.notSynchronized
  subst hsz
  have hD := hD0.self (sz := s.heap.size)
  generalize hAe : va_A [(a_o, (oc11 a_h a_im a_ke a_k a_wa a_th a_ha a_wk a_r a_x e_tl e_fd e_fpl a_wd e_wn a_rf e_lr))] s.heap.size = A at hD hT ⊢
  have hA : ∀ q : Nat, s.heap.size ≤ q → A q := fun q h => by rw [← hAe]; exact Or.inr h
  have hS : va_S A s.heap s.heap [] := va_S.rf
  have hP : va_P G.1 vwCl [(a_o, (oc11 a_h a_im a_ke a_k a_wa a_th a_ha a_wk a_r a_x e_tl e_fd e_fpl a_wd e_wn a_rf e_lr))] s.heap := hP
  have hl := lv_entry ([.ref a_o]) (n := 1) (Nat.le_of_ble_eq_true rfl)
  rw [lg_entry_eq]
  generalize (lg_sl ([.ref a_o]) ++ List.replicate (1 - (lg_sl ([.ref a_o])).length) Slot.unset).toArray = ls at hl ⊢
  have hl : lv_has ls 1 [(0, .ref a_o)] := hl
  refine lv_aload_n hx hb dX11_status_0 rfl (lv_at hl 0 rfl) ?_
  refine va_get (D := G.1) (ci := 11) (v := .int e_lr) (C := RX11) (T := TX11) (N := 17) hx hb hts inG_X11 hown hK hP 0 rfl rfl 16 (by decide) (hts _ fl_X11_94) (fun _ h9 => h9) rfl dX11_status_1 ?_
  exact W.iret (v := e_lr) hx hb hr (fun t ht hW => ⟨⟨e_lr, [(a_o, (oc11 a_h a_im a_ke a_k a_wa a_th a_ha a_wk a_r a_x e_tl e_fd e_fpl a_wd e_wn a_rf e_lr))], rfl, ⟨rfl, rfl⟩, by rw [ht]; exact hP.sub [0] rfl, hD.sub [0] (by decide) rfl⟩, hS.F ht⟩) hS.2.2 dX11_status_4
theorem dgX11_drawn_0 : ∀ r ∈ ([(0, (.aload_n 0, 1)), (1, (.getfield 87, 3)), (4, (.ifCond .eq 19, 3)), (7, (.iload_n 1, 1)), (8, (.invokestatic 127, 3)), (11, (.ifCond .eq 12, 3)), (14, (.aload_n 0, 1)), (15, (.getfield 84, 3)), (18, (.iload_n 1, 1)), (19, (.iaload, 1)), (20, (.goto 4, 3)), (23, (.iconst (-1), 1)), (24, (.ireturn, 1))] : List (Nat × (Instr × Nat))), decode cX11_drawn r.1 = .ok r.2 := by decide +kernel
theorem dX11_drawn_0 : decode cX11_drawn 0 = .ok (.aload_n 0, 1) := dgX11_drawn_0 (0, (.aload_n 0, 1)) (List.mem_of_getElem? (i := 0) rfl)
theorem dX11_drawn_1 : decode cX11_drawn 1 = .ok (.getfield 87, 3) := dgX11_drawn_0 (1, (.getfield 87, 3)) (List.mem_of_getElem? (i := 1) rfl)
theorem dX11_drawn_4 : decode cX11_drawn 4 = .ok (.ifCond .eq 19, 3) := dgX11_drawn_0 (4, (.ifCond .eq 19, 3)) (List.mem_of_getElem? (i := 2) rfl)
theorem dX11_drawn_7 : decode cX11_drawn 7 = .ok (.iload_n 1, 1) := dgX11_drawn_0 (7, (.iload_n 1, 1)) (List.mem_of_getElem? (i := 3) rfl)
theorem dX11_drawn_8 : decode cX11_drawn 8 = .ok (.invokestatic 127, 3) := dgX11_drawn_0 (8, (.invokestatic 127, 3)) (List.mem_of_getElem? (i := 4) rfl)
theorem dX11_drawn_11 : decode cX11_drawn 11 = .ok (.ifCond .eq 12, 3) := dgX11_drawn_0 (11, (.ifCond .eq 12, 3)) (List.mem_of_getElem? (i := 5) rfl)
theorem dX11_drawn_14 : decode cX11_drawn 14 = .ok (.aload_n 0, 1) := dgX11_drawn_0 (14, (.aload_n 0, 1)) (List.mem_of_getElem? (i := 6) rfl)
theorem dX11_drawn_15 : decode cX11_drawn 15 = .ok (.getfield 84, 3) := dgX11_drawn_0 (15, (.getfield 84, 3)) (List.mem_of_getElem? (i := 7) rfl)
theorem dX11_drawn_18 : decode cX11_drawn 18 = .ok (.iload_n 1, 1) := dgX11_drawn_0 (18, (.iload_n 1, 1)) (List.mem_of_getElem? (i := 8) rfl)
theorem dX11_drawn_19 : decode cX11_drawn 19 = .ok (.iaload, 1) := dgX11_drawn_0 (19, (.iaload, 1)) (List.mem_of_getElem? (i := 9) rfl)
theorem dX11_drawn_20 : decode cX11_drawn 20 = .ok (.goto 4, 3) := dgX11_drawn_0 (20, (.goto 4, 3)) (List.mem_of_getElem? (i := 10) rfl)
theorem dX11_drawn_23 : decode cX11_drawn 23 = .ok (.iconst (-1), 1) := dgX11_drawn_0 (23, (.iconst (-1), 1)) (List.mem_of_getElem? (i := 11) rfl)
theorem dX11_drawn_24 : decode cX11_drawn 24 = .ok (.ireturn, 1) := dgX11_drawn_0 (24, (.ireturn, 1)) (List.mem_of_getElem? (i := 12) rfl)
theorem fl_X11_87 : Cond.fieldLink RX11 87 "LateGlass" "wandered" "Z" ∈ tblG := tg 458 (by decide +kernel) (by decide +kernel)
theorem fl_X11_84 : Cond.fieldLink RX11 84 "LateGlass" "wandering" "[I" ∈ tblG := tg 457 (by decide +kernel) (by decide +kernel)
theorem dgX11_force_0 : ∀ r ∈ ([(0, (.iload_n 1, 1)), (1, (.iconst (-1), 1)), (2, (.if_icmp .lt 14, 3)), (5, (.iload_n 1, 1)), (6, (.aload_n 0, 1)), (7, (.getfield 12, 3)), (10, (.getfield 192, 3)), (13, (.if_icmp .lt 10, 3)), (16, (.aload_n 0, 1)), (17, (.bipush (-2), 2)), (19, (.invokevirtual 104, 3)), (22, (.ireturn, 1)), (23, (.aload_n 0, 1)), (24, (.getfield 12, 3)), (27, (.getfield 204, 3)), (30, (.istore_n 2, 1)), (31, (.aload_n 0, 1)), (32, (.getfield 12, 3)), (35, (.iload_n 1, 1)), (36, (.putfield 204, 3)), (39, (.aload_n 0, 1)), (40, (.iload_n 2, 1)), (41, (.invokevirtual 121, 3)), (44, (.ireturn, 1))] : List (Nat × (Instr × Nat))), decode cX11_force r.1 = .ok r.2 := by decide +kernel
theorem dX11_force_0 : decode cX11_force 0 = .ok (.iload_n 1, 1) := dgX11_force_0 (0, (.iload_n 1, 1)) (List.mem_of_getElem? (i := 0) rfl)
theorem dX11_force_1 : decode cX11_force 1 = .ok (.iconst (-1), 1) := dgX11_force_0 (1, (.iconst (-1), 1)) (List.mem_of_getElem? (i := 1) rfl)
theorem dX11_force_2 : decode cX11_force 2 = .ok (.if_icmp .lt 14, 3) := dgX11_force_0 (2, (.if_icmp .lt 14, 3)) (List.mem_of_getElem? (i := 2) rfl)
theorem dX11_force_5 : decode cX11_force 5 = .ok (.iload_n 1, 1) := dgX11_force_0 (5, (.iload_n 1, 1)) (List.mem_of_getElem? (i := 3) rfl)
theorem dX11_force_6 : decode cX11_force 6 = .ok (.aload_n 0, 1) := dgX11_force_0 (6, (.aload_n 0, 1)) (List.mem_of_getElem? (i := 4) rfl)
theorem dX11_force_7 : decode cX11_force 7 = .ok (.getfield 12, 3) := dgX11_force_0 (7, (.getfield 12, 3)) (List.mem_of_getElem? (i := 5) rfl)
theorem dX11_force_10 : decode cX11_force 10 = .ok (.getfield 192, 3) := dgX11_force_0 (10, (.getfield 192, 3)) (List.mem_of_getElem? (i := 6) rfl)
theorem dX11_force_13 : decode cX11_force 13 = .ok (.if_icmp .lt 10, 3) := dgX11_force_0 (13, (.if_icmp .lt 10, 3)) (List.mem_of_getElem? (i := 7) rfl)
theorem dX11_force_16 : decode cX11_force 16 = .ok (.aload_n 0, 1) := dgX11_force_0 (16, (.aload_n 0, 1)) (List.mem_of_getElem? (i := 8) rfl)
theorem dX11_force_17 : decode cX11_force 17 = .ok (.bipush (-2), 2) := dgX11_force_0 (17, (.bipush (-2), 2)) (List.mem_of_getElem? (i := 9) rfl)
theorem dX11_force_19 : decode cX11_force 19 = .ok (.invokevirtual 104, 3) := dgX11_force_0 (19, (.invokevirtual 104, 3)) (List.mem_of_getElem? (i := 10) rfl)
theorem dX11_force_22 : decode cX11_force 22 = .ok (.ireturn, 1) := dgX11_force_0 (22, (.ireturn, 1)) (List.mem_of_getElem? (i := 11) rfl)
theorem dX11_force_23 : decode cX11_force 23 = .ok (.aload_n 0, 1) := dgX11_force_0 (23, (.aload_n 0, 1)) (List.mem_of_getElem? (i := 12) rfl)
theorem dX11_force_24 : decode cX11_force 24 = .ok (.getfield 12, 3) := dgX11_force_0 (24, (.getfield 12, 3)) (List.mem_of_getElem? (i := 13) rfl)
theorem dX11_force_27 : decode cX11_force 27 = .ok (.getfield 204, 3) := dgX11_force_0 (27, (.getfield 204, 3)) (List.mem_of_getElem? (i := 14) rfl)
theorem dX11_force_30 : decode cX11_force 30 = .ok (.istore_n 2, 1) := dgX11_force_0 (30, (.istore_n 2, 1)) (List.mem_of_getElem? (i := 15) rfl)
theorem dX11_force_31 : decode cX11_force 31 = .ok (.aload_n 0, 1) := dgX11_force_0 (31, (.aload_n 0, 1)) (List.mem_of_getElem? (i := 16) rfl)
theorem dX11_force_32 : decode cX11_force 32 = .ok (.getfield 12, 3) := dgX11_force_0 (32, (.getfield 12, 3)) (List.mem_of_getElem? (i := 17) rfl)
theorem dX11_force_35 : decode cX11_force 35 = .ok (.iload_n 1, 1) := dgX11_force_0 (35, (.iload_n 1, 1)) (List.mem_of_getElem? (i := 18) rfl)
theorem dX11_force_36 : decode cX11_force 36 = .ok (.putfield 204, 3) := dgX11_force_0 (36, (.putfield 204, 3)) (List.mem_of_getElem? (i := 19) rfl)
theorem dX11_force_39 : decode cX11_force 39 = .ok (.aload_n 0, 1) := dgX11_force_0 (39, (.aload_n 0, 1)) (List.mem_of_getElem? (i := 20) rfl)
theorem dX11_force_40 : decode cX11_force 40 = .ok (.iload_n 2, 1) := dgX11_force_0 (40, (.iload_n 2, 1)) (List.mem_of_getElem? (i := 21) rfl)
theorem dX11_force_41 : decode cX11_force 41 = .ok (.invokevirtual 121, 3) := dgX11_force_0 (41, (.invokevirtual 121, 3)) (List.mem_of_getElem? (i := 22) rfl)
theorem dX11_force_44 : decode cX11_force 44 = .ok (.ireturn, 1) := dgX11_force_0 (44, (.ireturn, 1)) (List.mem_of_getElem? (i := 23) rfl)
theorem fl_X11_192 : Cond.fieldLink RX11 192 "LateGlass$House" "lawCount" "I" ∈ tblG := tg 167 (by decide +kernel) (by decide +kernel)
theorem fl_X11_204 : Cond.fieldLink RX11 204 "LateGlass$House" "forced" "I" ∈ tblG := tg 165 (by decide +kernel) (by decide +kernel)
theorem dgX11_start_0 : ∀ r ∈ ([(0, (.iload_n 1, 1)), (1, (.invokestatic 241, 3)), (4, (.ifCond .ne 9, 3)), (7, (.aload_n 0, 1)), (8, (.iconst (-1), 1)), (9, (.invokevirtual 104, 3)), (12, (.ireturn, 1)), (13, (.aload_n 0, 1)), (14, (.getfield 12, 3)), (17, (.iload_n 1, 1)), (18, (.invokevirtual 174, 3)), (21, (.ifCond .eq 10, 3)), (24, (.aload_n 0, 1)), (25, (.bipush (-3), 2)), (27, (.invokevirtual 104, 3)), (30, (.ireturn, 1)), (31, (.aload_n 0, 1)), (32, (.getfield 12, 3)), (35, (.getfield 274, 3)), (38, (.istore_n 2, 1)), (39, (.aload_n 0, 1)), (40, (.getfield 12, 3)), (43, (.iload_n 1, 1)), (44, (.putfield 274, 3)), (47, (.aload_n 0, 1)), (48, (.iload_n 2, 1)), (49, (.invokevirtual 121, 3)), (52, (.ireturn, 1))] : List (Nat × (Instr × Nat))), decode cX11_start r.1 = .ok r.2 := by decide +kernel
theorem dX11_start_0 : decode cX11_start 0 = .ok (.iload_n 1, 1) := dgX11_start_0 (0, (.iload_n 1, 1)) (List.mem_of_getElem? (i := 0) rfl)
theorem dX11_start_1 : decode cX11_start 1 = .ok (.invokestatic 241, 3) := dgX11_start_0 (1, (.invokestatic 241, 3)) (List.mem_of_getElem? (i := 1) rfl)
theorem dX11_start_4 : decode cX11_start 4 = .ok (.ifCond .ne 9, 3) := dgX11_start_0 (4, (.ifCond .ne 9, 3)) (List.mem_of_getElem? (i := 2) rfl)
theorem dX11_start_7 : decode cX11_start 7 = .ok (.aload_n 0, 1) := dgX11_start_0 (7, (.aload_n 0, 1)) (List.mem_of_getElem? (i := 3) rfl)
theorem dX11_start_8 : decode cX11_start 8 = .ok (.iconst (-1), 1) := dgX11_start_0 (8, (.iconst (-1), 1)) (List.mem_of_getElem? (i := 4) rfl)
theorem dX11_start_9 : decode cX11_start 9 = .ok (.invokevirtual 104, 3) := dgX11_start_0 (9, (.invokevirtual 104, 3)) (List.mem_of_getElem? (i := 5) rfl)
theorem dX11_start_12 : decode cX11_start 12 = .ok (.ireturn, 1) := dgX11_start_0 (12, (.ireturn, 1)) (List.mem_of_getElem? (i := 6) rfl)
theorem dX11_start_13 : decode cX11_start 13 = .ok (.aload_n 0, 1) := dgX11_start_0 (13, (.aload_n 0, 1)) (List.mem_of_getElem? (i := 7) rfl)
theorem dX11_start_14 : decode cX11_start 14 = .ok (.getfield 12, 3) := dgX11_start_0 (14, (.getfield 12, 3)) (List.mem_of_getElem? (i := 8) rfl)
theorem dX11_start_17 : decode cX11_start 17 = .ok (.iload_n 1, 1) := dgX11_start_0 (17, (.iload_n 1, 1)) (List.mem_of_getElem? (i := 9) rfl)
theorem dX11_start_18 : decode cX11_start 18 = .ok (.invokevirtual 174, 3) := dgX11_start_0 (18, (.invokevirtual 174, 3)) (List.mem_of_getElem? (i := 10) rfl)
theorem dX11_start_21 : decode cX11_start 21 = .ok (.ifCond .eq 10, 3) := dgX11_start_0 (21, (.ifCond .eq 10, 3)) (List.mem_of_getElem? (i := 11) rfl)
theorem dX11_start_24 : decode cX11_start 24 = .ok (.aload_n 0, 1) := dgX11_start_0 (24, (.aload_n 0, 1)) (List.mem_of_getElem? (i := 12) rfl)
theorem dX11_start_25 : decode cX11_start 25 = .ok (.bipush (-3), 2) := dgX11_start_0 (25, (.bipush (-3), 2)) (List.mem_of_getElem? (i := 13) rfl)
theorem dX11_start_27 : decode cX11_start 27 = .ok (.invokevirtual 104, 3) := dgX11_start_0 (27, (.invokevirtual 104, 3)) (List.mem_of_getElem? (i := 14) rfl)
theorem dX11_start_30 : decode cX11_start 30 = .ok (.ireturn, 1) := dgX11_start_0 (30, (.ireturn, 1)) (List.mem_of_getElem? (i := 15) rfl)
theorem dX11_start_31 : decode cX11_start 31 = .ok (.aload_n 0, 1) := dgX11_start_0 (31, (.aload_n 0, 1)) (List.mem_of_getElem? (i := 16) rfl)
theorem dX11_start_32 : decode cX11_start 32 = .ok (.getfield 12, 3) := dgX11_start_0 (32, (.getfield 12, 3)) (List.mem_of_getElem? (i := 17) rfl)
theorem dX11_start_35 : decode cX11_start 35 = .ok (.getfield 274, 3) := dgX11_start_0 (35, (.getfield 274, 3)) (List.mem_of_getElem? (i := 18) rfl)
theorem dX11_start_38 : decode cX11_start 38 = .ok (.istore_n 2, 1) := dgX11_start_0 (38, (.istore_n 2, 1)) (List.mem_of_getElem? (i := 19) rfl)
theorem dX11_start_39 : decode cX11_start 39 = .ok (.aload_n 0, 1) := dgX11_start_0 (39, (.aload_n 0, 1)) (List.mem_of_getElem? (i := 20) rfl)
theorem dX11_start_40 : decode cX11_start 40 = .ok (.getfield 12, 3) := dgX11_start_0 (40, (.getfield 12, 3)) (List.mem_of_getElem? (i := 21) rfl)
theorem dX11_start_43 : decode cX11_start 43 = .ok (.iload_n 1, 1) := dgX11_start_0 (43, (.iload_n 1, 1)) (List.mem_of_getElem? (i := 22) rfl)
theorem dX11_start_44 : decode cX11_start 44 = .ok (.putfield 274, 3) := dgX11_start_0 (44, (.putfield 274, 3)) (List.mem_of_getElem? (i := 23) rfl)
theorem dX11_start_47 : decode cX11_start 47 = .ok (.aload_n 0, 1) := dgX11_start_0 (47, (.aload_n 0, 1)) (List.mem_of_getElem? (i := 24) rfl)
theorem dX11_start_48 : decode cX11_start 48 = .ok (.iload_n 2, 1) := dgX11_start_0 (48, (.iload_n 2, 1)) (List.mem_of_getElem? (i := 25) rfl)
theorem dX11_start_49 : decode cX11_start 49 = .ok (.invokevirtual 121, 3) := dgX11_start_0 (49, (.invokevirtual 121, 3)) (List.mem_of_getElem? (i := 26) rfl)
theorem dX11_start_52 : decode cX11_start 52 = .ok (.ireturn, 1) := dgX11_start_0 (52, (.ireturn, 1)) (List.mem_of_getElem? (i := 27) rfl)
theorem fl_X11_274 : Cond.fieldLink RX11 274 "LateGlass$House" "start" "I" ∈ tblG := tg 163 (by decide +kernel) (by decide +kernel)
theorem dgX11_readStay_0 : ∀ r ∈ ([(0, (.iload_n 1, 1)), (1, (.iconst 4, 1)), (2, (.iadd, 1)), (3, (.aload_n 0, 1)), (4, (.getfield 74, 3)), (7, (.if_icmp .le 5, 3)), (10, (.iconst 0, 1)), (11, (.ireturn, 1)), (12, (.aload_n 0, 1)), (13, (.getfield 70, 3)), (16, (.iload_n 1, 1)), (17, (.iaload, 1)), (18, (.istore_n 2, 1)), (19, (.aload_n 0, 1)), (20, (.getfield 70, 3)), (23, (.iload_n 1, 1)), (24, (.iconst 1, 1)), (25, (.iadd, 1)), (26, (.iaload, 1)), (27, (.istore_n 3, 1)), (28, (.aload_n 0, 1)), (29, (.getfield 70, 3)), (32, (.iload_n 1, 1)), (33, (.iconst 2, 1)), (34, (.iadd, 1)), (35, (.iaload, 1)), (36, (.istore 4, 2)), (38, (.aload_n 0, 1)), (39, (.getfield 70, 3)), (42, (.iload_n 1, 1)), (43, (.iconst 3, 1)), (44, (.iadd, 1)), (45, (.iaload, 1)), (46, (.sipush 255, 3)), (49, (.if_icmp .ne 7, 3)), (52, (.iconst (-1), 1)), (53, (.goto 11, 3)), (56, (.aload_n 0, 1)), (57, (.getfield 70, 3)), (60, (.iload_n 1, 1))] : List (Nat × (Instr × Nat))), decode cX11_readStay r.1 = .ok r.2 := by decide +kernel
theorem dX11_readStay_0 : decode cX11_readStay 0 = .ok (.iload_n 1, 1) := dgX11_readStay_0 (0, (.iload_n 1, 1)) (List.mem_of_getElem? (i := 0) rfl)
theorem dX11_readStay_1 : decode cX11_readStay 1 = .ok (.iconst 4, 1) := dgX11_readStay_0 (1, (.iconst 4, 1)) (List.mem_of_getElem? (i := 1) rfl)
theorem dX11_readStay_2 : decode cX11_readStay 2 = .ok (.iadd, 1) := dgX11_readStay_0 (2, (.iadd, 1)) (List.mem_of_getElem? (i := 2) rfl)
theorem dX11_readStay_3 : decode cX11_readStay 3 = .ok (.aload_n 0, 1) := dgX11_readStay_0 (3, (.aload_n 0, 1)) (List.mem_of_getElem? (i := 3) rfl)
theorem dX11_readStay_4 : decode cX11_readStay 4 = .ok (.getfield 74, 3) := dgX11_readStay_0 (4, (.getfield 74, 3)) (List.mem_of_getElem? (i := 4) rfl)
theorem dX11_readStay_7 : decode cX11_readStay 7 = .ok (.if_icmp .le 5, 3) := dgX11_readStay_0 (7, (.if_icmp .le 5, 3)) (List.mem_of_getElem? (i := 5) rfl)
theorem dX11_readStay_10 : decode cX11_readStay 10 = .ok (.iconst 0, 1) := dgX11_readStay_0 (10, (.iconst 0, 1)) (List.mem_of_getElem? (i := 6) rfl)
theorem dX11_readStay_11 : decode cX11_readStay 11 = .ok (.ireturn, 1) := dgX11_readStay_0 (11, (.ireturn, 1)) (List.mem_of_getElem? (i := 7) rfl)
theorem dX11_readStay_12 : decode cX11_readStay 12 = .ok (.aload_n 0, 1) := dgX11_readStay_0 (12, (.aload_n 0, 1)) (List.mem_of_getElem? (i := 8) rfl)
theorem dX11_readStay_13 : decode cX11_readStay 13 = .ok (.getfield 70, 3) := dgX11_readStay_0 (13, (.getfield 70, 3)) (List.mem_of_getElem? (i := 9) rfl)
theorem dX11_readStay_16 : decode cX11_readStay 16 = .ok (.iload_n 1, 1) := dgX11_readStay_0 (16, (.iload_n 1, 1)) (List.mem_of_getElem? (i := 10) rfl)
theorem dX11_readStay_17 : decode cX11_readStay 17 = .ok (.iaload, 1) := dgX11_readStay_0 (17, (.iaload, 1)) (List.mem_of_getElem? (i := 11) rfl)
theorem dX11_readStay_18 : decode cX11_readStay 18 = .ok (.istore_n 2, 1) := dgX11_readStay_0 (18, (.istore_n 2, 1)) (List.mem_of_getElem? (i := 12) rfl)
theorem dX11_readStay_19 : decode cX11_readStay 19 = .ok (.aload_n 0, 1) := dgX11_readStay_0 (19, (.aload_n 0, 1)) (List.mem_of_getElem? (i := 13) rfl)
theorem dX11_readStay_20 : decode cX11_readStay 20 = .ok (.getfield 70, 3) := dgX11_readStay_0 (20, (.getfield 70, 3)) (List.mem_of_getElem? (i := 14) rfl)
theorem dX11_readStay_23 : decode cX11_readStay 23 = .ok (.iload_n 1, 1) := dgX11_readStay_0 (23, (.iload_n 1, 1)) (List.mem_of_getElem? (i := 15) rfl)
theorem dX11_readStay_24 : decode cX11_readStay 24 = .ok (.iconst 1, 1) := dgX11_readStay_0 (24, (.iconst 1, 1)) (List.mem_of_getElem? (i := 16) rfl)
theorem dX11_readStay_25 : decode cX11_readStay 25 = .ok (.iadd, 1) := dgX11_readStay_0 (25, (.iadd, 1)) (List.mem_of_getElem? (i := 17) rfl)
theorem dX11_readStay_26 : decode cX11_readStay 26 = .ok (.iaload, 1) := dgX11_readStay_0 (26, (.iaload, 1)) (List.mem_of_getElem? (i := 18) rfl)
theorem dX11_readStay_27 : decode cX11_readStay 27 = .ok (.istore_n 3, 1) := dgX11_readStay_0 (27, (.istore_n 3, 1)) (List.mem_of_getElem? (i := 19) rfl)
theorem dX11_readStay_28 : decode cX11_readStay 28 = .ok (.aload_n 0, 1) := dgX11_readStay_0 (28, (.aload_n 0, 1)) (List.mem_of_getElem? (i := 20) rfl)
theorem dX11_readStay_29 : decode cX11_readStay 29 = .ok (.getfield 70, 3) := dgX11_readStay_0 (29, (.getfield 70, 3)) (List.mem_of_getElem? (i := 21) rfl)
theorem dX11_readStay_32 : decode cX11_readStay 32 = .ok (.iload_n 1, 1) := dgX11_readStay_0 (32, (.iload_n 1, 1)) (List.mem_of_getElem? (i := 22) rfl)
theorem dX11_readStay_33 : decode cX11_readStay 33 = .ok (.iconst 2, 1) := dgX11_readStay_0 (33, (.iconst 2, 1)) (List.mem_of_getElem? (i := 23) rfl)
theorem dX11_readStay_34 : decode cX11_readStay 34 = .ok (.iadd, 1) := dgX11_readStay_0 (34, (.iadd, 1)) (List.mem_of_getElem? (i := 24) rfl)
theorem dX11_readStay_35 : decode cX11_readStay 35 = .ok (.iaload, 1) := dgX11_readStay_0 (35, (.iaload, 1)) (List.mem_of_getElem? (i := 25) rfl)
theorem dX11_readStay_36 : decode cX11_readStay 36 = .ok (.istore 4, 2) := dgX11_readStay_0 (36, (.istore 4, 2)) (List.mem_of_getElem? (i := 26) rfl)
theorem dX11_readStay_38 : decode cX11_readStay 38 = .ok (.aload_n 0, 1) := dgX11_readStay_0 (38, (.aload_n 0, 1)) (List.mem_of_getElem? (i := 27) rfl)
theorem dX11_readStay_39 : decode cX11_readStay 39 = .ok (.getfield 70, 3) := dgX11_readStay_0 (39, (.getfield 70, 3)) (List.mem_of_getElem? (i := 28) rfl)
theorem dX11_readStay_42 : decode cX11_readStay 42 = .ok (.iload_n 1, 1) := dgX11_readStay_0 (42, (.iload_n 1, 1)) (List.mem_of_getElem? (i := 29) rfl)
theorem dX11_readStay_43 : decode cX11_readStay 43 = .ok (.iconst 3, 1) := dgX11_readStay_0 (43, (.iconst 3, 1)) (List.mem_of_getElem? (i := 30) rfl)
theorem dX11_readStay_44 : decode cX11_readStay 44 = .ok (.iadd, 1) := dgX11_readStay_0 (44, (.iadd, 1)) (List.mem_of_getElem? (i := 31) rfl)
theorem dX11_readStay_45 : decode cX11_readStay 45 = .ok (.iaload, 1) := dgX11_readStay_0 (45, (.iaload, 1)) (List.mem_of_getElem? (i := 32) rfl)
theorem dX11_readStay_46 : decode cX11_readStay 46 = .ok (.sipush 255, 3) := dgX11_readStay_0 (46, (.sipush 255, 3)) (List.mem_of_getElem? (i := 33) rfl)
theorem dX11_readStay_49 : decode cX11_readStay 49 = .ok (.if_icmp .ne 7, 3) := dgX11_readStay_0 (49, (.if_icmp .ne 7, 3)) (List.mem_of_getElem? (i := 34) rfl)
theorem dX11_readStay_52 : decode cX11_readStay 52 = .ok (.iconst (-1), 1) := dgX11_readStay_0 (52, (.iconst (-1), 1)) (List.mem_of_getElem? (i := 35) rfl)
theorem dX11_readStay_53 : decode cX11_readStay 53 = .ok (.goto 11, 3) := dgX11_readStay_0 (53, (.goto 11, 3)) (List.mem_of_getElem? (i := 36) rfl)
theorem dX11_readStay_56 : decode cX11_readStay 56 = .ok (.aload_n 0, 1) := dgX11_readStay_0 (56, (.aload_n 0, 1)) (List.mem_of_getElem? (i := 37) rfl)
theorem dX11_readStay_57 : decode cX11_readStay 57 = .ok (.getfield 70, 3) := dgX11_readStay_0 (57, (.getfield 70, 3)) (List.mem_of_getElem? (i := 38) rfl)
theorem dX11_readStay_60 : decode cX11_readStay 60 = .ok (.iload_n 1, 1) := dgX11_readStay_0 (60, (.iload_n 1, 1)) (List.mem_of_getElem? (i := 39) rfl)
theorem dgX11_readStay_1 : ∀ r ∈ ([(61, (.iconst 3, 1)), (62, (.iadd, 1)), (63, (.iaload, 1)), (64, (.istore 5, 2)), (66, (.aload_n 0, 1)), (67, (.getfield 12, 3)), (70, (.getfield 167, 3)), (73, (.iload_n 2, 1)), (74, (.invokevirtual 160, 3)), (77, (.ifCond .eq 26, 3)), (80, (.iload_n 3, 1)), (81, (.iload 4, 2)), (83, (.iload 5, 2)), (85, (.invokestatic 170, 3)), (88, (.ifCond .eq 15, 3)), (91, (.aload_n 0, 1)), (92, (.getfield 12, 3)), (95, (.iload 5, 2)), (97, (.invokevirtual 174, 3)), (100, (.ifCond .eq 5, 3)), (103, (.iconst 0, 1)), (104, (.ireturn, 1)), (105, (.aload_n 0, 1)), (106, (.getfield 12, 3)), (109, (.iload_n 2, 1)), (110, (.iload_n 3, 1)), (111, (.iload 4, 2)), (113, (.iload 5, 2)), (115, (.invokevirtual 177, 3)), (118, (.iconst 1, 1)), (119, (.ireturn, 1))] : List (Nat × (Instr × Nat))), decode cX11_readStay r.1 = .ok r.2 := by decide +kernel
theorem dX11_readStay_61 : decode cX11_readStay 61 = .ok (.iconst 3, 1) := dgX11_readStay_1 (61, (.iconst 3, 1)) (List.mem_of_getElem? (i := 0) rfl)
theorem dX11_readStay_62 : decode cX11_readStay 62 = .ok (.iadd, 1) := dgX11_readStay_1 (62, (.iadd, 1)) (List.mem_of_getElem? (i := 1) rfl)
theorem dX11_readStay_63 : decode cX11_readStay 63 = .ok (.iaload, 1) := dgX11_readStay_1 (63, (.iaload, 1)) (List.mem_of_getElem? (i := 2) rfl)
theorem dX11_readStay_64 : decode cX11_readStay 64 = .ok (.istore 5, 2) := dgX11_readStay_1 (64, (.istore 5, 2)) (List.mem_of_getElem? (i := 3) rfl)
theorem dX11_readStay_66 : decode cX11_readStay 66 = .ok (.aload_n 0, 1) := dgX11_readStay_1 (66, (.aload_n 0, 1)) (List.mem_of_getElem? (i := 4) rfl)
theorem dX11_readStay_67 : decode cX11_readStay 67 = .ok (.getfield 12, 3) := dgX11_readStay_1 (67, (.getfield 12, 3)) (List.mem_of_getElem? (i := 5) rfl)
theorem dX11_readStay_70 : decode cX11_readStay 70 = .ok (.getfield 167, 3) := dgX11_readStay_1 (70, (.getfield 167, 3)) (List.mem_of_getElem? (i := 6) rfl)
theorem dX11_readStay_73 : decode cX11_readStay 73 = .ok (.iload_n 2, 1) := dgX11_readStay_1 (73, (.iload_n 2, 1)) (List.mem_of_getElem? (i := 7) rfl)
theorem dX11_readStay_74 : decode cX11_readStay 74 = .ok (.invokevirtual 160, 3) := dgX11_readStay_1 (74, (.invokevirtual 160, 3)) (List.mem_of_getElem? (i := 8) rfl)
theorem dX11_readStay_77 : decode cX11_readStay 77 = .ok (.ifCond .eq 26, 3) := dgX11_readStay_1 (77, (.ifCond .eq 26, 3)) (List.mem_of_getElem? (i := 9) rfl)
theorem dX11_readStay_80 : decode cX11_readStay 80 = .ok (.iload_n 3, 1) := dgX11_readStay_1 (80, (.iload_n 3, 1)) (List.mem_of_getElem? (i := 10) rfl)
theorem dX11_readStay_81 : decode cX11_readStay 81 = .ok (.iload 4, 2) := dgX11_readStay_1 (81, (.iload 4, 2)) (List.mem_of_getElem? (i := 11) rfl)
theorem dX11_readStay_83 : decode cX11_readStay 83 = .ok (.iload 5, 2) := dgX11_readStay_1 (83, (.iload 5, 2)) (List.mem_of_getElem? (i := 12) rfl)
theorem dX11_readStay_85 : decode cX11_readStay 85 = .ok (.invokestatic 170, 3) := dgX11_readStay_1 (85, (.invokestatic 170, 3)) (List.mem_of_getElem? (i := 13) rfl)
theorem dX11_readStay_88 : decode cX11_readStay 88 = .ok (.ifCond .eq 15, 3) := dgX11_readStay_1 (88, (.ifCond .eq 15, 3)) (List.mem_of_getElem? (i := 14) rfl)
theorem dX11_readStay_91 : decode cX11_readStay 91 = .ok (.aload_n 0, 1) := dgX11_readStay_1 (91, (.aload_n 0, 1)) (List.mem_of_getElem? (i := 15) rfl)
theorem dX11_readStay_92 : decode cX11_readStay 92 = .ok (.getfield 12, 3) := dgX11_readStay_1 (92, (.getfield 12, 3)) (List.mem_of_getElem? (i := 16) rfl)
theorem dX11_readStay_95 : decode cX11_readStay 95 = .ok (.iload 5, 2) := dgX11_readStay_1 (95, (.iload 5, 2)) (List.mem_of_getElem? (i := 17) rfl)
theorem dX11_readStay_97 : decode cX11_readStay 97 = .ok (.invokevirtual 174, 3) := dgX11_readStay_1 (97, (.invokevirtual 174, 3)) (List.mem_of_getElem? (i := 18) rfl)
theorem dX11_readStay_100 : decode cX11_readStay 100 = .ok (.ifCond .eq 5, 3) := dgX11_readStay_1 (100, (.ifCond .eq 5, 3)) (List.mem_of_getElem? (i := 19) rfl)
theorem dX11_readStay_103 : decode cX11_readStay 103 = .ok (.iconst 0, 1) := dgX11_readStay_1 (103, (.iconst 0, 1)) (List.mem_of_getElem? (i := 20) rfl)
theorem dX11_readStay_104 : decode cX11_readStay 104 = .ok (.ireturn, 1) := dgX11_readStay_1 (104, (.ireturn, 1)) (List.mem_of_getElem? (i := 21) rfl)
theorem dX11_readStay_105 : decode cX11_readStay 105 = .ok (.aload_n 0, 1) := dgX11_readStay_1 (105, (.aload_n 0, 1)) (List.mem_of_getElem? (i := 22) rfl)
theorem dX11_readStay_106 : decode cX11_readStay 106 = .ok (.getfield 12, 3) := dgX11_readStay_1 (106, (.getfield 12, 3)) (List.mem_of_getElem? (i := 23) rfl)
theorem dX11_readStay_109 : decode cX11_readStay 109 = .ok (.iload_n 2, 1) := dgX11_readStay_1 (109, (.iload_n 2, 1)) (List.mem_of_getElem? (i := 24) rfl)
theorem dX11_readStay_110 : decode cX11_readStay 110 = .ok (.iload_n 3, 1) := dgX11_readStay_1 (110, (.iload_n 3, 1)) (List.mem_of_getElem? (i := 25) rfl)
theorem dX11_readStay_111 : decode cX11_readStay 111 = .ok (.iload 4, 2) := dgX11_readStay_1 (111, (.iload 4, 2)) (List.mem_of_getElem? (i := 26) rfl)
theorem dX11_readStay_113 : decode cX11_readStay 113 = .ok (.iload 5, 2) := dgX11_readStay_1 (113, (.iload 5, 2)) (List.mem_of_getElem? (i := 27) rfl)
theorem dX11_readStay_115 : decode cX11_readStay 115 = .ok (.invokevirtual 177, 3) := dgX11_readStay_1 (115, (.invokevirtual 177, 3)) (List.mem_of_getElem? (i := 28) rfl)
theorem dX11_readStay_118 : decode cX11_readStay 118 = .ok (.iconst 1, 1) := dgX11_readStay_1 (118, (.iconst 1, 1)) (List.mem_of_getElem? (i := 29) rfl)
theorem dX11_readStay_119 : decode cX11_readStay 119 = .ok (.ireturn, 1) := dgX11_readStay_1 (119, (.ireturn, 1)) (List.mem_of_getElem? (i := 30) rfl)
theorem dgX11_row_0 : ∀ r ∈ ([(0, (.aload_n 0, 1)), (1, (.getfield 74, 3)), (4, (.ifCond .ne 10, 3)), (7, (.aload_n 0, 1)), (8, (.bipush (-6), 2)), (10, (.invokevirtual 104, 3)), (13, (.ireturn, 1)), (14, (.iconst 0, 1)), (15, (.istore_n 1, 1)), (16, (.iconst 0, 1)), (17, (.istore_n 2, 1)), (18, (.iconst 0, 1)), (19, (.istore_n 3, 1)), (20, (.iload_n 3, 1)), (21, (.aload_n 0, 1)), (22, (.getfield 74, 3)), (25, (.if_icmp .ge 26, 3)), (28, (.aload_n 0, 1)), (29, (.iload_n 3, 1)), (30, (.invokevirtual 189, 3)), (33, (.ifCond .eq 9, 3)), (36, (.iinc 1 1, 3)), (39, (.goto 6, 3)), (42, (.iinc 2 1, 3)), (45, (.iinc 3 4, 3)), (48, (.goto (-28), 3)), (51, (.aload_n 0, 1)), (52, (.iload_n 2, 1)), (53, (.putfield 78, 3)), (56, (.aload_n 0, 1)), (57, (.iconst 0, 1)), (58, (.putfield 74, 3)), (61, (.aload_n 0, 1)), (62, (.iload_n 1, 1)), (63, (.invokevirtual 121, 3)), (66, (.ireturn, 1))] : List (Nat × (Instr × Nat))), decode cX11_row r.1 = .ok r.2 := by decide +kernel
theorem dX11_row_0 : decode cX11_row 0 = .ok (.aload_n 0, 1) := dgX11_row_0 (0, (.aload_n 0, 1)) (List.mem_of_getElem? (i := 0) rfl)
theorem dX11_row_1 : decode cX11_row 1 = .ok (.getfield 74, 3) := dgX11_row_0 (1, (.getfield 74, 3)) (List.mem_of_getElem? (i := 1) rfl)
theorem dX11_row_4 : decode cX11_row 4 = .ok (.ifCond .ne 10, 3) := dgX11_row_0 (4, (.ifCond .ne 10, 3)) (List.mem_of_getElem? (i := 2) rfl)
theorem dX11_row_7 : decode cX11_row 7 = .ok (.aload_n 0, 1) := dgX11_row_0 (7, (.aload_n 0, 1)) (List.mem_of_getElem? (i := 3) rfl)
theorem dX11_row_8 : decode cX11_row 8 = .ok (.bipush (-6), 2) := dgX11_row_0 (8, (.bipush (-6), 2)) (List.mem_of_getElem? (i := 4) rfl)
theorem dX11_row_10 : decode cX11_row 10 = .ok (.invokevirtual 104, 3) := dgX11_row_0 (10, (.invokevirtual 104, 3)) (List.mem_of_getElem? (i := 5) rfl)
theorem dX11_row_13 : decode cX11_row 13 = .ok (.ireturn, 1) := dgX11_row_0 (13, (.ireturn, 1)) (List.mem_of_getElem? (i := 6) rfl)
theorem dX11_row_14 : decode cX11_row 14 = .ok (.iconst 0, 1) := dgX11_row_0 (14, (.iconst 0, 1)) (List.mem_of_getElem? (i := 7) rfl)
theorem dX11_row_15 : decode cX11_row 15 = .ok (.istore_n 1, 1) := dgX11_row_0 (15, (.istore_n 1, 1)) (List.mem_of_getElem? (i := 8) rfl)
theorem dX11_row_16 : decode cX11_row 16 = .ok (.iconst 0, 1) := dgX11_row_0 (16, (.iconst 0, 1)) (List.mem_of_getElem? (i := 9) rfl)
theorem dX11_row_17 : decode cX11_row 17 = .ok (.istore_n 2, 1) := dgX11_row_0 (17, (.istore_n 2, 1)) (List.mem_of_getElem? (i := 10) rfl)
theorem dX11_row_18 : decode cX11_row 18 = .ok (.iconst 0, 1) := dgX11_row_0 (18, (.iconst 0, 1)) (List.mem_of_getElem? (i := 11) rfl)
theorem dX11_row_19 : decode cX11_row 19 = .ok (.istore_n 3, 1) := dgX11_row_0 (19, (.istore_n 3, 1)) (List.mem_of_getElem? (i := 12) rfl)
theorem dX11_row_20 : decode cX11_row 20 = .ok (.iload_n 3, 1) := dgX11_row_0 (20, (.iload_n 3, 1)) (List.mem_of_getElem? (i := 13) rfl)
theorem dX11_row_21 : decode cX11_row 21 = .ok (.aload_n 0, 1) := dgX11_row_0 (21, (.aload_n 0, 1)) (List.mem_of_getElem? (i := 14) rfl)
theorem dX11_row_22 : decode cX11_row 22 = .ok (.getfield 74, 3) := dgX11_row_0 (22, (.getfield 74, 3)) (List.mem_of_getElem? (i := 15) rfl)
theorem dX11_row_25 : decode cX11_row 25 = .ok (.if_icmp .ge 26, 3) := dgX11_row_0 (25, (.if_icmp .ge 26, 3)) (List.mem_of_getElem? (i := 16) rfl)
theorem dX11_row_28 : decode cX11_row 28 = .ok (.aload_n 0, 1) := dgX11_row_0 (28, (.aload_n 0, 1)) (List.mem_of_getElem? (i := 17) rfl)
theorem dX11_row_29 : decode cX11_row 29 = .ok (.iload_n 3, 1) := dgX11_row_0 (29, (.iload_n 3, 1)) (List.mem_of_getElem? (i := 18) rfl)
theorem dX11_row_30 : decode cX11_row 30 = .ok (.invokevirtual 189, 3) := dgX11_row_0 (30, (.invokevirtual 189, 3)) (List.mem_of_getElem? (i := 19) rfl)
theorem dX11_row_33 : decode cX11_row 33 = .ok (.ifCond .eq 9, 3) := dgX11_row_0 (33, (.ifCond .eq 9, 3)) (List.mem_of_getElem? (i := 20) rfl)
theorem dX11_row_36 : decode cX11_row 36 = .ok (.iinc 1 1, 3) := dgX11_row_0 (36, (.iinc 1 1, 3)) (List.mem_of_getElem? (i := 21) rfl)
theorem dX11_row_39 : decode cX11_row 39 = .ok (.goto 6, 3) := dgX11_row_0 (39, (.goto 6, 3)) (List.mem_of_getElem? (i := 22) rfl)
theorem dX11_row_42 : decode cX11_row 42 = .ok (.iinc 2 1, 3) := dgX11_row_0 (42, (.iinc 2 1, 3)) (List.mem_of_getElem? (i := 23) rfl)
theorem dX11_row_45 : decode cX11_row 45 = .ok (.iinc 3 4, 3) := dgX11_row_0 (45, (.iinc 3 4, 3)) (List.mem_of_getElem? (i := 24) rfl)
theorem dX11_row_48 : decode cX11_row 48 = .ok (.goto (-28), 3) := dgX11_row_0 (48, (.goto (-28), 3)) (List.mem_of_getElem? (i := 25) rfl)
theorem dX11_row_51 : decode cX11_row 51 = .ok (.aload_n 0, 1) := dgX11_row_0 (51, (.aload_n 0, 1)) (List.mem_of_getElem? (i := 26) rfl)
theorem dX11_row_52 : decode cX11_row 52 = .ok (.iload_n 2, 1) := dgX11_row_0 (52, (.iload_n 2, 1)) (List.mem_of_getElem? (i := 27) rfl)
theorem dX11_row_53 : decode cX11_row 53 = .ok (.putfield 78, 3) := dgX11_row_0 (53, (.putfield 78, 3)) (List.mem_of_getElem? (i := 28) rfl)
theorem dX11_row_56 : decode cX11_row 56 = .ok (.aload_n 0, 1) := dgX11_row_0 (56, (.aload_n 0, 1)) (List.mem_of_getElem? (i := 29) rfl)
theorem dX11_row_57 : decode cX11_row 57 = .ok (.iconst 0, 1) := dgX11_row_0 (57, (.iconst 0, 1)) (List.mem_of_getElem? (i := 30) rfl)
theorem dX11_row_58 : decode cX11_row 58 = .ok (.putfield 74, 3) := dgX11_row_0 (58, (.putfield 74, 3)) (List.mem_of_getElem? (i := 31) rfl)
theorem dX11_row_61 : decode cX11_row 61 = .ok (.aload_n 0, 1) := dgX11_row_0 (61, (.aload_n 0, 1)) (List.mem_of_getElem? (i := 32) rfl)
theorem dX11_row_62 : decode cX11_row 62 = .ok (.iload_n 1, 1) := dgX11_row_0 (62, (.iload_n 1, 1)) (List.mem_of_getElem? (i := 33) rfl)
theorem dX11_row_63 : decode cX11_row 63 = .ok (.invokevirtual 121, 3) := dgX11_row_0 (63, (.invokevirtual 121, 3)) (List.mem_of_getElem? (i := 34) rfl)
theorem dX11_row_66 : decode cX11_row 66 = .ok (.ireturn, 1) := dgX11_row_0 (66, (.ireturn, 1)) (List.mem_of_getElem? (i := 35) rfl)
theorem ml_X11_189 : Cond.methodLink RX11 189 yX11_readStay ∈ tblG := tg 629 (by decide +kernel) (by decide +kernel)
theorem im_X11_readStay : Cond.instanceMethod yX11_readStay ∈ tblG := tg 631 (by decide +kernel) (by decide +kernel)
theorem se_X11_readStay : Cond.selects RX11 yX11_readStay yX11_readStay ∈ tblG := tg 3 (by decide +kernel) (by decide +kernel)
theorem cd_X11_readStay : Cond.code yX11_readStay cX11_readStay 6 (some .boolean) ∈ tblG := tg 632 (by decide +kernel) (by decide +kernel)
theorem gW_X11_readStay : GoodIn tblG (wsG yX11_readStay cX11_readStay 6 (some .boolean)) := tgi cd_X11_readStay
theorem gV_X11_189 : GoodIn tblG (wsV RX11 189 RX11 yX11_readStay (wsG yX11_readStay cX11_readStay 6 (some .boolean))) := tgV ml_X11_189 im_X11_readStay se_X11_readStay ini_X11 gW_X11_readStay
theorem hv_X11_readStay : yX11_readStay.cls = RX11 ∧ yX11_readStay.cls ≠ "java/lang/invoke/MethodHandle" ∧ yX11_readStay.cls ≠ "java/lang/invoke/VarHandle" ∧ (parseMethodDescriptor yX11_readStay.desc).map (fun d => d.parameters.length) = some 1 := by decide +kernel
theorem dgX11_sighting_0 : ∀ r ∈ ([(0, (.iload_n 1, 1)), (1, (.iload_n 2, 1)), (2, (.iload_n 3, 1)), (3, (.invokestatic 207, 3)), (6, (.ifCond .eq 11, 3)), (9, (.iload 4, 2)), (11, (.invokestatic 101, 3)), (14, (.ifCond .ne 9, 3)), (17, (.aload_n 0, 1)), (18, (.iconst (-1), 1)), (19, (.invokevirtual 104, 3)), (22, (.ireturn, 1)), (23, (.aload_n 0, 1)), (24, (.getfield 12, 3)), (27, (.getfield 261, 3)), (30, (.invokevirtual 140, 3)), (33, (.ifCond .ne 20, 3)), (36, (.iload 4, 2)), (38, (.iconst 1, 1)), (39, (.if_icmp .ne 21, 3)), (42, (.aload_n 0, 1)), (43, (.getfield 12, 3)), (46, (.invokevirtual 264, 3)), (49, (.iconst 5, 1)), (50, (.if_icmp .lt 10, 3)), (53, (.aload_n 0, 1)), (54, (.bipush (-5), 2)), (56, (.invokevirtual 104, 3)), (59, (.ireturn, 1)), (60, (.aload_n 0, 1)), (61, (.getfield 12, 3)), (64, (.getfield 261, 3)), (67, (.iconst 0, 1)), (68, (.invokevirtual 146, 3)), (71, (.istore 5, 2)), (73, (.aload_n 0, 1)), (74, (.getfield 12, 3)), (77, (.getfield 261, 3)), (80, (.iload 5, 2)), (82, (.iload_n 1, 1))] : List (Nat × (Instr × Nat))), decode cX11_sighting r.1 = .ok r.2 := by decide +kernel
theorem dX11_sighting_0 : decode cX11_sighting 0 = .ok (.iload_n 1, 1) := dgX11_sighting_0 (0, (.iload_n 1, 1)) (List.mem_of_getElem? (i := 0) rfl)
theorem dX11_sighting_1 : decode cX11_sighting 1 = .ok (.iload_n 2, 1) := dgX11_sighting_0 (1, (.iload_n 2, 1)) (List.mem_of_getElem? (i := 1) rfl)
theorem dX11_sighting_2 : decode cX11_sighting 2 = .ok (.iload_n 3, 1) := dgX11_sighting_0 (2, (.iload_n 3, 1)) (List.mem_of_getElem? (i := 2) rfl)
theorem dX11_sighting_3 : decode cX11_sighting 3 = .ok (.invokestatic 207, 3) := dgX11_sighting_0 (3, (.invokestatic 207, 3)) (List.mem_of_getElem? (i := 3) rfl)
theorem dX11_sighting_6 : decode cX11_sighting 6 = .ok (.ifCond .eq 11, 3) := dgX11_sighting_0 (6, (.ifCond .eq 11, 3)) (List.mem_of_getElem? (i := 4) rfl)
theorem dX11_sighting_9 : decode cX11_sighting 9 = .ok (.iload 4, 2) := dgX11_sighting_0 (9, (.iload 4, 2)) (List.mem_of_getElem? (i := 5) rfl)
theorem dX11_sighting_11 : decode cX11_sighting 11 = .ok (.invokestatic 101, 3) := dgX11_sighting_0 (11, (.invokestatic 101, 3)) (List.mem_of_getElem? (i := 6) rfl)
theorem dX11_sighting_14 : decode cX11_sighting 14 = .ok (.ifCond .ne 9, 3) := dgX11_sighting_0 (14, (.ifCond .ne 9, 3)) (List.mem_of_getElem? (i := 7) rfl)
theorem dX11_sighting_17 : decode cX11_sighting 17 = .ok (.aload_n 0, 1) := dgX11_sighting_0 (17, (.aload_n 0, 1)) (List.mem_of_getElem? (i := 8) rfl)
theorem dX11_sighting_18 : decode cX11_sighting 18 = .ok (.iconst (-1), 1) := dgX11_sighting_0 (18, (.iconst (-1), 1)) (List.mem_of_getElem? (i := 9) rfl)
theorem dX11_sighting_19 : decode cX11_sighting 19 = .ok (.invokevirtual 104, 3) := dgX11_sighting_0 (19, (.invokevirtual 104, 3)) (List.mem_of_getElem? (i := 10) rfl)
theorem dX11_sighting_22 : decode cX11_sighting 22 = .ok (.ireturn, 1) := dgX11_sighting_0 (22, (.ireturn, 1)) (List.mem_of_getElem? (i := 11) rfl)
theorem dX11_sighting_23 : decode cX11_sighting 23 = .ok (.aload_n 0, 1) := dgX11_sighting_0 (23, (.aload_n 0, 1)) (List.mem_of_getElem? (i := 12) rfl)
theorem dX11_sighting_24 : decode cX11_sighting 24 = .ok (.getfield 12, 3) := dgX11_sighting_0 (24, (.getfield 12, 3)) (List.mem_of_getElem? (i := 13) rfl)
theorem dX11_sighting_27 : decode cX11_sighting 27 = .ok (.getfield 261, 3) := dgX11_sighting_0 (27, (.getfield 261, 3)) (List.mem_of_getElem? (i := 14) rfl)
theorem dX11_sighting_30 : decode cX11_sighting 30 = .ok (.invokevirtual 140, 3) := dgX11_sighting_0 (30, (.invokevirtual 140, 3)) (List.mem_of_getElem? (i := 15) rfl)
theorem dX11_sighting_33 : decode cX11_sighting 33 = .ok (.ifCond .ne 20, 3) := dgX11_sighting_0 (33, (.ifCond .ne 20, 3)) (List.mem_of_getElem? (i := 16) rfl)
theorem dX11_sighting_36 : decode cX11_sighting 36 = .ok (.iload 4, 2) := dgX11_sighting_0 (36, (.iload 4, 2)) (List.mem_of_getElem? (i := 17) rfl)
theorem dX11_sighting_38 : decode cX11_sighting 38 = .ok (.iconst 1, 1) := dgX11_sighting_0 (38, (.iconst 1, 1)) (List.mem_of_getElem? (i := 18) rfl)
theorem dX11_sighting_39 : decode cX11_sighting 39 = .ok (.if_icmp .ne 21, 3) := dgX11_sighting_0 (39, (.if_icmp .ne 21, 3)) (List.mem_of_getElem? (i := 19) rfl)
theorem dX11_sighting_42 : decode cX11_sighting 42 = .ok (.aload_n 0, 1) := dgX11_sighting_0 (42, (.aload_n 0, 1)) (List.mem_of_getElem? (i := 20) rfl)
theorem dX11_sighting_43 : decode cX11_sighting 43 = .ok (.getfield 12, 3) := dgX11_sighting_0 (43, (.getfield 12, 3)) (List.mem_of_getElem? (i := 21) rfl)
theorem dX11_sighting_46 : decode cX11_sighting 46 = .ok (.invokevirtual 264, 3) := dgX11_sighting_0 (46, (.invokevirtual 264, 3)) (List.mem_of_getElem? (i := 22) rfl)
theorem dX11_sighting_49 : decode cX11_sighting 49 = .ok (.iconst 5, 1) := dgX11_sighting_0 (49, (.iconst 5, 1)) (List.mem_of_getElem? (i := 23) rfl)
theorem dX11_sighting_50 : decode cX11_sighting 50 = .ok (.if_icmp .lt 10, 3) := dgX11_sighting_0 (50, (.if_icmp .lt 10, 3)) (List.mem_of_getElem? (i := 24) rfl)
theorem dX11_sighting_53 : decode cX11_sighting 53 = .ok (.aload_n 0, 1) := dgX11_sighting_0 (53, (.aload_n 0, 1)) (List.mem_of_getElem? (i := 25) rfl)
theorem dX11_sighting_54 : decode cX11_sighting 54 = .ok (.bipush (-5), 2) := dgX11_sighting_0 (54, (.bipush (-5), 2)) (List.mem_of_getElem? (i := 26) rfl)
theorem dX11_sighting_56 : decode cX11_sighting 56 = .ok (.invokevirtual 104, 3) := dgX11_sighting_0 (56, (.invokevirtual 104, 3)) (List.mem_of_getElem? (i := 27) rfl)
theorem dX11_sighting_59 : decode cX11_sighting 59 = .ok (.ireturn, 1) := dgX11_sighting_0 (59, (.ireturn, 1)) (List.mem_of_getElem? (i := 28) rfl)
theorem dX11_sighting_60 : decode cX11_sighting 60 = .ok (.aload_n 0, 1) := dgX11_sighting_0 (60, (.aload_n 0, 1)) (List.mem_of_getElem? (i := 29) rfl)
theorem dX11_sighting_61 : decode cX11_sighting 61 = .ok (.getfield 12, 3) := dgX11_sighting_0 (61, (.getfield 12, 3)) (List.mem_of_getElem? (i := 30) rfl)
theorem dX11_sighting_64 : decode cX11_sighting 64 = .ok (.getfield 261, 3) := dgX11_sighting_0 (64, (.getfield 261, 3)) (List.mem_of_getElem? (i := 31) rfl)
theorem dX11_sighting_67 : decode cX11_sighting 67 = .ok (.iconst 0, 1) := dgX11_sighting_0 (67, (.iconst 0, 1)) (List.mem_of_getElem? (i := 32) rfl)
theorem dX11_sighting_68 : decode cX11_sighting 68 = .ok (.invokevirtual 146, 3) := dgX11_sighting_0 (68, (.invokevirtual 146, 3)) (List.mem_of_getElem? (i := 33) rfl)
theorem dX11_sighting_71 : decode cX11_sighting 71 = .ok (.istore 5, 2) := dgX11_sighting_0 (71, (.istore 5, 2)) (List.mem_of_getElem? (i := 34) rfl)
theorem dX11_sighting_73 : decode cX11_sighting 73 = .ok (.aload_n 0, 1) := dgX11_sighting_0 (73, (.aload_n 0, 1)) (List.mem_of_getElem? (i := 35) rfl)
theorem dX11_sighting_74 : decode cX11_sighting 74 = .ok (.getfield 12, 3) := dgX11_sighting_0 (74, (.getfield 12, 3)) (List.mem_of_getElem? (i := 36) rfl)
theorem dX11_sighting_77 : decode cX11_sighting 77 = .ok (.getfield 261, 3) := dgX11_sighting_0 (77, (.getfield 261, 3)) (List.mem_of_getElem? (i := 37) rfl)
theorem dX11_sighting_80 : decode cX11_sighting 80 = .ok (.iload 5, 2) := dgX11_sighting_0 (80, (.iload 5, 2)) (List.mem_of_getElem? (i := 38) rfl)
theorem dX11_sighting_82 : decode cX11_sighting 82 = .ok (.iload_n 1, 1) := dgX11_sighting_0 (82, (.iload_n 1, 1)) (List.mem_of_getElem? (i := 39) rfl)
theorem dgX11_sighting_1 : ∀ r ∈ ([(83, (.iload_n 2, 1)), (84, (.iload_n 3, 1)), (85, (.invokevirtual 268, 3)), (88, (.aload_n 0, 1)), (89, (.getfield 12, 3)), (92, (.getfield 261, 3)), (95, (.iload 5, 2)), (97, (.iconst 3, 1)), (98, (.iload 4, 2)), (100, (.invokevirtual 149, 3)), (103, (.aload_n 0, 1)), (104, (.aload_n 0, 1)), (105, (.getfield 12, 3)), (108, (.getfield 261, 3)), (111, (.getfield 238, 3)), (114, (.invokevirtual 121, 3)), (117, (.ireturn, 1))] : List (Nat × (Instr × Nat))), decode cX11_sighting r.1 = .ok r.2 := by decide +kernel
theorem dX11_sighting_83 : decode cX11_sighting 83 = .ok (.iload_n 2, 1) := dgX11_sighting_1 (83, (.iload_n 2, 1)) (List.mem_of_getElem? (i := 0) rfl)
theorem dX11_sighting_84 : decode cX11_sighting 84 = .ok (.iload_n 3, 1) := dgX11_sighting_1 (84, (.iload_n 3, 1)) (List.mem_of_getElem? (i := 1) rfl)
theorem dX11_sighting_85 : decode cX11_sighting 85 = .ok (.invokevirtual 268, 3) := dgX11_sighting_1 (85, (.invokevirtual 268, 3)) (List.mem_of_getElem? (i := 2) rfl)
theorem dX11_sighting_88 : decode cX11_sighting 88 = .ok (.aload_n 0, 1) := dgX11_sighting_1 (88, (.aload_n 0, 1)) (List.mem_of_getElem? (i := 3) rfl)
theorem dX11_sighting_89 : decode cX11_sighting 89 = .ok (.getfield 12, 3) := dgX11_sighting_1 (89, (.getfield 12, 3)) (List.mem_of_getElem? (i := 4) rfl)
theorem dX11_sighting_92 : decode cX11_sighting 92 = .ok (.getfield 261, 3) := dgX11_sighting_1 (92, (.getfield 261, 3)) (List.mem_of_getElem? (i := 5) rfl)
theorem dX11_sighting_95 : decode cX11_sighting 95 = .ok (.iload 5, 2) := dgX11_sighting_1 (95, (.iload 5, 2)) (List.mem_of_getElem? (i := 6) rfl)
theorem dX11_sighting_97 : decode cX11_sighting 97 = .ok (.iconst 3, 1) := dgX11_sighting_1 (97, (.iconst 3, 1)) (List.mem_of_getElem? (i := 7) rfl)
theorem dX11_sighting_98 : decode cX11_sighting 98 = .ok (.iload 4, 2) := dgX11_sighting_1 (98, (.iload 4, 2)) (List.mem_of_getElem? (i := 8) rfl)
theorem dX11_sighting_100 : decode cX11_sighting 100 = .ok (.invokevirtual 149, 3) := dgX11_sighting_1 (100, (.invokevirtual 149, 3)) (List.mem_of_getElem? (i := 9) rfl)
theorem dX11_sighting_103 : decode cX11_sighting 103 = .ok (.aload_n 0, 1) := dgX11_sighting_1 (103, (.aload_n 0, 1)) (List.mem_of_getElem? (i := 10) rfl)
theorem dX11_sighting_104 : decode cX11_sighting 104 = .ok (.aload_n 0, 1) := dgX11_sighting_1 (104, (.aload_n 0, 1)) (List.mem_of_getElem? (i := 11) rfl)
theorem dX11_sighting_105 : decode cX11_sighting 105 = .ok (.getfield 12, 3) := dgX11_sighting_1 (105, (.getfield 12, 3)) (List.mem_of_getElem? (i := 12) rfl)
theorem dX11_sighting_108 : decode cX11_sighting 108 = .ok (.getfield 261, 3) := dgX11_sighting_1 (108, (.getfield 261, 3)) (List.mem_of_getElem? (i := 13) rfl)
theorem dX11_sighting_111 : decode cX11_sighting 111 = .ok (.getfield 238, 3) := dgX11_sighting_1 (111, (.getfield 238, 3)) (List.mem_of_getElem? (i := 14) rfl)
theorem dX11_sighting_114 : decode cX11_sighting 114 = .ok (.invokevirtual 121, 3) := dgX11_sighting_1 (114, (.invokevirtual 121, 3)) (List.mem_of_getElem? (i := 15) rfl)
theorem dX11_sighting_117 : decode cX11_sighting 117 = .ok (.ireturn, 1) := dgX11_sighting_1 (117, (.ireturn, 1)) (List.mem_of_getElem? (i := 16) rfl)
theorem ml_X11_207 : Cond.methodLink RX11 207 yX11_isLook ∈ tblG := tg 808 (by decide +kernel) (by decide +kernel)
theorem gS_X11_207 : GoodIn tblG (va_wsS RX11 207 yX11_isLook (wsG yX11_isLook cX11_isLook 3 (some .boolean))) := tgS ml_X11_207 st_X11_isLook ini_X11 gW_X11_isLook
theorem fl_X11_261 : Cond.fieldLink RX11 261 "LateGlass$House" "sightings" "LLateGlass$Table;" ∈ tblG := tg 180 (by decide +kernel) (by decide +kernel)
theorem ml_X11_268 : Cond.methodLink RX11 268 yX6_setLook ∈ tblG := tg 934 (by decide +kernel) (by decide +kernel)
theorem im_X6_setLook : Cond.instanceMethod yX6_setLook ∈ tblG := tg 935 (by decide +kernel) (by decide +kernel)
theorem se_X6_setLook : Cond.selects RX6 yX6_setLook yX6_setLook ∈ tblG := tg 936 (by decide +kernel) (by decide +kernel)
theorem cd_X6_setLook : Cond.code yX6_setLook cX6_setLook 5 none ∈ tblG := tg 937 (by decide +kernel) (by decide +kernel)
theorem gW_X6_setLook : GoodIn tblG (wsG yX6_setLook cX6_setLook 5 none) := tgi cd_X6_setLook
theorem gV_X11_268 : GoodIn tblG (wsV RX11 268 RX6 yX6_setLook (wsG yX6_setLook cX6_setLook 5 none)) := tgV ml_X11_268 im_X6_setLook se_X6_setLook ini_X6 gW_X6_setLook
theorem hv_X6_setLook : yX6_setLook.cls = RX6 ∧ yX6_setLook.cls ≠ "java/lang/invoke/MethodHandle" ∧ yX6_setLook.cls ≠ "java/lang/invoke/VarHandle" ∧ (parseMethodDescriptor yX6_setLook.desc).map (fun d => d.parameters.length) = some 4 := by decide +kernel
theorem fl_X11_238 : Cond.fieldLink RX11 238 "LateGlass$Table" "rows" "I" ∈ tblG := tg 142 (by decide +kernel) (by decide +kernel)
theorem ml_X11_264 : Cond.methodLink RX11 264 yX1_countSeen ∈ tblG := tg 930 (by decide +kernel) (by decide +kernel)
theorem im_X1_countSeen : Cond.instanceMethod yX1_countSeen ∈ tblG := tg 931 (by decide +kernel) (by decide +kernel)
theorem se_X1_countSeen : Cond.selects RX1 yX1_countSeen yX1_countSeen ∈ tblG := tg 932 (by decide +kernel) (by decide +kernel)
theorem cd_X1_countSeen : Cond.code yX1_countSeen cX1_countSeen 3 (some .int) ∈ tblG := tg 933 (by decide +kernel) (by decide +kernel)
theorem gW_X1_countSeen : GoodIn tblG (wsG yX1_countSeen cX1_countSeen 3 (some .int)) := tgi cd_X1_countSeen
theorem gV_X11_264 : GoodIn tblG (wsV RX11 264 RX1 yX1_countSeen (wsG yX1_countSeen cX1_countSeen 3 (some .int))) := tgV ml_X11_264 im_X1_countSeen se_X1_countSeen ini_X1 gW_X1_countSeen
theorem hv_X1_countSeen : yX1_countSeen.cls = RX1 ∧ yX1_countSeen.cls ≠ "java/lang/invoke/MethodHandle" ∧ yX1_countSeen.cls ≠ "java/lang/invoke/VarHandle" ∧ (parseMethodDescriptor yX1_countSeen.desc).map (fun d => d.parameters.length) = some 0 := by decide +kernel
theorem dgX11_drop_0 : ∀ r ∈ ([(0, (.aload_n 0, 1)), (1, (.getfield 12, 3)), (4, (.getfield 261, 3)), (7, (.iload_n 1, 1)), (8, (.invokevirtual 160, 3)), (11, (.ifCond .ne 10, 3)), (14, (.aload_n 0, 1)), (15, (.bipush (-2), 2)), (17, (.invokevirtual 104, 3)), (20, (.ireturn, 1)), (21, (.aload_n 0, 1)), (22, (.getfield 12, 3)), (25, (.getfield 261, 3)), (28, (.iload_n 1, 1)), (29, (.invokevirtual 271, 3)), (32, (.aload_n 0, 1)), (33, (.aload_n 0, 1)), (34, (.getfield 12, 3)), (37, (.getfield 261, 3)), (40, (.getfield 238, 3)), (43, (.invokevirtual 121, 3)), (46, (.ireturn, 1))] : List (Nat × (Instr × Nat))), decode cX11_drop r.1 = .ok r.2 := by decide +kernel
theorem dX11_drop_0 : decode cX11_drop 0 = .ok (.aload_n 0, 1) := dgX11_drop_0 (0, (.aload_n 0, 1)) (List.mem_of_getElem? (i := 0) rfl)
theorem dX11_drop_1 : decode cX11_drop 1 = .ok (.getfield 12, 3) := dgX11_drop_0 (1, (.getfield 12, 3)) (List.mem_of_getElem? (i := 1) rfl)
theorem dX11_drop_4 : decode cX11_drop 4 = .ok (.getfield 261, 3) := dgX11_drop_0 (4, (.getfield 261, 3)) (List.mem_of_getElem? (i := 2) rfl)
theorem dX11_drop_7 : decode cX11_drop 7 = .ok (.iload_n 1, 1) := dgX11_drop_0 (7, (.iload_n 1, 1)) (List.mem_of_getElem? (i := 3) rfl)
theorem dX11_drop_8 : decode cX11_drop 8 = .ok (.invokevirtual 160, 3) := dgX11_drop_0 (8, (.invokevirtual 160, 3)) (List.mem_of_getElem? (i := 4) rfl)
theorem dX11_drop_11 : decode cX11_drop 11 = .ok (.ifCond .ne 10, 3) := dgX11_drop_0 (11, (.ifCond .ne 10, 3)) (List.mem_of_getElem? (i := 5) rfl)
theorem dX11_drop_14 : decode cX11_drop 14 = .ok (.aload_n 0, 1) := dgX11_drop_0 (14, (.aload_n 0, 1)) (List.mem_of_getElem? (i := 6) rfl)
theorem dX11_drop_15 : decode cX11_drop 15 = .ok (.bipush (-2), 2) := dgX11_drop_0 (15, (.bipush (-2), 2)) (List.mem_of_getElem? (i := 7) rfl)
theorem dX11_drop_17 : decode cX11_drop 17 = .ok (.invokevirtual 104, 3) := dgX11_drop_0 (17, (.invokevirtual 104, 3)) (List.mem_of_getElem? (i := 8) rfl)
theorem dX11_drop_20 : decode cX11_drop 20 = .ok (.ireturn, 1) := dgX11_drop_0 (20, (.ireturn, 1)) (List.mem_of_getElem? (i := 9) rfl)
theorem dX11_drop_21 : decode cX11_drop 21 = .ok (.aload_n 0, 1) := dgX11_drop_0 (21, (.aload_n 0, 1)) (List.mem_of_getElem? (i := 10) rfl)
theorem dX11_drop_22 : decode cX11_drop 22 = .ok (.getfield 12, 3) := dgX11_drop_0 (22, (.getfield 12, 3)) (List.mem_of_getElem? (i := 11) rfl)
theorem dX11_drop_25 : decode cX11_drop 25 = .ok (.getfield 261, 3) := dgX11_drop_0 (25, (.getfield 261, 3)) (List.mem_of_getElem? (i := 12) rfl)
theorem dX11_drop_28 : decode cX11_drop 28 = .ok (.iload_n 1, 1) := dgX11_drop_0 (28, (.iload_n 1, 1)) (List.mem_of_getElem? (i := 13) rfl)
theorem dX11_drop_29 : decode cX11_drop 29 = .ok (.invokevirtual 271, 3) := dgX11_drop_0 (29, (.invokevirtual 271, 3)) (List.mem_of_getElem? (i := 14) rfl)
theorem dX11_drop_32 : decode cX11_drop 32 = .ok (.aload_n 0, 1) := dgX11_drop_0 (32, (.aload_n 0, 1)) (List.mem_of_getElem? (i := 15) rfl)
theorem dX11_drop_33 : decode cX11_drop 33 = .ok (.aload_n 0, 1) := dgX11_drop_0 (33, (.aload_n 0, 1)) (List.mem_of_getElem? (i := 16) rfl)
theorem dX11_drop_34 : decode cX11_drop 34 = .ok (.getfield 12, 3) := dgX11_drop_0 (34, (.getfield 12, 3)) (List.mem_of_getElem? (i := 17) rfl)
theorem dX11_drop_37 : decode cX11_drop 37 = .ok (.getfield 261, 3) := dgX11_drop_0 (37, (.getfield 261, 3)) (List.mem_of_getElem? (i := 18) rfl)
theorem dX11_drop_40 : decode cX11_drop 40 = .ok (.getfield 238, 3) := dgX11_drop_0 (40, (.getfield 238, 3)) (List.mem_of_getElem? (i := 19) rfl)
theorem dX11_drop_43 : decode cX11_drop 43 = .ok (.invokevirtual 121, 3) := dgX11_drop_0 (43, (.invokevirtual 121, 3)) (List.mem_of_getElem? (i := 20) rfl)
theorem dX11_drop_46 : decode cX11_drop 46 = .ok (.ireturn, 1) := dgX11_drop_0 (46, (.ireturn, 1)) (List.mem_of_getElem? (i := 21) rfl)
theorem ml_X11_271 : Cond.methodLink RX11 271 yX6_remove ∈ tblG := tg 942 (by decide +kernel) (by decide +kernel)
theorem im_X6_remove : Cond.instanceMethod yX6_remove ∈ tblG := tg 943 (by decide +kernel) (by decide +kernel)
theorem se_X6_remove : Cond.selects RX6 yX6_remove yX6_remove ∈ tblG := tg 944 (by decide +kernel) (by decide +kernel)
theorem cd_X6_remove : Cond.code yX6_remove cX6_remove 3 none ∈ tblG := tg 945 (by decide +kernel) (by decide +kernel)
theorem gW_X6_remove : GoodIn tblG (wsG yX6_remove cX6_remove 3 none) := tgi cd_X6_remove
theorem gV_X11_271 : GoodIn tblG (wsV RX11 271 RX6 yX6_remove (wsG yX6_remove cX6_remove 3 none)) := tgV ml_X11_271 im_X6_remove se_X6_remove ini_X6 gW_X6_remove
theorem hv_X6_remove : yX6_remove.cls = RX6 ∧ yX6_remove.cls ≠ "java/lang/invoke/MethodHandle" ∧ yX6_remove.cls ≠ "java/lang/invoke/VarHandle" ∧ (parseMethodDescriptor yX6_remove.desc).map (fun d => d.parameters.length) = some 1 := by decide +kernel
theorem dgX11_spot_0 : ∀ r ∈ ([(0, (.iload_n 1, 1)), (1, (.invokestatic 97, 3)), (4, (.ifCond .eq 17, 3)), (7, (.iload_n 2, 1)), (8, (.invokestatic 124, 3)), (11, (.ifCond .eq 10, 3)), (14, (.iload_n 3, 1)), (15, (.invokestatic 127, 3)), (18, (.ifCond .ne 9, 3)), (21, (.aload_n 0, 1)), (22, (.iconst (-1), 1)), (23, (.invokevirtual 104, 3)), (26, (.ireturn, 1)), (27, (.aload_n 0, 1)), (28, (.getfield 12, 3)), (31, (.iload_n 1, 1)), (32, (.invokevirtual 133, 3)), (35, (.ifCond .ne 10, 3)), (38, (.aload_n 0, 1)), (39, (.bipush (-3), 2)), (41, (.invokevirtual 104, 3)), (44, (.ireturn, 1)), (45, (.aload_n 0, 1)), (46, (.getfield 12, 3)), (49, (.getfield 306, 3)), (52, (.invokevirtual 140, 3)), (55, (.ifCond .eq 10, 3)), (58, (.aload_n 0, 1)), (59, (.bipush (-5), 2)), (61, (.invokevirtual 104, 3)), (64, (.ireturn, 1)), (65, (.aload_n 0, 1)), (66, (.getfield 12, 3)), (69, (.getfield 306, 3)), (72, (.iconst 0, 1)), (73, (.invokevirtual 146, 3)), (76, (.istore 4, 2)), (78, (.aload_n 0, 1)), (79, (.getfield 12, 3)), (82, (.getfield 306, 3))] : List (Nat × (Instr × Nat))), decode cX11_spot r.1 = .ok r.2 := by decide +kernel
theorem dX11_spot_0 : decode cX11_spot 0 = .ok (.iload_n 1, 1) := dgX11_spot_0 (0, (.iload_n 1, 1)) (List.mem_of_getElem? (i := 0) rfl)
theorem dX11_spot_1 : decode cX11_spot 1 = .ok (.invokestatic 97, 3) := dgX11_spot_0 (1, (.invokestatic 97, 3)) (List.mem_of_getElem? (i := 1) rfl)
theorem dX11_spot_4 : decode cX11_spot 4 = .ok (.ifCond .eq 17, 3) := dgX11_spot_0 (4, (.ifCond .eq 17, 3)) (List.mem_of_getElem? (i := 2) rfl)
theorem dX11_spot_7 : decode cX11_spot 7 = .ok (.iload_n 2, 1) := dgX11_spot_0 (7, (.iload_n 2, 1)) (List.mem_of_getElem? (i := 3) rfl)
theorem dX11_spot_8 : decode cX11_spot 8 = .ok (.invokestatic 124, 3) := dgX11_spot_0 (8, (.invokestatic 124, 3)) (List.mem_of_getElem? (i := 4) rfl)
theorem dX11_spot_11 : decode cX11_spot 11 = .ok (.ifCond .eq 10, 3) := dgX11_spot_0 (11, (.ifCond .eq 10, 3)) (List.mem_of_getElem? (i := 5) rfl)
theorem dX11_spot_14 : decode cX11_spot 14 = .ok (.iload_n 3, 1) := dgX11_spot_0 (14, (.iload_n 3, 1)) (List.mem_of_getElem? (i := 6) rfl)
theorem dX11_spot_15 : decode cX11_spot 15 = .ok (.invokestatic 127, 3) := dgX11_spot_0 (15, (.invokestatic 127, 3)) (List.mem_of_getElem? (i := 7) rfl)
theorem dX11_spot_18 : decode cX11_spot 18 = .ok (.ifCond .ne 9, 3) := dgX11_spot_0 (18, (.ifCond .ne 9, 3)) (List.mem_of_getElem? (i := 8) rfl)
theorem dX11_spot_21 : decode cX11_spot 21 = .ok (.aload_n 0, 1) := dgX11_spot_0 (21, (.aload_n 0, 1)) (List.mem_of_getElem? (i := 9) rfl)
theorem dX11_spot_22 : decode cX11_spot 22 = .ok (.iconst (-1), 1) := dgX11_spot_0 (22, (.iconst (-1), 1)) (List.mem_of_getElem? (i := 10) rfl)
theorem dX11_spot_23 : decode cX11_spot 23 = .ok (.invokevirtual 104, 3) := dgX11_spot_0 (23, (.invokevirtual 104, 3)) (List.mem_of_getElem? (i := 11) rfl)
theorem dX11_spot_26 : decode cX11_spot 26 = .ok (.ireturn, 1) := dgX11_spot_0 (26, (.ireturn, 1)) (List.mem_of_getElem? (i := 12) rfl)
theorem dX11_spot_27 : decode cX11_spot 27 = .ok (.aload_n 0, 1) := dgX11_spot_0 (27, (.aload_n 0, 1)) (List.mem_of_getElem? (i := 13) rfl)
theorem dX11_spot_28 : decode cX11_spot 28 = .ok (.getfield 12, 3) := dgX11_spot_0 (28, (.getfield 12, 3)) (List.mem_of_getElem? (i := 14) rfl)
theorem dX11_spot_31 : decode cX11_spot 31 = .ok (.iload_n 1, 1) := dgX11_spot_0 (31, (.iload_n 1, 1)) (List.mem_of_getElem? (i := 15) rfl)
theorem dX11_spot_32 : decode cX11_spot 32 = .ok (.invokevirtual 133, 3) := dgX11_spot_0 (32, (.invokevirtual 133, 3)) (List.mem_of_getElem? (i := 16) rfl)
theorem dX11_spot_35 : decode cX11_spot 35 = .ok (.ifCond .ne 10, 3) := dgX11_spot_0 (35, (.ifCond .ne 10, 3)) (List.mem_of_getElem? (i := 17) rfl)
theorem dX11_spot_38 : decode cX11_spot 38 = .ok (.aload_n 0, 1) := dgX11_spot_0 (38, (.aload_n 0, 1)) (List.mem_of_getElem? (i := 18) rfl)
theorem dX11_spot_39 : decode cX11_spot 39 = .ok (.bipush (-3), 2) := dgX11_spot_0 (39, (.bipush (-3), 2)) (List.mem_of_getElem? (i := 19) rfl)
theorem dX11_spot_41 : decode cX11_spot 41 = .ok (.invokevirtual 104, 3) := dgX11_spot_0 (41, (.invokevirtual 104, 3)) (List.mem_of_getElem? (i := 20) rfl)
theorem dX11_spot_44 : decode cX11_spot 44 = .ok (.ireturn, 1) := dgX11_spot_0 (44, (.ireturn, 1)) (List.mem_of_getElem? (i := 21) rfl)
theorem dX11_spot_45 : decode cX11_spot 45 = .ok (.aload_n 0, 1) := dgX11_spot_0 (45, (.aload_n 0, 1)) (List.mem_of_getElem? (i := 22) rfl)
theorem dX11_spot_46 : decode cX11_spot 46 = .ok (.getfield 12, 3) := dgX11_spot_0 (46, (.getfield 12, 3)) (List.mem_of_getElem? (i := 23) rfl)
theorem dX11_spot_49 : decode cX11_spot 49 = .ok (.getfield 306, 3) := dgX11_spot_0 (49, (.getfield 306, 3)) (List.mem_of_getElem? (i := 24) rfl)
theorem dX11_spot_52 : decode cX11_spot 52 = .ok (.invokevirtual 140, 3) := dgX11_spot_0 (52, (.invokevirtual 140, 3)) (List.mem_of_getElem? (i := 25) rfl)
theorem dX11_spot_55 : decode cX11_spot 55 = .ok (.ifCond .eq 10, 3) := dgX11_spot_0 (55, (.ifCond .eq 10, 3)) (List.mem_of_getElem? (i := 26) rfl)
theorem dX11_spot_58 : decode cX11_spot 58 = .ok (.aload_n 0, 1) := dgX11_spot_0 (58, (.aload_n 0, 1)) (List.mem_of_getElem? (i := 27) rfl)
theorem dX11_spot_59 : decode cX11_spot 59 = .ok (.bipush (-5), 2) := dgX11_spot_0 (59, (.bipush (-5), 2)) (List.mem_of_getElem? (i := 28) rfl)
theorem dX11_spot_61 : decode cX11_spot 61 = .ok (.invokevirtual 104, 3) := dgX11_spot_0 (61, (.invokevirtual 104, 3)) (List.mem_of_getElem? (i := 29) rfl)
theorem dX11_spot_64 : decode cX11_spot 64 = .ok (.ireturn, 1) := dgX11_spot_0 (64, (.ireturn, 1)) (List.mem_of_getElem? (i := 30) rfl)
theorem dX11_spot_65 : decode cX11_spot 65 = .ok (.aload_n 0, 1) := dgX11_spot_0 (65, (.aload_n 0, 1)) (List.mem_of_getElem? (i := 31) rfl)
theorem dX11_spot_66 : decode cX11_spot 66 = .ok (.getfield 12, 3) := dgX11_spot_0 (66, (.getfield 12, 3)) (List.mem_of_getElem? (i := 32) rfl)
theorem dX11_spot_69 : decode cX11_spot 69 = .ok (.getfield 306, 3) := dgX11_spot_0 (69, (.getfield 306, 3)) (List.mem_of_getElem? (i := 33) rfl)
theorem dX11_spot_72 : decode cX11_spot 72 = .ok (.iconst 0, 1) := dgX11_spot_0 (72, (.iconst 0, 1)) (List.mem_of_getElem? (i := 34) rfl)
theorem dX11_spot_73 : decode cX11_spot 73 = .ok (.invokevirtual 146, 3) := dgX11_spot_0 (73, (.invokevirtual 146, 3)) (List.mem_of_getElem? (i := 35) rfl)
theorem dX11_spot_76 : decode cX11_spot 76 = .ok (.istore 4, 2) := dgX11_spot_0 (76, (.istore 4, 2)) (List.mem_of_getElem? (i := 36) rfl)
theorem dX11_spot_78 : decode cX11_spot 78 = .ok (.aload_n 0, 1) := dgX11_spot_0 (78, (.aload_n 0, 1)) (List.mem_of_getElem? (i := 37) rfl)
theorem dX11_spot_79 : decode cX11_spot 79 = .ok (.getfield 12, 3) := dgX11_spot_0 (79, (.getfield 12, 3)) (List.mem_of_getElem? (i := 38) rfl)
theorem dX11_spot_82 : decode cX11_spot 82 = .ok (.getfield 306, 3) := dgX11_spot_0 (82, (.getfield 306, 3)) (List.mem_of_getElem? (i := 39) rfl)
theorem dgX11_spot_1 : ∀ r ∈ ([(85, (.iload 4, 2)), (87, (.iconst 0, 1)), (88, (.iload_n 1, 1)), (89, (.invokevirtual 149, 3)), (92, (.aload_n 0, 1)), (93, (.getfield 12, 3)), (96, (.getfield 306, 3)), (99, (.iload 4, 2)), (101, (.iconst 1, 1)), (102, (.iload_n 2, 1)), (103, (.invokevirtual 149, 3)), (106, (.aload_n 0, 1)), (107, (.getfield 12, 3)), (110, (.getfield 306, 3)), (113, (.iload 4, 2)), (115, (.iconst 2, 1)), (116, (.iload_n 3, 1)), (117, (.invokevirtual 149, 3)), (120, (.aload_n 0, 1)), (121, (.iload 4, 2)), (123, (.invokevirtual 121, 3)), (126, (.ireturn, 1))] : List (Nat × (Instr × Nat))), decode cX11_spot r.1 = .ok r.2 := by decide +kernel
theorem dX11_spot_85 : decode cX11_spot 85 = .ok (.iload 4, 2) := dgX11_spot_1 (85, (.iload 4, 2)) (List.mem_of_getElem? (i := 0) rfl)
theorem dX11_spot_87 : decode cX11_spot 87 = .ok (.iconst 0, 1) := dgX11_spot_1 (87, (.iconst 0, 1)) (List.mem_of_getElem? (i := 1) rfl)
theorem dX11_spot_88 : decode cX11_spot 88 = .ok (.iload_n 1, 1) := dgX11_spot_1 (88, (.iload_n 1, 1)) (List.mem_of_getElem? (i := 2) rfl)
theorem dX11_spot_89 : decode cX11_spot 89 = .ok (.invokevirtual 149, 3) := dgX11_spot_1 (89, (.invokevirtual 149, 3)) (List.mem_of_getElem? (i := 3) rfl)
theorem dX11_spot_92 : decode cX11_spot 92 = .ok (.aload_n 0, 1) := dgX11_spot_1 (92, (.aload_n 0, 1)) (List.mem_of_getElem? (i := 4) rfl)
theorem dX11_spot_93 : decode cX11_spot 93 = .ok (.getfield 12, 3) := dgX11_spot_1 (93, (.getfield 12, 3)) (List.mem_of_getElem? (i := 5) rfl)
theorem dX11_spot_96 : decode cX11_spot 96 = .ok (.getfield 306, 3) := dgX11_spot_1 (96, (.getfield 306, 3)) (List.mem_of_getElem? (i := 6) rfl)
theorem dX11_spot_99 : decode cX11_spot 99 = .ok (.iload 4, 2) := dgX11_spot_1 (99, (.iload 4, 2)) (List.mem_of_getElem? (i := 7) rfl)
theorem dX11_spot_101 : decode cX11_spot 101 = .ok (.iconst 1, 1) := dgX11_spot_1 (101, (.iconst 1, 1)) (List.mem_of_getElem? (i := 8) rfl)
theorem dX11_spot_102 : decode cX11_spot 102 = .ok (.iload_n 2, 1) := dgX11_spot_1 (102, (.iload_n 2, 1)) (List.mem_of_getElem? (i := 9) rfl)
theorem dX11_spot_103 : decode cX11_spot 103 = .ok (.invokevirtual 149, 3) := dgX11_spot_1 (103, (.invokevirtual 149, 3)) (List.mem_of_getElem? (i := 10) rfl)
theorem dX11_spot_106 : decode cX11_spot 106 = .ok (.aload_n 0, 1) := dgX11_spot_1 (106, (.aload_n 0, 1)) (List.mem_of_getElem? (i := 11) rfl)
theorem dX11_spot_107 : decode cX11_spot 107 = .ok (.getfield 12, 3) := dgX11_spot_1 (107, (.getfield 12, 3)) (List.mem_of_getElem? (i := 12) rfl)
theorem dX11_spot_110 : decode cX11_spot 110 = .ok (.getfield 306, 3) := dgX11_spot_1 (110, (.getfield 306, 3)) (List.mem_of_getElem? (i := 13) rfl)
theorem dX11_spot_113 : decode cX11_spot 113 = .ok (.iload 4, 2) := dgX11_spot_1 (113, (.iload 4, 2)) (List.mem_of_getElem? (i := 14) rfl)
theorem dX11_spot_115 : decode cX11_spot 115 = .ok (.iconst 2, 1) := dgX11_spot_1 (115, (.iconst 2, 1)) (List.mem_of_getElem? (i := 15) rfl)
theorem dX11_spot_116 : decode cX11_spot 116 = .ok (.iload_n 3, 1) := dgX11_spot_1 (116, (.iload_n 3, 1)) (List.mem_of_getElem? (i := 16) rfl)
theorem dX11_spot_117 : decode cX11_spot 117 = .ok (.invokevirtual 149, 3) := dgX11_spot_1 (117, (.invokevirtual 149, 3)) (List.mem_of_getElem? (i := 17) rfl)
theorem dX11_spot_120 : decode cX11_spot 120 = .ok (.aload_n 0, 1) := dgX11_spot_1 (120, (.aload_n 0, 1)) (List.mem_of_getElem? (i := 18) rfl)
theorem dX11_spot_121 : decode cX11_spot 121 = .ok (.iload 4, 2) := dgX11_spot_1 (121, (.iload 4, 2)) (List.mem_of_getElem? (i := 19) rfl)
theorem dX11_spot_123 : decode cX11_spot 123 = .ok (.invokevirtual 121, 3) := dgX11_spot_1 (123, (.invokevirtual 121, 3)) (List.mem_of_getElem? (i := 20) rfl)
theorem dX11_spot_126 : decode cX11_spot 126 = .ok (.ireturn, 1) := dgX11_spot_1 (126, (.ireturn, 1)) (List.mem_of_getElem? (i := 21) rfl)
theorem fl_X11_306 : Cond.fieldLink RX11 306 "LateGlass$House" "spots" "LLateGlass$Table;" ∈ tblG := tg 184 (by decide +kernel) (by decide +kernel)
