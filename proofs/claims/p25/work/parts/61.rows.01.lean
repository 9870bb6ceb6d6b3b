theorem dgL_law_16 : ∀ r ∈ ([(976, (.aload_n 0, 1)), (977, (.iload_n 3, 1)), (978, (.iconst 1, 1)), (979, (.iadd, 1)), (980, (.iaload, 1)), (981, (.aload_n 0, 1)), (982, (.iload_n 3, 1)), (983, (.iconst 2, 1)), (984, (.iadd, 1)), (985, (.iaload, 1)), (986, (.aload_n 0, 1)), (987, (.iload_n 3, 1)), (988, (.iconst 3, 1)), (989, (.iadd, 1)), (990, (.iaload, 1)), (991, (.aload_n 0, 1)), (992, (.iload_n 3, 1)), (993, (.iconst 4, 1)), (994, (.iadd, 1)), (995, (.iaload, 1)), (996, (.invokevirtual 110, 3)), (999, (.pop, 1)), (1000, (.goto 648, 3)), (1003, (.aload_n 1, 1)), (1004, (.aload_n 0, 1)), (1005, (.iload_n 3, 1)), (1006, (.iconst 1, 1)), (1007, (.iadd, 1)), (1008, (.iaload, 1)), (1009, (.invokevirtual 111, 3)), (1012, (.aload_n 2, 1)), (1013, (.aload_n 0, 1)), (1014, (.iload_n 3, 1)), (1015, (.iconst 1, 1)), (1016, (.iadd, 1)), (1017, (.iaload, 1)), (1018, (.invokevirtual 114, 3)), (1021, (.if_icmp .eq 627, 3)), (1024, (.iconst 0, 1)), (1025, (.ireturn, 1))] : List (Nat × (Instr × Nat))), decode cL_law r.1 = .ok r.2 := by decide +kernel
theorem dL_law_976 : decode cL_law 976 = .ok (.aload_n 0, 1) := dgL_law_16 (976, (.aload_n 0, 1)) (List.mem_of_getElem? (i := 0) rfl)
theorem dL_law_977 : decode cL_law 977 = .ok (.iload_n 3, 1) := dgL_law_16 (977, (.iload_n 3, 1)) (List.mem_of_getElem? (i := 1) rfl)
theorem dL_law_978 : decode cL_law 978 = .ok (.iconst 1, 1) := dgL_law_16 (978, (.iconst 1, 1)) (List.mem_of_getElem? (i := 2) rfl)
theorem dL_law_979 : decode cL_law 979 = .ok (.iadd, 1) := dgL_law_16 (979, (.iadd, 1)) (List.mem_of_getElem? (i := 3) rfl)
theorem dL_law_980 : decode cL_law 980 = .ok (.iaload, 1) := dgL_law_16 (980, (.iaload, 1)) (List.mem_of_getElem? (i := 4) rfl)
theorem dL_law_981 : decode cL_law 981 = .ok (.aload_n 0, 1) := dgL_law_16 (981, (.aload_n 0, 1)) (List.mem_of_getElem? (i := 5) rfl)
theorem dL_law_982 : decode cL_law 982 = .ok (.iload_n 3, 1) := dgL_law_16 (982, (.iload_n 3, 1)) (List.mem_of_getElem? (i := 6) rfl)
theorem dL_law_983 : decode cL_law 983 = .ok (.iconst 2, 1) := dgL_law_16 (983, (.iconst 2, 1)) (List.mem_of_getElem? (i := 7) rfl)
theorem dL_law_984 : decode cL_law 984 = .ok (.iadd, 1) := dgL_law_16 (984, (.iadd, 1)) (List.mem_of_getElem? (i := 8) rfl)
theorem dL_law_985 : decode cL_law 985 = .ok (.iaload, 1) := dgL_law_16 (985, (.iaload, 1)) (List.mem_of_getElem? (i := 9) rfl)
theorem dL_law_986 : decode cL_law 986 = .ok (.aload_n 0, 1) := dgL_law_16 (986, (.aload_n 0, 1)) (List.mem_of_getElem? (i := 10) rfl)
theorem dL_law_987 : decode cL_law 987 = .ok (.iload_n 3, 1) := dgL_law_16 (987, (.iload_n 3, 1)) (List.mem_of_getElem? (i := 11) rfl)
theorem dL_law_988 : decode cL_law 988 = .ok (.iconst 3, 1) := dgL_law_16 (988, (.iconst 3, 1)) (List.mem_of_getElem? (i := 12) rfl)
theorem dL_law_989 : decode cL_law 989 = .ok (.iadd, 1) := dgL_law_16 (989, (.iadd, 1)) (List.mem_of_getElem? (i := 13) rfl)
theorem dL_law_990 : decode cL_law 990 = .ok (.iaload, 1) := dgL_law_16 (990, (.iaload, 1)) (List.mem_of_getElem? (i := 14) rfl)
theorem dL_law_991 : decode cL_law 991 = .ok (.aload_n 0, 1) := dgL_law_16 (991, (.aload_n 0, 1)) (List.mem_of_getElem? (i := 15) rfl)
theorem dL_law_992 : decode cL_law 992 = .ok (.iload_n 3, 1) := dgL_law_16 (992, (.iload_n 3, 1)) (List.mem_of_getElem? (i := 16) rfl)
theorem dL_law_993 : decode cL_law 993 = .ok (.iconst 4, 1) := dgL_law_16 (993, (.iconst 4, 1)) (List.mem_of_getElem? (i := 17) rfl)
theorem dL_law_994 : decode cL_law 994 = .ok (.iadd, 1) := dgL_law_16 (994, (.iadd, 1)) (List.mem_of_getElem? (i := 18) rfl)
theorem dL_law_995 : decode cL_law 995 = .ok (.iaload, 1) := dgL_law_16 (995, (.iaload, 1)) (List.mem_of_getElem? (i := 19) rfl)
theorem dL_law_996 : decode cL_law 996 = .ok (.invokevirtual 110, 3) := dgL_law_16 (996, (.invokevirtual 110, 3)) (List.mem_of_getElem? (i := 20) rfl)
theorem dL_law_999 : decode cL_law 999 = .ok (.pop, 1) := dgL_law_16 (999, (.pop, 1)) (List.mem_of_getElem? (i := 21) rfl)
theorem dL_law_1000 : decode cL_law 1000 = .ok (.goto 648, 3) := dgL_law_16 (1000, (.goto 648, 3)) (List.mem_of_getElem? (i := 22) rfl)
theorem dL_law_1003 : decode cL_law 1003 = .ok (.aload_n 1, 1) := dgL_law_16 (1003, (.aload_n 1, 1)) (List.mem_of_getElem? (i := 23) rfl)
theorem dL_law_1004 : decode cL_law 1004 = .ok (.aload_n 0, 1) := dgL_law_16 (1004, (.aload_n 0, 1)) (List.mem_of_getElem? (i := 24) rfl)
theorem dL_law_1005 : decode cL_law 1005 = .ok (.iload_n 3, 1) := dgL_law_16 (1005, (.iload_n 3, 1)) (List.mem_of_getElem? (i := 25) rfl)
theorem dL_law_1006 : decode cL_law 1006 = .ok (.iconst 1, 1) := dgL_law_16 (1006, (.iconst 1, 1)) (List.mem_of_getElem? (i := 26) rfl)
theorem dL_law_1007 : decode cL_law 1007 = .ok (.iadd, 1) := dgL_law_16 (1007, (.iadd, 1)) (List.mem_of_getElem? (i := 27) rfl)
theorem dL_law_1008 : decode cL_law 1008 = .ok (.iaload, 1) := dgL_law_16 (1008, (.iaload, 1)) (List.mem_of_getElem? (i := 28) rfl)
theorem dL_law_1009 : decode cL_law 1009 = .ok (.invokevirtual 111, 3) := dgL_law_16 (1009, (.invokevirtual 111, 3)) (List.mem_of_getElem? (i := 29) rfl)
theorem dL_law_1012 : decode cL_law 1012 = .ok (.aload_n 2, 1) := dgL_law_16 (1012, (.aload_n 2, 1)) (List.mem_of_getElem? (i := 30) rfl)
theorem dL_law_1013 : decode cL_law 1013 = .ok (.aload_n 0, 1) := dgL_law_16 (1013, (.aload_n 0, 1)) (List.mem_of_getElem? (i := 31) rfl)
theorem dL_law_1014 : decode cL_law 1014 = .ok (.iload_n 3, 1) := dgL_law_16 (1014, (.iload_n 3, 1)) (List.mem_of_getElem? (i := 32) rfl)
theorem dL_law_1015 : decode cL_law 1015 = .ok (.iconst 1, 1) := dgL_law_16 (1015, (.iconst 1, 1)) (List.mem_of_getElem? (i := 33) rfl)
theorem dL_law_1016 : decode cL_law 1016 = .ok (.iadd, 1) := dgL_law_16 (1016, (.iadd, 1)) (List.mem_of_getElem? (i := 34) rfl)
theorem dL_law_1017 : decode cL_law 1017 = .ok (.iaload, 1) := dgL_law_16 (1017, (.iaload, 1)) (List.mem_of_getElem? (i := 35) rfl)
theorem dL_law_1018 : decode cL_law 1018 = .ok (.invokevirtual 114, 3) := dgL_law_16 (1018, (.invokevirtual 114, 3)) (List.mem_of_getElem? (i := 36) rfl)
theorem dL_law_1021 : decode cL_law 1021 = .ok (.if_icmp .eq 627, 3) := dgL_law_16 (1021, (.if_icmp .eq 627, 3)) (List.mem_of_getElem? (i := 37) rfl)
theorem dL_law_1024 : decode cL_law 1024 = .ok (.iconst 0, 1) := dgL_law_16 (1024, (.iconst 0, 1)) (List.mem_of_getElem? (i := 38) rfl)
theorem dL_law_1025 : decode cL_law 1025 = .ok (.ireturn, 1) := dgL_law_16 (1025, (.ireturn, 1)) (List.mem_of_getElem? (i := 39) rfl)
theorem dgL_law_17 : ∀ r ∈ ([(1026, (.aload_n 1, 1)), (1027, (.aload_n 0, 1)), (1028, (.iload_n 3, 1)), (1029, (.iconst 1, 1)), (1030, (.iadd, 1)), (1031, (.iaload, 1)), (1032, (.invokevirtual 115, 3)), (1035, (.pop, 1)), (1036, (.aload_n 2, 1)), (1037, (.aload_n 0, 1)), (1038, (.iload_n 3, 1)), (1039, (.iconst 1, 1)), (1040, (.iadd, 1)), (1041, (.iaload, 1)), (1042, (.invokevirtual 118, 3)), (1045, (.pop, 1)), (1046, (.goto 602, 3)), (1049, (.aload_n 1, 1)), (1050, (.invokevirtual 119, 3)), (1053, (.pop2, 1)), (1054, (.aload_n 2, 1)), (1055, (.invokevirtual 123, 3)), (1058, (.pop2, 1)), (1059, (.goto 589, 3)), (1062, (.aload_n 1, 1)), (1063, (.aload_n 0, 1)), (1064, (.iload_n 3, 1)), (1065, (.iconst 1, 1)), (1066, (.iadd, 1)), (1067, (.iaload, 1)), (1068, (.aload_n 0, 1)), (1069, (.iload_n 3, 1)), (1070, (.iconst 2, 1)), (1071, (.iadd, 1)), (1072, (.iaload, 1)), (1073, (.invokevirtual 124, 3)), (1076, (.pop2, 1)), (1077, (.aload_n 2, 1)), (1078, (.aload_n 0, 1)), (1079, (.iload_n 3, 1))] : List (Nat × (Instr × Nat))), decode cL_law r.1 = .ok r.2 := by decide +kernel
theorem dL_law_1026 : decode cL_law 1026 = .ok (.aload_n 1, 1) := dgL_law_17 (1026, (.aload_n 1, 1)) (List.mem_of_getElem? (i := 0) rfl)
theorem dL_law_1027 : decode cL_law 1027 = .ok (.aload_n 0, 1) := dgL_law_17 (1027, (.aload_n 0, 1)) (List.mem_of_getElem? (i := 1) rfl)
theorem dL_law_1028 : decode cL_law 1028 = .ok (.iload_n 3, 1) := dgL_law_17 (1028, (.iload_n 3, 1)) (List.mem_of_getElem? (i := 2) rfl)
theorem dL_law_1029 : decode cL_law 1029 = .ok (.iconst 1, 1) := dgL_law_17 (1029, (.iconst 1, 1)) (List.mem_of_getElem? (i := 3) rfl)
theorem dL_law_1030 : decode cL_law 1030 = .ok (.iadd, 1) := dgL_law_17 (1030, (.iadd, 1)) (List.mem_of_getElem? (i := 4) rfl)
theorem dL_law_1031 : decode cL_law 1031 = .ok (.iaload, 1) := dgL_law_17 (1031, (.iaload, 1)) (List.mem_of_getElem? (i := 5) rfl)
theorem dL_law_1032 : decode cL_law 1032 = .ok (.invokevirtual 115, 3) := dgL_law_17 (1032, (.invokevirtual 115, 3)) (List.mem_of_getElem? (i := 6) rfl)
theorem dL_law_1035 : decode cL_law 1035 = .ok (.pop, 1) := dgL_law_17 (1035, (.pop, 1)) (List.mem_of_getElem? (i := 7) rfl)
theorem dL_law_1036 : decode cL_law 1036 = .ok (.aload_n 2, 1) := dgL_law_17 (1036, (.aload_n 2, 1)) (List.mem_of_getElem? (i := 8) rfl)
theorem dL_law_1037 : decode cL_law 1037 = .ok (.aload_n 0, 1) := dgL_law_17 (1037, (.aload_n 0, 1)) (List.mem_of_getElem? (i := 9) rfl)
theorem dL_law_1038 : decode cL_law 1038 = .ok (.iload_n 3, 1) := dgL_law_17 (1038, (.iload_n 3, 1)) (List.mem_of_getElem? (i := 10) rfl)
theorem dL_law_1039 : decode cL_law 1039 = .ok (.iconst 1, 1) := dgL_law_17 (1039, (.iconst 1, 1)) (List.mem_of_getElem? (i := 11) rfl)
theorem dL_law_1040 : decode cL_law 1040 = .ok (.iadd, 1) := dgL_law_17 (1040, (.iadd, 1)) (List.mem_of_getElem? (i := 12) rfl)
theorem dL_law_1041 : decode cL_law 1041 = .ok (.iaload, 1) := dgL_law_17 (1041, (.iaload, 1)) (List.mem_of_getElem? (i := 13) rfl)
theorem dL_law_1042 : decode cL_law 1042 = .ok (.invokevirtual 118, 3) := dgL_law_17 (1042, (.invokevirtual 118, 3)) (List.mem_of_getElem? (i := 14) rfl)
theorem dL_law_1045 : decode cL_law 1045 = .ok (.pop, 1) := dgL_law_17 (1045, (.pop, 1)) (List.mem_of_getElem? (i := 15) rfl)
theorem dL_law_1046 : decode cL_law 1046 = .ok (.goto 602, 3) := dgL_law_17 (1046, (.goto 602, 3)) (List.mem_of_getElem? (i := 16) rfl)
theorem dL_law_1049 : decode cL_law 1049 = .ok (.aload_n 1, 1) := dgL_law_17 (1049, (.aload_n 1, 1)) (List.mem_of_getElem? (i := 17) rfl)
theorem dL_law_1050 : decode cL_law 1050 = .ok (.invokevirtual 119, 3) := dgL_law_17 (1050, (.invokevirtual 119, 3)) (List.mem_of_getElem? (i := 18) rfl)
theorem dL_law_1053 : decode cL_law 1053 = .ok (.pop2, 1) := dgL_law_17 (1053, (.pop2, 1)) (List.mem_of_getElem? (i := 19) rfl)
theorem dL_law_1054 : decode cL_law 1054 = .ok (.aload_n 2, 1) := dgL_law_17 (1054, (.aload_n 2, 1)) (List.mem_of_getElem? (i := 20) rfl)
theorem dL_law_1055 : decode cL_law 1055 = .ok (.invokevirtual 123, 3) := dgL_law_17 (1055, (.invokevirtual 123, 3)) (List.mem_of_getElem? (i := 21) rfl)
theorem dL_law_1058 : decode cL_law 1058 = .ok (.pop2, 1) := dgL_law_17 (1058, (.pop2, 1)) (List.mem_of_getElem? (i := 22) rfl)
theorem dL_law_1059 : decode cL_law 1059 = .ok (.goto 589, 3) := dgL_law_17 (1059, (.goto 589, 3)) (List.mem_of_getElem? (i := 23) rfl)
theorem dL_law_1062 : decode cL_law 1062 = .ok (.aload_n 1, 1) := dgL_law_17 (1062, (.aload_n 1, 1)) (List.mem_of_getElem? (i := 24) rfl)
theorem dL_law_1063 : decode cL_law 1063 = .ok (.aload_n 0, 1) := dgL_law_17 (1063, (.aload_n 0, 1)) (List.mem_of_getElem? (i := 25) rfl)
theorem dL_law_1064 : decode cL_law 1064 = .ok (.iload_n 3, 1) := dgL_law_17 (1064, (.iload_n 3, 1)) (List.mem_of_getElem? (i := 26) rfl)
theorem dL_law_1065 : decode cL_law 1065 = .ok (.iconst 1, 1) := dgL_law_17 (1065, (.iconst 1, 1)) (List.mem_of_getElem? (i := 27) rfl)
theorem dL_law_1066 : decode cL_law 1066 = .ok (.iadd, 1) := dgL_law_17 (1066, (.iadd, 1)) (List.mem_of_getElem? (i := 28) rfl)
theorem dL_law_1067 : decode cL_law 1067 = .ok (.iaload, 1) := dgL_law_17 (1067, (.iaload, 1)) (List.mem_of_getElem? (i := 29) rfl)
theorem dL_law_1068 : decode cL_law 1068 = .ok (.aload_n 0, 1) := dgL_law_17 (1068, (.aload_n 0, 1)) (List.mem_of_getElem? (i := 30) rfl)
theorem dL_law_1069 : decode cL_law 1069 = .ok (.iload_n 3, 1) := dgL_law_17 (1069, (.iload_n 3, 1)) (List.mem_of_getElem? (i := 31) rfl)
theorem dL_law_1070 : decode cL_law 1070 = .ok (.iconst 2, 1) := dgL_law_17 (1070, (.iconst 2, 1)) (List.mem_of_getElem? (i := 32) rfl)
theorem dL_law_1071 : decode cL_law 1071 = .ok (.iadd, 1) := dgL_law_17 (1071, (.iadd, 1)) (List.mem_of_getElem? (i := 33) rfl)
theorem dL_law_1072 : decode cL_law 1072 = .ok (.iaload, 1) := dgL_law_17 (1072, (.iaload, 1)) (List.mem_of_getElem? (i := 34) rfl)
theorem dL_law_1073 : decode cL_law 1073 = .ok (.invokevirtual 124, 3) := dgL_law_17 (1073, (.invokevirtual 124, 3)) (List.mem_of_getElem? (i := 35) rfl)
theorem dL_law_1076 : decode cL_law 1076 = .ok (.pop2, 1) := dgL_law_17 (1076, (.pop2, 1)) (List.mem_of_getElem? (i := 36) rfl)
theorem dL_law_1077 : decode cL_law 1077 = .ok (.aload_n 2, 1) := dgL_law_17 (1077, (.aload_n 2, 1)) (List.mem_of_getElem? (i := 37) rfl)
theorem dL_law_1078 : decode cL_law 1078 = .ok (.aload_n 0, 1) := dgL_law_17 (1078, (.aload_n 0, 1)) (List.mem_of_getElem? (i := 38) rfl)
theorem dL_law_1079 : decode cL_law 1079 = .ok (.iload_n 3, 1) := dgL_law_17 (1079, (.iload_n 3, 1)) (List.mem_of_getElem? (i := 39) rfl)
theorem dgL_law_18 : ∀ r ∈ ([(1080, (.iconst 1, 1)), (1081, (.iadd, 1)), (1082, (.iaload, 1)), (1083, (.aload_n 0, 1)), (1084, (.iload_n 3, 1)), (1085, (.iconst 2, 1)), (1086, (.iadd, 1)), (1087, (.iaload, 1)), (1088, (.invokevirtual 128, 3)), (1091, (.pop2, 1)), (1092, (.goto 556, 3)), (1095, (.aload_n 1, 1)), (1096, (.aload_n 0, 1)), (1097, (.iload_n 3, 1)), (1098, (.iconst 1, 1)), (1099, (.iadd, 1)), (1100, (.iaload, 1)), (1101, (.invokevirtual 129, 3)), (1104, (.pop, 1)), (1105, (.aload_n 2, 1)), (1106, (.aload_n 0, 1)), (1107, (.iload_n 3, 1)), (1108, (.iconst 1, 1)), (1109, (.iadd, 1)), (1110, (.iaload, 1)), (1111, (.invokevirtual 132, 3)), (1114, (.pop, 1)), (1115, (.goto 533, 3)), (1118, (.aload_n 1, 1)), (1119, (.invokevirtual 133, 3)), (1122, (.pop, 1)), (1123, (.aload_n 2, 1)), (1124, (.invokevirtual 136, 3)), (1127, (.pop, 1)), (1128, (.goto 520, 3)), (1131, (.aload_n 1, 1)), (1132, (.aload_n 0, 1)), (1133, (.iload_n 3, 1)), (1134, (.iconst 1, 1)), (1135, (.iadd, 1))] : List (Nat × (Instr × Nat))), decode cL_law r.1 = .ok r.2 := by decide +kernel
theorem dL_law_1080 : decode cL_law 1080 = .ok (.iconst 1, 1) := dgL_law_18 (1080, (.iconst 1, 1)) (List.mem_of_getElem? (i := 0) rfl)
theorem dL_law_1081 : decode cL_law 1081 = .ok (.iadd, 1) := dgL_law_18 (1081, (.iadd, 1)) (List.mem_of_getElem? (i := 1) rfl)
theorem dL_law_1082 : decode cL_law 1082 = .ok (.iaload, 1) := dgL_law_18 (1082, (.iaload, 1)) (List.mem_of_getElem? (i := 2) rfl)
theorem dL_law_1083 : decode cL_law 1083 = .ok (.aload_n 0, 1) := dgL_law_18 (1083, (.aload_n 0, 1)) (List.mem_of_getElem? (i := 3) rfl)
theorem dL_law_1084 : decode cL_law 1084 = .ok (.iload_n 3, 1) := dgL_law_18 (1084, (.iload_n 3, 1)) (List.mem_of_getElem? (i := 4) rfl)
theorem dL_law_1085 : decode cL_law 1085 = .ok (.iconst 2, 1) := dgL_law_18 (1085, (.iconst 2, 1)) (List.mem_of_getElem? (i := 5) rfl)
theorem dL_law_1086 : decode cL_law 1086 = .ok (.iadd, 1) := dgL_law_18 (1086, (.iadd, 1)) (List.mem_of_getElem? (i := 6) rfl)
theorem dL_law_1087 : decode cL_law 1087 = .ok (.iaload, 1) := dgL_law_18 (1087, (.iaload, 1)) (List.mem_of_getElem? (i := 7) rfl)
theorem dL_law_1088 : decode cL_law 1088 = .ok (.invokevirtual 128, 3) := dgL_law_18 (1088, (.invokevirtual 128, 3)) (List.mem_of_getElem? (i := 8) rfl)
theorem dL_law_1091 : decode cL_law 1091 = .ok (.pop2, 1) := dgL_law_18 (1091, (.pop2, 1)) (List.mem_of_getElem? (i := 9) rfl)
theorem dL_law_1092 : decode cL_law 1092 = .ok (.goto 556, 3) := dgL_law_18 (1092, (.goto 556, 3)) (List.mem_of_getElem? (i := 10) rfl)
theorem dL_law_1095 : decode cL_law 1095 = .ok (.aload_n 1, 1) := dgL_law_18 (1095, (.aload_n 1, 1)) (List.mem_of_getElem? (i := 11) rfl)
theorem dL_law_1096 : decode cL_law 1096 = .ok (.aload_n 0, 1) := dgL_law_18 (1096, (.aload_n 0, 1)) (List.mem_of_getElem? (i := 12) rfl)
theorem dL_law_1097 : decode cL_law 1097 = .ok (.iload_n 3, 1) := dgL_law_18 (1097, (.iload_n 3, 1)) (List.mem_of_getElem? (i := 13) rfl)
theorem dL_law_1098 : decode cL_law 1098 = .ok (.iconst 1, 1) := dgL_law_18 (1098, (.iconst 1, 1)) (List.mem_of_getElem? (i := 14) rfl)
theorem dL_law_1099 : decode cL_law 1099 = .ok (.iadd, 1) := dgL_law_18 (1099, (.iadd, 1)) (List.mem_of_getElem? (i := 15) rfl)
theorem dL_law_1100 : decode cL_law 1100 = .ok (.iaload, 1) := dgL_law_18 (1100, (.iaload, 1)) (List.mem_of_getElem? (i := 16) rfl)
theorem dL_law_1101 : decode cL_law 1101 = .ok (.invokevirtual 129, 3) := dgL_law_18 (1101, (.invokevirtual 129, 3)) (List.mem_of_getElem? (i := 17) rfl)
theorem dL_law_1104 : decode cL_law 1104 = .ok (.pop, 1) := dgL_law_18 (1104, (.pop, 1)) (List.mem_of_getElem? (i := 18) rfl)
theorem dL_law_1105 : decode cL_law 1105 = .ok (.aload_n 2, 1) := dgL_law_18 (1105, (.aload_n 2, 1)) (List.mem_of_getElem? (i := 19) rfl)
theorem dL_law_1106 : decode cL_law 1106 = .ok (.aload_n 0, 1) := dgL_law_18 (1106, (.aload_n 0, 1)) (List.mem_of_getElem? (i := 20) rfl)
theorem dL_law_1107 : decode cL_law 1107 = .ok (.iload_n 3, 1) := dgL_law_18 (1107, (.iload_n 3, 1)) (List.mem_of_getElem? (i := 21) rfl)
theorem dL_law_1108 : decode cL_law 1108 = .ok (.iconst 1, 1) := dgL_law_18 (1108, (.iconst 1, 1)) (List.mem_of_getElem? (i := 22) rfl)
theorem dL_law_1109 : decode cL_law 1109 = .ok (.iadd, 1) := dgL_law_18 (1109, (.iadd, 1)) (List.mem_of_getElem? (i := 23) rfl)
theorem dL_law_1110 : decode cL_law 1110 = .ok (.iaload, 1) := dgL_law_18 (1110, (.iaload, 1)) (List.mem_of_getElem? (i := 24) rfl)
theorem dL_law_1111 : decode cL_law 1111 = .ok (.invokevirtual 132, 3) := dgL_law_18 (1111, (.invokevirtual 132, 3)) (List.mem_of_getElem? (i := 25) rfl)
theorem dL_law_1114 : decode cL_law 1114 = .ok (.pop, 1) := dgL_law_18 (1114, (.pop, 1)) (List.mem_of_getElem? (i := 26) rfl)
theorem dL_law_1115 : decode cL_law 1115 = .ok (.goto 533, 3) := dgL_law_18 (1115, (.goto 533, 3)) (List.mem_of_getElem? (i := 27) rfl)
theorem dL_law_1118 : decode cL_law 1118 = .ok (.aload_n 1, 1) := dgL_law_18 (1118, (.aload_n 1, 1)) (List.mem_of_getElem? (i := 28) rfl)
theorem dL_law_1119 : decode cL_law 1119 = .ok (.invokevirtual 133, 3) := dgL_law_18 (1119, (.invokevirtual 133, 3)) (List.mem_of_getElem? (i := 29) rfl)
theorem dL_law_1122 : decode cL_law 1122 = .ok (.pop, 1) := dgL_law_18 (1122, (.pop, 1)) (List.mem_of_getElem? (i := 30) rfl)
theorem dL_law_1123 : decode cL_law 1123 = .ok (.aload_n 2, 1) := dgL_law_18 (1123, (.aload_n 2, 1)) (List.mem_of_getElem? (i := 31) rfl)
theorem dL_law_1124 : decode cL_law 1124 = .ok (.invokevirtual 136, 3) := dgL_law_18 (1124, (.invokevirtual 136, 3)) (List.mem_of_getElem? (i := 32) rfl)
theorem dL_law_1127 : decode cL_law 1127 = .ok (.pop, 1) := dgL_law_18 (1127, (.pop, 1)) (List.mem_of_getElem? (i := 33) rfl)
theorem dL_law_1128 : decode cL_law 1128 = .ok (.goto 520, 3) := dgL_law_18 (1128, (.goto 520, 3)) (List.mem_of_getElem? (i := 34) rfl)
theorem dL_law_1131 : decode cL_law 1131 = .ok (.aload_n 1, 1) := dgL_law_18 (1131, (.aload_n 1, 1)) (List.mem_of_getElem? (i := 35) rfl)
theorem dL_law_1132 : decode cL_law 1132 = .ok (.aload_n 0, 1) := dgL_law_18 (1132, (.aload_n 0, 1)) (List.mem_of_getElem? (i := 36) rfl)
theorem dL_law_1133 : decode cL_law 1133 = .ok (.iload_n 3, 1) := dgL_law_18 (1133, (.iload_n 3, 1)) (List.mem_of_getElem? (i := 37) rfl)
theorem dL_law_1134 : decode cL_law 1134 = .ok (.iconst 1, 1) := dgL_law_18 (1134, (.iconst 1, 1)) (List.mem_of_getElem? (i := 38) rfl)
theorem dL_law_1135 : decode cL_law 1135 = .ok (.iadd, 1) := dgL_law_18 (1135, (.iadd, 1)) (List.mem_of_getElem? (i := 39) rfl)
theorem dgL_law_19 : ∀ r ∈ ([(1136, (.iaload, 1)), (1137, (.aload_n 0, 1)), (1138, (.iload_n 3, 1)), (1139, (.iconst 2, 1)), (1140, (.iadd, 1)), (1141, (.iaload, 1)), (1142, (.aload_n 0, 1)), (1143, (.iload_n 3, 1)), (1144, (.iconst 3, 1)), (1145, (.iadd, 1)), (1146, (.iaload, 1)), (1147, (.invokevirtual 137, 3)), (1150, (.pop2, 1)), (1151, (.aload_n 2, 1)), (1152, (.aload_n 0, 1)), (1153, (.iload_n 3, 1)), (1154, (.iconst 1, 1)), (1155, (.iadd, 1)), (1156, (.iaload, 1)), (1157, (.aload_n 0, 1)), (1158, (.iload_n 3, 1)), (1159, (.iconst 2, 1)), (1160, (.iadd, 1)), (1161, (.iaload, 1)), (1162, (.aload_n 0, 1)), (1163, (.iload_n 3, 1)), (1164, (.iconst 3, 1)), (1165, (.iadd, 1)), (1166, (.iaload, 1)), (1167, (.invokevirtual 141, 3)), (1170, (.pop2, 1)), (1171, (.goto 477, 3)), (1174, (.aload_n 1, 1)), (1175, (.aload_n 0, 1)), (1176, (.iload_n 3, 1)), (1177, (.iconst 1, 1)), (1178, (.iadd, 1)), (1179, (.iaload, 1)), (1180, (.invokevirtual 142, 3)), (1183, (.pop, 1))] : List (Nat × (Instr × Nat))), decode cL_law r.1 = .ok r.2 := by decide +kernel
theorem dL_law_1136 : decode cL_law 1136 = .ok (.iaload, 1) := dgL_law_19 (1136, (.iaload, 1)) (List.mem_of_getElem? (i := 0) rfl)
theorem dL_law_1137 : decode cL_law 1137 = .ok (.aload_n 0, 1) := dgL_law_19 (1137, (.aload_n 0, 1)) (List.mem_of_getElem? (i := 1) rfl)
theorem dL_law_1138 : decode cL_law 1138 = .ok (.iload_n 3, 1) := dgL_law_19 (1138, (.iload_n 3, 1)) (List.mem_of_getElem? (i := 2) rfl)
theorem dL_law_1139 : decode cL_law 1139 = .ok (.iconst 2, 1) := dgL_law_19 (1139, (.iconst 2, 1)) (List.mem_of_getElem? (i := 3) rfl)
theorem dL_law_1140 : decode cL_law 1140 = .ok (.iadd, 1) := dgL_law_19 (1140, (.iadd, 1)) (List.mem_of_getElem? (i := 4) rfl)
theorem dL_law_1141 : decode cL_law 1141 = .ok (.iaload, 1) := dgL_law_19 (1141, (.iaload, 1)) (List.mem_of_getElem? (i := 5) rfl)
theorem dL_law_1142 : decode cL_law 1142 = .ok (.aload_n 0, 1) := dgL_law_19 (1142, (.aload_n 0, 1)) (List.mem_of_getElem? (i := 6) rfl)
theorem dL_law_1143 : decode cL_law 1143 = .ok (.iload_n 3, 1) := dgL_law_19 (1143, (.iload_n 3, 1)) (List.mem_of_getElem? (i := 7) rfl)
theorem dL_law_1144 : decode cL_law 1144 = .ok (.iconst 3, 1) := dgL_law_19 (1144, (.iconst 3, 1)) (List.mem_of_getElem? (i := 8) rfl)
theorem dL_law_1145 : decode cL_law 1145 = .ok (.iadd, 1) := dgL_law_19 (1145, (.iadd, 1)) (List.mem_of_getElem? (i := 9) rfl)
theorem dL_law_1146 : decode cL_law 1146 = .ok (.iaload, 1) := dgL_law_19 (1146, (.iaload, 1)) (List.mem_of_getElem? (i := 10) rfl)
theorem dL_law_1147 : decode cL_law 1147 = .ok (.invokevirtual 137, 3) := dgL_law_19 (1147, (.invokevirtual 137, 3)) (List.mem_of_getElem? (i := 11) rfl)
theorem dL_law_1150 : decode cL_law 1150 = .ok (.pop2, 1) := dgL_law_19 (1150, (.pop2, 1)) (List.mem_of_getElem? (i := 12) rfl)
theorem dL_law_1151 : decode cL_law 1151 = .ok (.aload_n 2, 1) := dgL_law_19 (1151, (.aload_n 2, 1)) (List.mem_of_getElem? (i := 13) rfl)
theorem dL_law_1152 : decode cL_law 1152 = .ok (.aload_n 0, 1) := dgL_law_19 (1152, (.aload_n 0, 1)) (List.mem_of_getElem? (i := 14) rfl)
theorem dL_law_1153 : decode cL_law 1153 = .ok (.iload_n 3, 1) := dgL_law_19 (1153, (.iload_n 3, 1)) (List.mem_of_getElem? (i := 15) rfl)
theorem dL_law_1154 : decode cL_law 1154 = .ok (.iconst 1, 1) := dgL_law_19 (1154, (.iconst 1, 1)) (List.mem_of_getElem? (i := 16) rfl)
theorem dL_law_1155 : decode cL_law 1155 = .ok (.iadd, 1) := dgL_law_19 (1155, (.iadd, 1)) (List.mem_of_getElem? (i := 17) rfl)
theorem dL_law_1156 : decode cL_law 1156 = .ok (.iaload, 1) := dgL_law_19 (1156, (.iaload, 1)) (List.mem_of_getElem? (i := 18) rfl)
theorem dL_law_1157 : decode cL_law 1157 = .ok (.aload_n 0, 1) := dgL_law_19 (1157, (.aload_n 0, 1)) (List.mem_of_getElem? (i := 19) rfl)
theorem dL_law_1158 : decode cL_law 1158 = .ok (.iload_n 3, 1) := dgL_law_19 (1158, (.iload_n 3, 1)) (List.mem_of_getElem? (i := 20) rfl)
theorem dL_law_1159 : decode cL_law 1159 = .ok (.iconst 2, 1) := dgL_law_19 (1159, (.iconst 2, 1)) (List.mem_of_getElem? (i := 21) rfl)
theorem dL_law_1160 : decode cL_law 1160 = .ok (.iadd, 1) := dgL_law_19 (1160, (.iadd, 1)) (List.mem_of_getElem? (i := 22) rfl)
theorem dL_law_1161 : decode cL_law 1161 = .ok (.iaload, 1) := dgL_law_19 (1161, (.iaload, 1)) (List.mem_of_getElem? (i := 23) rfl)
theorem dL_law_1162 : decode cL_law 1162 = .ok (.aload_n 0, 1) := dgL_law_19 (1162, (.aload_n 0, 1)) (List.mem_of_getElem? (i := 24) rfl)
theorem dL_law_1163 : decode cL_law 1163 = .ok (.iload_n 3, 1) := dgL_law_19 (1163, (.iload_n 3, 1)) (List.mem_of_getElem? (i := 25) rfl)
theorem dL_law_1164 : decode cL_law 1164 = .ok (.iconst 3, 1) := dgL_law_19 (1164, (.iconst 3, 1)) (List.mem_of_getElem? (i := 26) rfl)
theorem dL_law_1165 : decode cL_law 1165 = .ok (.iadd, 1) := dgL_law_19 (1165, (.iadd, 1)) (List.mem_of_getElem? (i := 27) rfl)
theorem dL_law_1166 : decode cL_law 1166 = .ok (.iaload, 1) := dgL_law_19 (1166, (.iaload, 1)) (List.mem_of_getElem? (i := 28) rfl)
theorem dL_law_1167 : decode cL_law 1167 = .ok (.invokevirtual 141, 3) := dgL_law_19 (1167, (.invokevirtual 141, 3)) (List.mem_of_getElem? (i := 29) rfl)
theorem dL_law_1170 : decode cL_law 1170 = .ok (.pop2, 1) := dgL_law_19 (1170, (.pop2, 1)) (List.mem_of_getElem? (i := 30) rfl)
theorem dL_law_1171 : decode cL_law 1171 = .ok (.goto 477, 3) := dgL_law_19 (1171, (.goto 477, 3)) (List.mem_of_getElem? (i := 31) rfl)
theorem dL_law_1174 : decode cL_law 1174 = .ok (.aload_n 1, 1) := dgL_law_19 (1174, (.aload_n 1, 1)) (List.mem_of_getElem? (i := 32) rfl)
theorem dL_law_1175 : decode cL_law 1175 = .ok (.aload_n 0, 1) := dgL_law_19 (1175, (.aload_n 0, 1)) (List.mem_of_getElem? (i := 33) rfl)
theorem dL_law_1176 : decode cL_law 1176 = .ok (.iload_n 3, 1) := dgL_law_19 (1176, (.iload_n 3, 1)) (List.mem_of_getElem? (i := 34) rfl)
theorem dL_law_1177 : decode cL_law 1177 = .ok (.iconst 1, 1) := dgL_law_19 (1177, (.iconst 1, 1)) (List.mem_of_getElem? (i := 35) rfl)
theorem dL_law_1178 : decode cL_law 1178 = .ok (.iadd, 1) := dgL_law_19 (1178, (.iadd, 1)) (List.mem_of_getElem? (i := 36) rfl)
theorem dL_law_1179 : decode cL_law 1179 = .ok (.iaload, 1) := dgL_law_19 (1179, (.iaload, 1)) (List.mem_of_getElem? (i := 37) rfl)
theorem dL_law_1180 : decode cL_law 1180 = .ok (.invokevirtual 142, 3) := dgL_law_19 (1180, (.invokevirtual 142, 3)) (List.mem_of_getElem? (i := 38) rfl)
theorem dL_law_1183 : decode cL_law 1183 = .ok (.pop, 1) := dgL_law_19 (1183, (.pop, 1)) (List.mem_of_getElem? (i := 39) rfl)
theorem dgL_law_20 : ∀ r ∈ ([(1184, (.aload_n 2, 1)), (1185, (.aload_n 0, 1)), (1186, (.iload_n 3, 1)), (1187, (.iconst 1, 1)), (1188, (.iadd, 1)), (1189, (.iaload, 1)), (1190, (.invokevirtual 145, 3)), (1193, (.pop, 1)), (1194, (.goto 454, 3)), (1197, (.aload_n 1, 1)), (1198, (.aload_n 0, 1)), (1199, (.iload_n 3, 1)), (1200, (.iconst 1, 1)), (1201, (.iadd, 1)), (1202, (.iaload, 1)), (1203, (.aload_n 0, 1)), (1204, (.iload_n 3, 1)), (1205, (.iconst 2, 1)), (1206, (.iadd, 1)), (1207, (.iaload, 1)), (1208, (.aload_n 0, 1)), (1209, (.iload_n 3, 1)), (1210, (.iconst 3, 1)), (1211, (.iadd, 1)), (1212, (.iaload, 1)), (1213, (.invokevirtual 146, 3)), (1216, (.pop, 1)), (1217, (.aload_n 2, 1)), (1218, (.aload_n 0, 1)), (1219, (.iload_n 3, 1)), (1220, (.iconst 1, 1)), (1221, (.iadd, 1)), (1222, (.iaload, 1)), (1223, (.aload_n 0, 1)), (1224, (.iload_n 3, 1)), (1225, (.iconst 2, 1)), (1226, (.iadd, 1)), (1227, (.iaload, 1)), (1228, (.aload_n 0, 1)), (1229, (.iload_n 3, 1))] : List (Nat × (Instr × Nat))), decode cL_law r.1 = .ok r.2 := by decide +kernel
theorem dL_law_1184 : decode cL_law 1184 = .ok (.aload_n 2, 1) := dgL_law_20 (1184, (.aload_n 2, 1)) (List.mem_of_getElem? (i := 0) rfl)
theorem dL_law_1185 : decode cL_law 1185 = .ok (.aload_n 0, 1) := dgL_law_20 (1185, (.aload_n 0, 1)) (List.mem_of_getElem? (i := 1) rfl)
theorem dL_law_1186 : decode cL_law 1186 = .ok (.iload_n 3, 1) := dgL_law_20 (1186, (.iload_n 3, 1)) (List.mem_of_getElem? (i := 2) rfl)
theorem dL_law_1187 : decode cL_law 1187 = .ok (.iconst 1, 1) := dgL_law_20 (1187, (.iconst 1, 1)) (List.mem_of_getElem? (i := 3) rfl)
theorem dL_law_1188 : decode cL_law 1188 = .ok (.iadd, 1) := dgL_law_20 (1188, (.iadd, 1)) (List.mem_of_getElem? (i := 4) rfl)
theorem dL_law_1189 : decode cL_law 1189 = .ok (.iaload, 1) := dgL_law_20 (1189, (.iaload, 1)) (List.mem_of_getElem? (i := 5) rfl)
theorem dL_law_1190 : decode cL_law 1190 = .ok (.invokevirtual 145, 3) := dgL_law_20 (1190, (.invokevirtual 145, 3)) (List.mem_of_getElem? (i := 6) rfl)
theorem dL_law_1193 : decode cL_law 1193 = .ok (.pop, 1) := dgL_law_20 (1193, (.pop, 1)) (List.mem_of_getElem? (i := 7) rfl)
theorem dL_law_1194 : decode cL_law 1194 = .ok (.goto 454, 3) := dgL_law_20 (1194, (.goto 454, 3)) (List.mem_of_getElem? (i := 8) rfl)
theorem dL_law_1197 : decode cL_law 1197 = .ok (.aload_n 1, 1) := dgL_law_20 (1197, (.aload_n 1, 1)) (List.mem_of_getElem? (i := 9) rfl)
theorem dL_law_1198 : decode cL_law 1198 = .ok (.aload_n 0, 1) := dgL_law_20 (1198, (.aload_n 0, 1)) (List.mem_of_getElem? (i := 10) rfl)
theorem dL_law_1199 : decode cL_law 1199 = .ok (.iload_n 3, 1) := dgL_law_20 (1199, (.iload_n 3, 1)) (List.mem_of_getElem? (i := 11) rfl)
theorem dL_law_1200 : decode cL_law 1200 = .ok (.iconst 1, 1) := dgL_law_20 (1200, (.iconst 1, 1)) (List.mem_of_getElem? (i := 12) rfl)
theorem dL_law_1201 : decode cL_law 1201 = .ok (.iadd, 1) := dgL_law_20 (1201, (.iadd, 1)) (List.mem_of_getElem? (i := 13) rfl)
theorem dL_law_1202 : decode cL_law 1202 = .ok (.iaload, 1) := dgL_law_20 (1202, (.iaload, 1)) (List.mem_of_getElem? (i := 14) rfl)
theorem dL_law_1203 : decode cL_law 1203 = .ok (.aload_n 0, 1) := dgL_law_20 (1203, (.aload_n 0, 1)) (List.mem_of_getElem? (i := 15) rfl)
theorem dL_law_1204 : decode cL_law 1204 = .ok (.iload_n 3, 1) := dgL_law_20 (1204, (.iload_n 3, 1)) (List.mem_of_getElem? (i := 16) rfl)
theorem dL_law_1205 : decode cL_law 1205 = .ok (.iconst 2, 1) := dgL_law_20 (1205, (.iconst 2, 1)) (List.mem_of_getElem? (i := 17) rfl)
theorem dL_law_1206 : decode cL_law 1206 = .ok (.iadd, 1) := dgL_law_20 (1206, (.iadd, 1)) (List.mem_of_getElem? (i := 18) rfl)
theorem dL_law_1207 : decode cL_law 1207 = .ok (.iaload, 1) := dgL_law_20 (1207, (.iaload, 1)) (List.mem_of_getElem? (i := 19) rfl)
theorem dL_law_1208 : decode cL_law 1208 = .ok (.aload_n 0, 1) := dgL_law_20 (1208, (.aload_n 0, 1)) (List.mem_of_getElem? (i := 20) rfl)
theorem dL_law_1209 : decode cL_law 1209 = .ok (.iload_n 3, 1) := dgL_law_20 (1209, (.iload_n 3, 1)) (List.mem_of_getElem? (i := 21) rfl)
theorem dL_law_1210 : decode cL_law 1210 = .ok (.iconst 3, 1) := dgL_law_20 (1210, (.iconst 3, 1)) (List.mem_of_getElem? (i := 22) rfl)
theorem dL_law_1211 : decode cL_law 1211 = .ok (.iadd, 1) := dgL_law_20 (1211, (.iadd, 1)) (List.mem_of_getElem? (i := 23) rfl)
theorem dL_law_1212 : decode cL_law 1212 = .ok (.iaload, 1) := dgL_law_20 (1212, (.iaload, 1)) (List.mem_of_getElem? (i := 24) rfl)
theorem dL_law_1213 : decode cL_law 1213 = .ok (.invokevirtual 146, 3) := dgL_law_20 (1213, (.invokevirtual 146, 3)) (List.mem_of_getElem? (i := 25) rfl)
theorem dL_law_1216 : decode cL_law 1216 = .ok (.pop, 1) := dgL_law_20 (1216, (.pop, 1)) (List.mem_of_getElem? (i := 26) rfl)
theorem dL_law_1217 : decode cL_law 1217 = .ok (.aload_n 2, 1) := dgL_law_20 (1217, (.aload_n 2, 1)) (List.mem_of_getElem? (i := 27) rfl)
theorem dL_law_1218 : decode cL_law 1218 = .ok (.aload_n 0, 1) := dgL_law_20 (1218, (.aload_n 0, 1)) (List.mem_of_getElem? (i := 28) rfl)
theorem dL_law_1219 : decode cL_law 1219 = .ok (.iload_n 3, 1) := dgL_law_20 (1219, (.iload_n 3, 1)) (List.mem_of_getElem? (i := 29) rfl)
theorem dL_law_1220 : decode cL_law 1220 = .ok (.iconst 1, 1) := dgL_law_20 (1220, (.iconst 1, 1)) (List.mem_of_getElem? (i := 30) rfl)
theorem dL_law_1221 : decode cL_law 1221 = .ok (.iadd, 1) := dgL_law_20 (1221, (.iadd, 1)) (List.mem_of_getElem? (i := 31) rfl)
theorem dL_law_1222 : decode cL_law 1222 = .ok (.iaload, 1) := dgL_law_20 (1222, (.iaload, 1)) (List.mem_of_getElem? (i := 32) rfl)
theorem dL_law_1223 : decode cL_law 1223 = .ok (.aload_n 0, 1) := dgL_law_20 (1223, (.aload_n 0, 1)) (List.mem_of_getElem? (i := 33) rfl)
theorem dL_law_1224 : decode cL_law 1224 = .ok (.iload_n 3, 1) := dgL_law_20 (1224, (.iload_n 3, 1)) (List.mem_of_getElem? (i := 34) rfl)
theorem dL_law_1225 : decode cL_law 1225 = .ok (.iconst 2, 1) := dgL_law_20 (1225, (.iconst 2, 1)) (List.mem_of_getElem? (i := 35) rfl)
theorem dL_law_1226 : decode cL_law 1226 = .ok (.iadd, 1) := dgL_law_20 (1226, (.iadd, 1)) (List.mem_of_getElem? (i := 36) rfl)
theorem dL_law_1227 : decode cL_law 1227 = .ok (.iaload, 1) := dgL_law_20 (1227, (.iaload, 1)) (List.mem_of_getElem? (i := 37) rfl)
theorem dL_law_1228 : decode cL_law 1228 = .ok (.aload_n 0, 1) := dgL_law_20 (1228, (.aload_n 0, 1)) (List.mem_of_getElem? (i := 38) rfl)
theorem dL_law_1229 : decode cL_law 1229 = .ok (.iload_n 3, 1) := dgL_law_20 (1229, (.iload_n 3, 1)) (List.mem_of_getElem? (i := 39) rfl)
theorem dgL_law_21 : ∀ r ∈ ([(1230, (.iconst 3, 1)), (1231, (.iadd, 1)), (1232, (.iaload, 1)), (1233, (.invokevirtual 149, 3)), (1236, (.pop, 1)), (1237, (.goto 411, 3)), (1240, (.aload_n 1, 1)), (1241, (.aload_n 0, 1)), (1242, (.iload_n 3, 1)), (1243, (.iconst 1, 1)), (1244, (.iadd, 1)), (1245, (.iaload, 1)), (1246, (.aload_n 0, 1)), (1247, (.iload_n 3, 1)), (1248, (.iconst 2, 1)), (1249, (.iadd, 1)), (1250, (.iaload, 1)), (1251, (.aload_n 0, 1)), (1252, (.iload_n 3, 1)), (1253, (.iconst 3, 1)), (1254, (.iadd, 1)), (1255, (.iaload, 1)), (1256, (.aload_n 0, 1)), (1257, (.iload_n 3, 1)), (1258, (.iconst 4, 1)), (1259, (.iadd, 1)), (1260, (.iaload, 1)), (1261, (.aload_n 0, 1)), (1262, (.iload_n 3, 1)), (1263, (.iconst 5, 1)), (1264, (.iadd, 1)), (1265, (.iaload, 1)), (1266, (.aload_n 0, 1)), (1267, (.iload_n 3, 1)), (1268, (.bipush 6, 2)), (1270, (.iadd, 1)), (1271, (.iaload, 1)), (1272, (.invokevirtual 150, 3)), (1275, (.pop, 1)), (1276, (.aload_n 2, 1))] : List (Nat × (Instr × Nat))), decode cL_law r.1 = .ok r.2 := by decide +kernel
theorem dL_law_1230 : decode cL_law 1230 = .ok (.iconst 3, 1) := dgL_law_21 (1230, (.iconst 3, 1)) (List.mem_of_getElem? (i := 0) rfl)
theorem dL_law_1231 : decode cL_law 1231 = .ok (.iadd, 1) := dgL_law_21 (1231, (.iadd, 1)) (List.mem_of_getElem? (i := 1) rfl)
theorem dL_law_1232 : decode cL_law 1232 = .ok (.iaload, 1) := dgL_law_21 (1232, (.iaload, 1)) (List.mem_of_getElem? (i := 2) rfl)
theorem dL_law_1233 : decode cL_law 1233 = .ok (.invokevirtual 149, 3) := dgL_law_21 (1233, (.invokevirtual 149, 3)) (List.mem_of_getElem? (i := 3) rfl)
theorem dL_law_1236 : decode cL_law 1236 = .ok (.pop, 1) := dgL_law_21 (1236, (.pop, 1)) (List.mem_of_getElem? (i := 4) rfl)
theorem dL_law_1237 : decode cL_law 1237 = .ok (.goto 411, 3) := dgL_law_21 (1237, (.goto 411, 3)) (List.mem_of_getElem? (i := 5) rfl)
theorem dL_law_1240 : decode cL_law 1240 = .ok (.aload_n 1, 1) := dgL_law_21 (1240, (.aload_n 1, 1)) (List.mem_of_getElem? (i := 6) rfl)
theorem dL_law_1241 : decode cL_law 1241 = .ok (.aload_n 0, 1) := dgL_law_21 (1241, (.aload_n 0, 1)) (List.mem_of_getElem? (i := 7) rfl)
theorem dL_law_1242 : decode cL_law 1242 = .ok (.iload_n 3, 1) := dgL_law_21 (1242, (.iload_n 3, 1)) (List.mem_of_getElem? (i := 8) rfl)
theorem dL_law_1243 : decode cL_law 1243 = .ok (.iconst 1, 1) := dgL_law_21 (1243, (.iconst 1, 1)) (List.mem_of_getElem? (i := 9) rfl)
theorem dL_law_1244 : decode cL_law 1244 = .ok (.iadd, 1) := dgL_law_21 (1244, (.iadd, 1)) (List.mem_of_getElem? (i := 10) rfl)
theorem dL_law_1245 : decode cL_law 1245 = .ok (.iaload, 1) := dgL_law_21 (1245, (.iaload, 1)) (List.mem_of_getElem? (i := 11) rfl)
theorem dL_law_1246 : decode cL_law 1246 = .ok (.aload_n 0, 1) := dgL_law_21 (1246, (.aload_n 0, 1)) (List.mem_of_getElem? (i := 12) rfl)
theorem dL_law_1247 : decode cL_law 1247 = .ok (.iload_n 3, 1) := dgL_law_21 (1247, (.iload_n 3, 1)) (List.mem_of_getElem? (i := 13) rfl)
theorem dL_law_1248 : decode cL_law 1248 = .ok (.iconst 2, 1) := dgL_law_21 (1248, (.iconst 2, 1)) (List.mem_of_getElem? (i := 14) rfl)
theorem dL_law_1249 : decode cL_law 1249 = .ok (.iadd, 1) := dgL_law_21 (1249, (.iadd, 1)) (List.mem_of_getElem? (i := 15) rfl)
theorem dL_law_1250 : decode cL_law 1250 = .ok (.iaload, 1) := dgL_law_21 (1250, (.iaload, 1)) (List.mem_of_getElem? (i := 16) rfl)
theorem dL_law_1251 : decode cL_law 1251 = .ok (.aload_n 0, 1) := dgL_law_21 (1251, (.aload_n 0, 1)) (List.mem_of_getElem? (i := 17) rfl)
theorem dL_law_1252 : decode cL_law 1252 = .ok (.iload_n 3, 1) := dgL_law_21 (1252, (.iload_n 3, 1)) (List.mem_of_getElem? (i := 18) rfl)
theorem dL_law_1253 : decode cL_law 1253 = .ok (.iconst 3, 1) := dgL_law_21 (1253, (.iconst 3, 1)) (List.mem_of_getElem? (i := 19) rfl)
theorem dL_law_1254 : decode cL_law 1254 = .ok (.iadd, 1) := dgL_law_21 (1254, (.iadd, 1)) (List.mem_of_getElem? (i := 20) rfl)
theorem dL_law_1255 : decode cL_law 1255 = .ok (.iaload, 1) := dgL_law_21 (1255, (.iaload, 1)) (List.mem_of_getElem? (i := 21) rfl)
theorem dL_law_1256 : decode cL_law 1256 = .ok (.aload_n 0, 1) := dgL_law_21 (1256, (.aload_n 0, 1)) (List.mem_of_getElem? (i := 22) rfl)
theorem dL_law_1257 : decode cL_law 1257 = .ok (.iload_n 3, 1) := dgL_law_21 (1257, (.iload_n 3, 1)) (List.mem_of_getElem? (i := 23) rfl)
theorem dL_law_1258 : decode cL_law 1258 = .ok (.iconst 4, 1) := dgL_law_21 (1258, (.iconst 4, 1)) (List.mem_of_getElem? (i := 24) rfl)
theorem dL_law_1259 : decode cL_law 1259 = .ok (.iadd, 1) := dgL_law_21 (1259, (.iadd, 1)) (List.mem_of_getElem? (i := 25) rfl)
theorem dL_law_1260 : decode cL_law 1260 = .ok (.iaload, 1) := dgL_law_21 (1260, (.iaload, 1)) (List.mem_of_getElem? (i := 26) rfl)
theorem dL_law_1261 : decode cL_law 1261 = .ok (.aload_n 0, 1) := dgL_law_21 (1261, (.aload_n 0, 1)) (List.mem_of_getElem? (i := 27) rfl)
theorem dL_law_1262 : decode cL_law 1262 = .ok (.iload_n 3, 1) := dgL_law_21 (1262, (.iload_n 3, 1)) (List.mem_of_getElem? (i := 28) rfl)
theorem dL_law_1263 : decode cL_law 1263 = .ok (.iconst 5, 1) := dgL_law_21 (1263, (.iconst 5, 1)) (List.mem_of_getElem? (i := 29) rfl)
theorem dL_law_1264 : decode cL_law 1264 = .ok (.iadd, 1) := dgL_law_21 (1264, (.iadd, 1)) (List.mem_of_getElem? (i := 30) rfl)
theorem dL_law_1265 : decode cL_law 1265 = .ok (.iaload, 1) := dgL_law_21 (1265, (.iaload, 1)) (List.mem_of_getElem? (i := 31) rfl)
theorem dL_law_1266 : decode cL_law 1266 = .ok (.aload_n 0, 1) := dgL_law_21 (1266, (.aload_n 0, 1)) (List.mem_of_getElem? (i := 32) rfl)
theorem dL_law_1267 : decode cL_law 1267 = .ok (.iload_n 3, 1) := dgL_law_21 (1267, (.iload_n 3, 1)) (List.mem_of_getElem? (i := 33) rfl)
theorem dL_law_1268 : decode cL_law 1268 = .ok (.bipush 6, 2) := dgL_law_21 (1268, (.bipush 6, 2)) (List.mem_of_getElem? (i := 34) rfl)
theorem dL_law_1270 : decode cL_law 1270 = .ok (.iadd, 1) := dgL_law_21 (1270, (.iadd, 1)) (List.mem_of_getElem? (i := 35) rfl)
theorem dL_law_1271 : decode cL_law 1271 = .ok (.iaload, 1) := dgL_law_21 (1271, (.iaload, 1)) (List.mem_of_getElem? (i := 36) rfl)
theorem dL_law_1272 : decode cL_law 1272 = .ok (.invokevirtual 150, 3) := dgL_law_21 (1272, (.invokevirtual 150, 3)) (List.mem_of_getElem? (i := 37) rfl)
theorem dL_law_1275 : decode cL_law 1275 = .ok (.pop, 1) := dgL_law_21 (1275, (.pop, 1)) (List.mem_of_getElem? (i := 38) rfl)
theorem dL_law_1276 : decode cL_law 1276 = .ok (.aload_n 2, 1) := dgL_law_21 (1276, (.aload_n 2, 1)) (List.mem_of_getElem? (i := 39) rfl)
theorem dgL_law_22 : ∀ r ∈ ([(1277, (.aload_n 0, 1)), (1278, (.iload_n 3, 1)), (1279, (.iconst 1, 1)), (1280, (.iadd, 1)), (1281, (.iaload, 1)), (1282, (.aload_n 0, 1)), (1283, (.iload_n 3, 1)), (1284, (.iconst 2, 1)), (1285, (.iadd, 1)), (1286, (.iaload, 1)), (1287, (.aload_n 0, 1)), (1288, (.iload_n 3, 1)), (1289, (.iconst 3, 1)), (1290, (.iadd, 1)), (1291, (.iaload, 1)), (1292, (.aload_n 0, 1)), (1293, (.iload_n 3, 1)), (1294, (.iconst 4, 1)), (1295, (.iadd, 1)), (1296, (.iaload, 1)), (1297, (.aload_n 0, 1)), (1298, (.iload_n 3, 1)), (1299, (.iconst 5, 1)), (1300, (.iadd, 1)), (1301, (.iaload, 1)), (1302, (.aload_n 0, 1)), (1303, (.iload_n 3, 1)), (1304, (.bipush 6, 2)), (1306, (.iadd, 1)), (1307, (.iaload, 1)), (1308, (.invokevirtual 154, 3)), (1311, (.pop, 1)), (1312, (.goto 336, 3)), (1315, (.aload_n 1, 1)), (1316, (.aload_n 0, 1)), (1317, (.iload_n 3, 1)), (1318, (.iconst 1, 1)), (1319, (.iadd, 1)), (1320, (.iaload, 1)), (1321, (.invokevirtual 155, 3))] : List (Nat × (Instr × Nat))), decode cL_law r.1 = .ok r.2 := by decide +kernel
theorem dL_law_1277 : decode cL_law 1277 = .ok (.aload_n 0, 1) := dgL_law_22 (1277, (.aload_n 0, 1)) (List.mem_of_getElem? (i := 0) rfl)
theorem dL_law_1278 : decode cL_law 1278 = .ok (.iload_n 3, 1) := dgL_law_22 (1278, (.iload_n 3, 1)) (List.mem_of_getElem? (i := 1) rfl)
theorem dL_law_1279 : decode cL_law 1279 = .ok (.iconst 1, 1) := dgL_law_22 (1279, (.iconst 1, 1)) (List.mem_of_getElem? (i := 2) rfl)
theorem dL_law_1280 : decode cL_law 1280 = .ok (.iadd, 1) := dgL_law_22 (1280, (.iadd, 1)) (List.mem_of_getElem? (i := 3) rfl)
theorem dL_law_1281 : decode cL_law 1281 = .ok (.iaload, 1) := dgL_law_22 (1281, (.iaload, 1)) (List.mem_of_getElem? (i := 4) rfl)
theorem dL_law_1282 : decode cL_law 1282 = .ok (.aload_n 0, 1) := dgL_law_22 (1282, (.aload_n 0, 1)) (List.mem_of_getElem? (i := 5) rfl)
theorem dL_law_1283 : decode cL_law 1283 = .ok (.iload_n 3, 1) := dgL_law_22 (1283, (.iload_n 3, 1)) (List.mem_of_getElem? (i := 6) rfl)
theorem dL_law_1284 : decode cL_law 1284 = .ok (.iconst 2, 1) := dgL_law_22 (1284, (.iconst 2, 1)) (List.mem_of_getElem? (i := 7) rfl)
theorem dL_law_1285 : decode cL_law 1285 = .ok (.iadd, 1) := dgL_law_22 (1285, (.iadd, 1)) (List.mem_of_getElem? (i := 8) rfl)
theorem dL_law_1286 : decode cL_law 1286 = .ok (.iaload, 1) := dgL_law_22 (1286, (.iaload, 1)) (List.mem_of_getElem? (i := 9) rfl)
theorem dL_law_1287 : decode cL_law 1287 = .ok (.aload_n 0, 1) := dgL_law_22 (1287, (.aload_n 0, 1)) (List.mem_of_getElem? (i := 10) rfl)
theorem dL_law_1288 : decode cL_law 1288 = .ok (.iload_n 3, 1) := dgL_law_22 (1288, (.iload_n 3, 1)) (List.mem_of_getElem? (i := 11) rfl)
theorem dL_law_1289 : decode cL_law 1289 = .ok (.iconst 3, 1) := dgL_law_22 (1289, (.iconst 3, 1)) (List.mem_of_getElem? (i := 12) rfl)
theorem dL_law_1290 : decode cL_law 1290 = .ok (.iadd, 1) := dgL_law_22 (1290, (.iadd, 1)) (List.mem_of_getElem? (i := 13) rfl)
theorem dL_law_1291 : decode cL_law 1291 = .ok (.iaload, 1) := dgL_law_22 (1291, (.iaload, 1)) (List.mem_of_getElem? (i := 14) rfl)
theorem dL_law_1292 : decode cL_law 1292 = .ok (.aload_n 0, 1) := dgL_law_22 (1292, (.aload_n 0, 1)) (List.mem_of_getElem? (i := 15) rfl)
theorem dL_law_1293 : decode cL_law 1293 = .ok (.iload_n 3, 1) := dgL_law_22 (1293, (.iload_n 3, 1)) (List.mem_of_getElem? (i := 16) rfl)
theorem dL_law_1294 : decode cL_law 1294 = .ok (.iconst 4, 1) := dgL_law_22 (1294, (.iconst 4, 1)) (List.mem_of_getElem? (i := 17) rfl)
theorem dL_law_1295 : decode cL_law 1295 = .ok (.iadd, 1) := dgL_law_22 (1295, (.iadd, 1)) (List.mem_of_getElem? (i := 18) rfl)
theorem dL_law_1296 : decode cL_law 1296 = .ok (.iaload, 1) := dgL_law_22 (1296, (.iaload, 1)) (List.mem_of_getElem? (i := 19) rfl)
theorem dL_law_1297 : decode cL_law 1297 = .ok (.aload_n 0, 1) := dgL_law_22 (1297, (.aload_n 0, 1)) (List.mem_of_getElem? (i := 20) rfl)
theorem dL_law_1298 : decode cL_law 1298 = .ok (.iload_n 3, 1) := dgL_law_22 (1298, (.iload_n 3, 1)) (List.mem_of_getElem? (i := 21) rfl)
theorem dL_law_1299 : decode cL_law 1299 = .ok (.iconst 5, 1) := dgL_law_22 (1299, (.iconst 5, 1)) (List.mem_of_getElem? (i := 22) rfl)
theorem dL_law_1300 : decode cL_law 1300 = .ok (.iadd, 1) := dgL_law_22 (1300, (.iadd, 1)) (List.mem_of_getElem? (i := 23) rfl)
theorem dL_law_1301 : decode cL_law 1301 = .ok (.iaload, 1) := dgL_law_22 (1301, (.iaload, 1)) (List.mem_of_getElem? (i := 24) rfl)
theorem dL_law_1302 : decode cL_law 1302 = .ok (.aload_n 0, 1) := dgL_law_22 (1302, (.aload_n 0, 1)) (List.mem_of_getElem? (i := 25) rfl)
theorem dL_law_1303 : decode cL_law 1303 = .ok (.iload_n 3, 1) := dgL_law_22 (1303, (.iload_n 3, 1)) (List.mem_of_getElem? (i := 26) rfl)
theorem dL_law_1304 : decode cL_law 1304 = .ok (.bipush 6, 2) := dgL_law_22 (1304, (.bipush 6, 2)) (List.mem_of_getElem? (i := 27) rfl)
theorem dL_law_1306 : decode cL_law 1306 = .ok (.iadd, 1) := dgL_law_22 (1306, (.iadd, 1)) (List.mem_of_getElem? (i := 28) rfl)
theorem dL_law_1307 : decode cL_law 1307 = .ok (.iaload, 1) := dgL_law_22 (1307, (.iaload, 1)) (List.mem_of_getElem? (i := 29) rfl)
theorem dL_law_1308 : decode cL_law 1308 = .ok (.invokevirtual 154, 3) := dgL_law_22 (1308, (.invokevirtual 154, 3)) (List.mem_of_getElem? (i := 30) rfl)
theorem dL_law_1311 : decode cL_law 1311 = .ok (.pop, 1) := dgL_law_22 (1311, (.pop, 1)) (List.mem_of_getElem? (i := 31) rfl)
theorem dL_law_1312 : decode cL_law 1312 = .ok (.goto 336, 3) := dgL_law_22 (1312, (.goto 336, 3)) (List.mem_of_getElem? (i := 32) rfl)
theorem dL_law_1315 : decode cL_law 1315 = .ok (.aload_n 1, 1) := dgL_law_22 (1315, (.aload_n 1, 1)) (List.mem_of_getElem? (i := 33) rfl)
theorem dL_law_1316 : decode cL_law 1316 = .ok (.aload_n 0, 1) := dgL_law_22 (1316, (.aload_n 0, 1)) (List.mem_of_getElem? (i := 34) rfl)
theorem dL_law_1317 : decode cL_law 1317 = .ok (.iload_n 3, 1) := dgL_law_22 (1317, (.iload_n 3, 1)) (List.mem_of_getElem? (i := 35) rfl)
theorem dL_law_1318 : decode cL_law 1318 = .ok (.iconst 1, 1) := dgL_law_22 (1318, (.iconst 1, 1)) (List.mem_of_getElem? (i := 36) rfl)
theorem dL_law_1319 : decode cL_law 1319 = .ok (.iadd, 1) := dgL_law_22 (1319, (.iadd, 1)) (List.mem_of_getElem? (i := 37) rfl)
theorem dL_law_1320 : decode cL_law 1320 = .ok (.iaload, 1) := dgL_law_22 (1320, (.iaload, 1)) (List.mem_of_getElem? (i := 38) rfl)
theorem dL_law_1321 : decode cL_law 1321 = .ok (.invokevirtual 155, 3) := dgL_law_22 (1321, (.invokevirtual 155, 3)) (List.mem_of_getElem? (i := 39) rfl)
theorem dgL_law_23 : ∀ r ∈ ([(1324, (.pop, 1)), (1325, (.aload_n 2, 1)), (1326, (.aload_n 0, 1)), (1327, (.iload_n 3, 1)), (1328, (.iconst 1, 1)), (1329, (.iadd, 1)), (1330, (.iaload, 1)), (1331, (.invokevirtual 158, 3)), (1334, (.pop, 1)), (1335, (.goto 313, 3)), (1338, (.aload_n 1, 1)), (1339, (.aload_n 0, 1)), (1340, (.iload_n 3, 1)), (1341, (.iconst 1, 1)), (1342, (.iadd, 1)), (1343, (.iaload, 1)), (1344, (.invokevirtual 159, 3)), (1347, (.pop, 1)), (1348, (.aload_n 2, 1)), (1349, (.aload_n 0, 1)), (1350, (.iload_n 3, 1)), (1351, (.iconst 1, 1)), (1352, (.iadd, 1)), (1353, (.iaload, 1)), (1354, (.invokevirtual 162, 3)), (1357, (.pop, 1)), (1358, (.goto 290, 3)), (1361, (.aload_n 1, 1)), (1362, (.aload_n 0, 1)), (1363, (.iload_n 3, 1)), (1364, (.iconst 1, 1)), (1365, (.iadd, 1)), (1366, (.iaload, 1)), (1367, (.aload_n 0, 1)), (1368, (.iload_n 3, 1)), (1369, (.iconst 2, 1)), (1370, (.iadd, 1)), (1371, (.iaload, 1)), (1372, (.aload_n 0, 1)), (1373, (.iload_n 3, 1))] : List (Nat × (Instr × Nat))), decode cL_law r.1 = .ok r.2 := by decide +kernel
theorem dL_law_1324 : decode cL_law 1324 = .ok (.pop, 1) := dgL_law_23 (1324, (.pop, 1)) (List.mem_of_getElem? (i := 0) rfl)
theorem dL_law_1325 : decode cL_law 1325 = .ok (.aload_n 2, 1) := dgL_law_23 (1325, (.aload_n 2, 1)) (List.mem_of_getElem? (i := 1) rfl)
theorem dL_law_1326 : decode cL_law 1326 = .ok (.aload_n 0, 1) := dgL_law_23 (1326, (.aload_n 0, 1)) (List.mem_of_getElem? (i := 2) rfl)
theorem dL_law_1327 : decode cL_law 1327 = .ok (.iload_n 3, 1) := dgL_law_23 (1327, (.iload_n 3, 1)) (List.mem_of_getElem? (i := 3) rfl)
theorem dL_law_1328 : decode cL_law 1328 = .ok (.iconst 1, 1) := dgL_law_23 (1328, (.iconst 1, 1)) (List.mem_of_getElem? (i := 4) rfl)
theorem dL_law_1329 : decode cL_law 1329 = .ok (.iadd, 1) := dgL_law_23 (1329, (.iadd, 1)) (List.mem_of_getElem? (i := 5) rfl)
theorem dL_law_1330 : decode cL_law 1330 = .ok (.iaload, 1) := dgL_law_23 (1330, (.iaload, 1)) (List.mem_of_getElem? (i := 6) rfl)
theorem dL_law_1331 : decode cL_law 1331 = .ok (.invokevirtual 158, 3) := dgL_law_23 (1331, (.invokevirtual 158, 3)) (List.mem_of_getElem? (i := 7) rfl)
theorem dL_law_1334 : decode cL_law 1334 = .ok (.pop, 1) := dgL_law_23 (1334, (.pop, 1)) (List.mem_of_getElem? (i := 8) rfl)
theorem dL_law_1335 : decode cL_law 1335 = .ok (.goto 313, 3) := dgL_law_23 (1335, (.goto 313, 3)) (List.mem_of_getElem? (i := 9) rfl)
theorem dL_law_1338 : decode cL_law 1338 = .ok (.aload_n 1, 1) := dgL_law_23 (1338, (.aload_n 1, 1)) (List.mem_of_getElem? (i := 10) rfl)
theorem dL_law_1339 : decode cL_law 1339 = .ok (.aload_n 0, 1) := dgL_law_23 (1339, (.aload_n 0, 1)) (List.mem_of_getElem? (i := 11) rfl)
theorem dL_law_1340 : decode cL_law 1340 = .ok (.iload_n 3, 1) := dgL_law_23 (1340, (.iload_n 3, 1)) (List.mem_of_getElem? (i := 12) rfl)
theorem dL_law_1341 : decode cL_law 1341 = .ok (.iconst 1, 1) := dgL_law_23 (1341, (.iconst 1, 1)) (List.mem_of_getElem? (i := 13) rfl)
theorem dL_law_1342 : decode cL_law 1342 = .ok (.iadd, 1) := dgL_law_23 (1342, (.iadd, 1)) (List.mem_of_getElem? (i := 14) rfl)
theorem dL_law_1343 : decode cL_law 1343 = .ok (.iaload, 1) := dgL_law_23 (1343, (.iaload, 1)) (List.mem_of_getElem? (i := 15) rfl)
theorem dL_law_1344 : decode cL_law 1344 = .ok (.invokevirtual 159, 3) := dgL_law_23 (1344, (.invokevirtual 159, 3)) (List.mem_of_getElem? (i := 16) rfl)
theorem dL_law_1347 : decode cL_law 1347 = .ok (.pop, 1) := dgL_law_23 (1347, (.pop, 1)) (List.mem_of_getElem? (i := 17) rfl)
theorem dL_law_1348 : decode cL_law 1348 = .ok (.aload_n 2, 1) := dgL_law_23 (1348, (.aload_n 2, 1)) (List.mem_of_getElem? (i := 18) rfl)
theorem dL_law_1349 : decode cL_law 1349 = .ok (.aload_n 0, 1) := dgL_law_23 (1349, (.aload_n 0, 1)) (List.mem_of_getElem? (i := 19) rfl)
theorem dL_law_1350 : decode cL_law 1350 = .ok (.iload_n 3, 1) := dgL_law_23 (1350, (.iload_n 3, 1)) (List.mem_of_getElem? (i := 20) rfl)
theorem dL_law_1351 : decode cL_law 1351 = .ok (.iconst 1, 1) := dgL_law_23 (1351, (.iconst 1, 1)) (List.mem_of_getElem? (i := 21) rfl)
theorem dL_law_1352 : decode cL_law 1352 = .ok (.iadd, 1) := dgL_law_23 (1352, (.iadd, 1)) (List.mem_of_getElem? (i := 22) rfl)
theorem dL_law_1353 : decode cL_law 1353 = .ok (.iaload, 1) := dgL_law_23 (1353, (.iaload, 1)) (List.mem_of_getElem? (i := 23) rfl)
theorem dL_law_1354 : decode cL_law 1354 = .ok (.invokevirtual 162, 3) := dgL_law_23 (1354, (.invokevirtual 162, 3)) (List.mem_of_getElem? (i := 24) rfl)
theorem dL_law_1357 : decode cL_law 1357 = .ok (.pop, 1) := dgL_law_23 (1357, (.pop, 1)) (List.mem_of_getElem? (i := 25) rfl)
theorem dL_law_1358 : decode cL_law 1358 = .ok (.goto 290, 3) := dgL_law_23 (1358, (.goto 290, 3)) (List.mem_of_getElem? (i := 26) rfl)
theorem dL_law_1361 : decode cL_law 1361 = .ok (.aload_n 1, 1) := dgL_law_23 (1361, (.aload_n 1, 1)) (List.mem_of_getElem? (i := 27) rfl)
theorem dL_law_1362 : decode cL_law 1362 = .ok (.aload_n 0, 1) := dgL_law_23 (1362, (.aload_n 0, 1)) (List.mem_of_getElem? (i := 28) rfl)
theorem dL_law_1363 : decode cL_law 1363 = .ok (.iload_n 3, 1) := dgL_law_23 (1363, (.iload_n 3, 1)) (List.mem_of_getElem? (i := 29) rfl)
theorem dL_law_1364 : decode cL_law 1364 = .ok (.iconst 1, 1) := dgL_law_23 (1364, (.iconst 1, 1)) (List.mem_of_getElem? (i := 30) rfl)
theorem dL_law_1365 : decode cL_law 1365 = .ok (.iadd, 1) := dgL_law_23 (1365, (.iadd, 1)) (List.mem_of_getElem? (i := 31) rfl)
theorem dL_law_1366 : decode cL_law 1366 = .ok (.iaload, 1) := dgL_law_23 (1366, (.iaload, 1)) (List.mem_of_getElem? (i := 32) rfl)
theorem dL_law_1367 : decode cL_law 1367 = .ok (.aload_n 0, 1) := dgL_law_23 (1367, (.aload_n 0, 1)) (List.mem_of_getElem? (i := 33) rfl)
theorem dL_law_1368 : decode cL_law 1368 = .ok (.iload_n 3, 1) := dgL_law_23 (1368, (.iload_n 3, 1)) (List.mem_of_getElem? (i := 34) rfl)
theorem dL_law_1369 : decode cL_law 1369 = .ok (.iconst 2, 1) := dgL_law_23 (1369, (.iconst 2, 1)) (List.mem_of_getElem? (i := 35) rfl)
theorem dL_law_1370 : decode cL_law 1370 = .ok (.iadd, 1) := dgL_law_23 (1370, (.iadd, 1)) (List.mem_of_getElem? (i := 36) rfl)
theorem dL_law_1371 : decode cL_law 1371 = .ok (.iaload, 1) := dgL_law_23 (1371, (.iaload, 1)) (List.mem_of_getElem? (i := 37) rfl)
theorem dL_law_1372 : decode cL_law 1372 = .ok (.aload_n 0, 1) := dgL_law_23 (1372, (.aload_n 0, 1)) (List.mem_of_getElem? (i := 38) rfl)
theorem dL_law_1373 : decode cL_law 1373 = .ok (.iload_n 3, 1) := dgL_law_23 (1373, (.iload_n 3, 1)) (List.mem_of_getElem? (i := 39) rfl)
theorem dgL_law_24 : ∀ r ∈ ([(1374, (.iconst 3, 1)), (1375, (.iadd, 1)), (1376, (.iaload, 1)), (1377, (.invokevirtual 163, 3)), (1380, (.pop, 1)), (1381, (.aload_n 2, 1)), (1382, (.aload_n 0, 1)), (1383, (.iload_n 3, 1)), (1384, (.iconst 1, 1)), (1385, (.iadd, 1)), (1386, (.iaload, 1)), (1387, (.aload_n 0, 1)), (1388, (.iload_n 3, 1)), (1389, (.iconst 2, 1)), (1390, (.iadd, 1)), (1391, (.iaload, 1)), (1392, (.aload_n 0, 1)), (1393, (.iload_n 3, 1)), (1394, (.iconst 3, 1)), (1395, (.iadd, 1)), (1396, (.iaload, 1)), (1397, (.invokevirtual 166, 3)), (1400, (.pop, 1)), (1401, (.goto 247, 3)), (1404, (.aload_n 1, 1)), (1405, (.aload_n 0, 1)), (1406, (.iload_n 3, 1)), (1407, (.iconst 1, 1)), (1408, (.iadd, 1)), (1409, (.iaload, 1)), (1410, (.aload_n 0, 1)), (1411, (.iload_n 3, 1)), (1412, (.iconst 2, 1)), (1413, (.iadd, 1)), (1414, (.iaload, 1)), (1415, (.aload_n 0, 1)), (1416, (.iload_n 3, 1)), (1417, (.iconst 3, 1)), (1418, (.iadd, 1)), (1419, (.iaload, 1))] : List (Nat × (Instr × Nat))), decode cL_law r.1 = .ok r.2 := by decide +kernel
theorem dL_law_1374 : decode cL_law 1374 = .ok (.iconst 3, 1) := dgL_law_24 (1374, (.iconst 3, 1)) (List.mem_of_getElem? (i := 0) rfl)
theorem dL_law_1375 : decode cL_law 1375 = .ok (.iadd, 1) := dgL_law_24 (1375, (.iadd, 1)) (List.mem_of_getElem? (i := 1) rfl)
theorem dL_law_1376 : decode cL_law 1376 = .ok (.iaload, 1) := dgL_law_24 (1376, (.iaload, 1)) (List.mem_of_getElem? (i := 2) rfl)
theorem dL_law_1377 : decode cL_law 1377 = .ok (.invokevirtual 163, 3) := dgL_law_24 (1377, (.invokevirtual 163, 3)) (List.mem_of_getElem? (i := 3) rfl)
theorem dL_law_1380 : decode cL_law 1380 = .ok (.pop, 1) := dgL_law_24 (1380, (.pop, 1)) (List.mem_of_getElem? (i := 4) rfl)
theorem dL_law_1381 : decode cL_law 1381 = .ok (.aload_n 2, 1) := dgL_law_24 (1381, (.aload_n 2, 1)) (List.mem_of_getElem? (i := 5) rfl)
theorem dL_law_1382 : decode cL_law 1382 = .ok (.aload_n 0, 1) := dgL_law_24 (1382, (.aload_n 0, 1)) (List.mem_of_getElem? (i := 6) rfl)
theorem dL_law_1383 : decode cL_law 1383 = .ok (.iload_n 3, 1) := dgL_law_24 (1383, (.iload_n 3, 1)) (List.mem_of_getElem? (i := 7) rfl)
theorem dL_law_1384 : decode cL_law 1384 = .ok (.iconst 1, 1) := dgL_law_24 (1384, (.iconst 1, 1)) (List.mem_of_getElem? (i := 8) rfl)
theorem dL_law_1385 : decode cL_law 1385 = .ok (.iadd, 1) := dgL_law_24 (1385, (.iadd, 1)) (List.mem_of_getElem? (i := 9) rfl)
theorem dL_law_1386 : decode cL_law 1386 = .ok (.iaload, 1) := dgL_law_24 (1386, (.iaload, 1)) (List.mem_of_getElem? (i := 10) rfl)
theorem dL_law_1387 : decode cL_law 1387 = .ok (.aload_n 0, 1) := dgL_law_24 (1387, (.aload_n 0, 1)) (List.mem_of_getElem? (i := 11) rfl)
theorem dL_law_1388 : decode cL_law 1388 = .ok (.iload_n 3, 1) := dgL_law_24 (1388, (.iload_n 3, 1)) (List.mem_of_getElem? (i := 12) rfl)
theorem dL_law_1389 : decode cL_law 1389 = .ok (.iconst 2, 1) := dgL_law_24 (1389, (.iconst 2, 1)) (List.mem_of_getElem? (i := 13) rfl)
theorem dL_law_1390 : decode cL_law 1390 = .ok (.iadd, 1) := dgL_law_24 (1390, (.iadd, 1)) (List.mem_of_getElem? (i := 14) rfl)
theorem dL_law_1391 : decode cL_law 1391 = .ok (.iaload, 1) := dgL_law_24 (1391, (.iaload, 1)) (List.mem_of_getElem? (i := 15) rfl)
theorem dL_law_1392 : decode cL_law 1392 = .ok (.aload_n 0, 1) := dgL_law_24 (1392, (.aload_n 0, 1)) (List.mem_of_getElem? (i := 16) rfl)
theorem dL_law_1393 : decode cL_law 1393 = .ok (.iload_n 3, 1) := dgL_law_24 (1393, (.iload_n 3, 1)) (List.mem_of_getElem? (i := 17) rfl)
theorem dL_law_1394 : decode cL_law 1394 = .ok (.iconst 3, 1) := dgL_law_24 (1394, (.iconst 3, 1)) (List.mem_of_getElem? (i := 18) rfl)
theorem dL_law_1395 : decode cL_law 1395 = .ok (.iadd, 1) := dgL_law_24 (1395, (.iadd, 1)) (List.mem_of_getElem? (i := 19) rfl)
theorem dL_law_1396 : decode cL_law 1396 = .ok (.iaload, 1) := dgL_law_24 (1396, (.iaload, 1)) (List.mem_of_getElem? (i := 20) rfl)
theorem dL_law_1397 : decode cL_law 1397 = .ok (.invokevirtual 166, 3) := dgL_law_24 (1397, (.invokevirtual 166, 3)) (List.mem_of_getElem? (i := 21) rfl)
theorem dL_law_1400 : decode cL_law 1400 = .ok (.pop, 1) := dgL_law_24 (1400, (.pop, 1)) (List.mem_of_getElem? (i := 22) rfl)
theorem dL_law_1401 : decode cL_law 1401 = .ok (.goto 247, 3) := dgL_law_24 (1401, (.goto 247, 3)) (List.mem_of_getElem? (i := 23) rfl)
theorem dL_law_1404 : decode cL_law 1404 = .ok (.aload_n 1, 1) := dgL_law_24 (1404, (.aload_n 1, 1)) (List.mem_of_getElem? (i := 24) rfl)
theorem dL_law_1405 : decode cL_law 1405 = .ok (.aload_n 0, 1) := dgL_law_24 (1405, (.aload_n 0, 1)) (List.mem_of_getElem? (i := 25) rfl)
theorem dL_law_1406 : decode cL_law 1406 = .ok (.iload_n 3, 1) := dgL_law_24 (1406, (.iload_n 3, 1)) (List.mem_of_getElem? (i := 26) rfl)
theorem dL_law_1407 : decode cL_law 1407 = .ok (.iconst 1, 1) := dgL_law_24 (1407, (.iconst 1, 1)) (List.mem_of_getElem? (i := 27) rfl)
theorem dL_law_1408 : decode cL_law 1408 = .ok (.iadd, 1) := dgL_law_24 (1408, (.iadd, 1)) (List.mem_of_getElem? (i := 28) rfl)
theorem dL_law_1409 : decode cL_law 1409 = .ok (.iaload, 1) := dgL_law_24 (1409, (.iaload, 1)) (List.mem_of_getElem? (i := 29) rfl)
theorem dL_law_1410 : decode cL_law 1410 = .ok (.aload_n 0, 1) := dgL_law_24 (1410, (.aload_n 0, 1)) (List.mem_of_getElem? (i := 30) rfl)
theorem dL_law_1411 : decode cL_law 1411 = .ok (.iload_n 3, 1) := dgL_law_24 (1411, (.iload_n 3, 1)) (List.mem_of_getElem? (i := 31) rfl)
theorem dL_law_1412 : decode cL_law 1412 = .ok (.iconst 2, 1) := dgL_law_24 (1412, (.iconst 2, 1)) (List.mem_of_getElem? (i := 32) rfl)
theorem dL_law_1413 : decode cL_law 1413 = .ok (.iadd, 1) := dgL_law_24 (1413, (.iadd, 1)) (List.mem_of_getElem? (i := 33) rfl)
theorem dL_law_1414 : decode cL_law 1414 = .ok (.iaload, 1) := dgL_law_24 (1414, (.iaload, 1)) (List.mem_of_getElem? (i := 34) rfl)
theorem dL_law_1415 : decode cL_law 1415 = .ok (.aload_n 0, 1) := dgL_law_24 (1415, (.aload_n 0, 1)) (List.mem_of_getElem? (i := 35) rfl)
theorem dL_law_1416 : decode cL_law 1416 = .ok (.iload_n 3, 1) := dgL_law_24 (1416, (.iload_n 3, 1)) (List.mem_of_getElem? (i := 36) rfl)
theorem dL_law_1417 : decode cL_law 1417 = .ok (.iconst 3, 1) := dgL_law_24 (1417, (.iconst 3, 1)) (List.mem_of_getElem? (i := 37) rfl)
theorem dL_law_1418 : decode cL_law 1418 = .ok (.iadd, 1) := dgL_law_24 (1418, (.iadd, 1)) (List.mem_of_getElem? (i := 38) rfl)
theorem dL_law_1419 : decode cL_law 1419 = .ok (.iaload, 1) := dgL_law_24 (1419, (.iaload, 1)) (List.mem_of_getElem? (i := 39) rfl)
theorem dgL_law_25 : ∀ r ∈ ([(1420, (.aload_n 0, 1)), (1421, (.iload_n 3, 1)), (1422, (.iconst 4, 1)), (1423, (.iadd, 1)), (1424, (.iaload, 1)), (1425, (.invokevirtual 167, 3)), (1428, (.pop, 1)), (1429, (.aload_n 2, 1)), (1430, (.aload_n 0, 1)), (1431, (.iload_n 3, 1)), (1432, (.iconst 1, 1)), (1433, (.iadd, 1)), (1434, (.iaload, 1)), (1435, (.aload_n 0, 1)), (1436, (.iload_n 3, 1)), (1437, (.iconst 2, 1)), (1438, (.iadd, 1)), (1439, (.iaload, 1)), (1440, (.aload_n 0, 1)), (1441, (.iload_n 3, 1)), (1442, (.iconst 3, 1)), (1443, (.iadd, 1)), (1444, (.iaload, 1)), (1445, (.aload_n 0, 1)), (1446, (.iload_n 3, 1)), (1447, (.iconst 4, 1)), (1448, (.iadd, 1)), (1449, (.iaload, 1)), (1450, (.invokevirtual 170, 3)), (1453, (.pop, 1)), (1454, (.goto 194, 3)), (1457, (.aload_n 1, 1)), (1458, (.aload_n 0, 1)), (1459, (.iload_n 3, 1)), (1460, (.iconst 1, 1)), (1461, (.iadd, 1)), (1462, (.iaload, 1)), (1463, (.aload_n 0, 1)), (1464, (.iload_n 3, 1)), (1465, (.iconst 2, 1))] : List (Nat × (Instr × Nat))), decode cL_law r.1 = .ok r.2 := by decide +kernel
theorem dL_law_1420 : decode cL_law 1420 = .ok (.aload_n 0, 1) := dgL_law_25 (1420, (.aload_n 0, 1)) (List.mem_of_getElem? (i := 0) rfl)
theorem dL_law_1421 : decode cL_law 1421 = .ok (.iload_n 3, 1) := dgL_law_25 (1421, (.iload_n 3, 1)) (List.mem_of_getElem? (i := 1) rfl)
theorem dL_law_1422 : decode cL_law 1422 = .ok (.iconst 4, 1) := dgL_law_25 (1422, (.iconst 4, 1)) (List.mem_of_getElem? (i := 2) rfl)
theorem dL_law_1423 : decode cL_law 1423 = .ok (.iadd, 1) := dgL_law_25 (1423, (.iadd, 1)) (List.mem_of_getElem? (i := 3) rfl)
theorem dL_law_1424 : decode cL_law 1424 = .ok (.iaload, 1) := dgL_law_25 (1424, (.iaload, 1)) (List.mem_of_getElem? (i := 4) rfl)
theorem dL_law_1425 : decode cL_law 1425 = .ok (.invokevirtual 167, 3) := dgL_law_25 (1425, (.invokevirtual 167, 3)) (List.mem_of_getElem? (i := 5) rfl)
theorem dL_law_1428 : decode cL_law 1428 = .ok (.pop, 1) := dgL_law_25 (1428, (.pop, 1)) (List.mem_of_getElem? (i := 6) rfl)
theorem dL_law_1429 : decode cL_law 1429 = .ok (.aload_n 2, 1) := dgL_law_25 (1429, (.aload_n 2, 1)) (List.mem_of_getElem? (i := 7) rfl)
theorem dL_law_1430 : decode cL_law 1430 = .ok (.aload_n 0, 1) := dgL_law_25 (1430, (.aload_n 0, 1)) (List.mem_of_getElem? (i := 8) rfl)
theorem dL_law_1431 : decode cL_law 1431 = .ok (.iload_n 3, 1) := dgL_law_25 (1431, (.iload_n 3, 1)) (List.mem_of_getElem? (i := 9) rfl)
theorem dL_law_1432 : decode cL_law 1432 = .ok (.iconst 1, 1) := dgL_law_25 (1432, (.iconst 1, 1)) (List.mem_of_getElem? (i := 10) rfl)
theorem dL_law_1433 : decode cL_law 1433 = .ok (.iadd, 1) := dgL_law_25 (1433, (.iadd, 1)) (List.mem_of_getElem? (i := 11) rfl)
theorem dL_law_1434 : decode cL_law 1434 = .ok (.iaload, 1) := dgL_law_25 (1434, (.iaload, 1)) (List.mem_of_getElem? (i := 12) rfl)
theorem dL_law_1435 : decode cL_law 1435 = .ok (.aload_n 0, 1) := dgL_law_25 (1435, (.aload_n 0, 1)) (List.mem_of_getElem? (i := 13) rfl)
theorem dL_law_1436 : decode cL_law 1436 = .ok (.iload_n 3, 1) := dgL_law_25 (1436, (.iload_n 3, 1)) (List.mem_of_getElem? (i := 14) rfl)
theorem dL_law_1437 : decode cL_law 1437 = .ok (.iconst 2, 1) := dgL_law_25 (1437, (.iconst 2, 1)) (List.mem_of_getElem? (i := 15) rfl)
theorem dL_law_1438 : decode cL_law 1438 = .ok (.iadd, 1) := dgL_law_25 (1438, (.iadd, 1)) (List.mem_of_getElem? (i := 16) rfl)
theorem dL_law_1439 : decode cL_law 1439 = .ok (.iaload, 1) := dgL_law_25 (1439, (.iaload, 1)) (List.mem_of_getElem? (i := 17) rfl)
theorem dL_law_1440 : decode cL_law 1440 = .ok (.aload_n 0, 1) := dgL_law_25 (1440, (.aload_n 0, 1)) (List.mem_of_getElem? (i := 18) rfl)
theorem dL_law_1441 : decode cL_law 1441 = .ok (.iload_n 3, 1) := dgL_law_25 (1441, (.iload_n 3, 1)) (List.mem_of_getElem? (i := 19) rfl)
theorem dL_law_1442 : decode cL_law 1442 = .ok (.iconst 3, 1) := dgL_law_25 (1442, (.iconst 3, 1)) (List.mem_of_getElem? (i := 20) rfl)
theorem dL_law_1443 : decode cL_law 1443 = .ok (.iadd, 1) := dgL_law_25 (1443, (.iadd, 1)) (List.mem_of_getElem? (i := 21) rfl)
theorem dL_law_1444 : decode cL_law 1444 = .ok (.iaload, 1) := dgL_law_25 (1444, (.iaload, 1)) (List.mem_of_getElem? (i := 22) rfl)
theorem dL_law_1445 : decode cL_law 1445 = .ok (.aload_n 0, 1) := dgL_law_25 (1445, (.aload_n 0, 1)) (List.mem_of_getElem? (i := 23) rfl)
theorem dL_law_1446 : decode cL_law 1446 = .ok (.iload_n 3, 1) := dgL_law_25 (1446, (.iload_n 3, 1)) (List.mem_of_getElem? (i := 24) rfl)
theorem dL_law_1447 : decode cL_law 1447 = .ok (.iconst 4, 1) := dgL_law_25 (1447, (.iconst 4, 1)) (List.mem_of_getElem? (i := 25) rfl)
theorem dL_law_1448 : decode cL_law 1448 = .ok (.iadd, 1) := dgL_law_25 (1448, (.iadd, 1)) (List.mem_of_getElem? (i := 26) rfl)
theorem dL_law_1449 : decode cL_law 1449 = .ok (.iaload, 1) := dgL_law_25 (1449, (.iaload, 1)) (List.mem_of_getElem? (i := 27) rfl)
theorem dL_law_1450 : decode cL_law 1450 = .ok (.invokevirtual 170, 3) := dgL_law_25 (1450, (.invokevirtual 170, 3)) (List.mem_of_getElem? (i := 28) rfl)
theorem dL_law_1453 : decode cL_law 1453 = .ok (.pop, 1) := dgL_law_25 (1453, (.pop, 1)) (List.mem_of_getElem? (i := 29) rfl)
theorem dL_law_1454 : decode cL_law 1454 = .ok (.goto 194, 3) := dgL_law_25 (1454, (.goto 194, 3)) (List.mem_of_getElem? (i := 30) rfl)
theorem dL_law_1457 : decode cL_law 1457 = .ok (.aload_n 1, 1) := dgL_law_25 (1457, (.aload_n 1, 1)) (List.mem_of_getElem? (i := 31) rfl)
theorem dL_law_1458 : decode cL_law 1458 = .ok (.aload_n 0, 1) := dgL_law_25 (1458, (.aload_n 0, 1)) (List.mem_of_getElem? (i := 32) rfl)
theorem dL_law_1459 : decode cL_law 1459 = .ok (.iload_n 3, 1) := dgL_law_25 (1459, (.iload_n 3, 1)) (List.mem_of_getElem? (i := 33) rfl)
theorem dL_law_1460 : decode cL_law 1460 = .ok (.iconst 1, 1) := dgL_law_25 (1460, (.iconst 1, 1)) (List.mem_of_getElem? (i := 34) rfl)
theorem dL_law_1461 : decode cL_law 1461 = .ok (.iadd, 1) := dgL_law_25 (1461, (.iadd, 1)) (List.mem_of_getElem? (i := 35) rfl)
theorem dL_law_1462 : decode cL_law 1462 = .ok (.iaload, 1) := dgL_law_25 (1462, (.iaload, 1)) (List.mem_of_getElem? (i := 36) rfl)
theorem dL_law_1463 : decode cL_law 1463 = .ok (.aload_n 0, 1) := dgL_law_25 (1463, (.aload_n 0, 1)) (List.mem_of_getElem? (i := 37) rfl)
theorem dL_law_1464 : decode cL_law 1464 = .ok (.iload_n 3, 1) := dgL_law_25 (1464, (.iload_n 3, 1)) (List.mem_of_getElem? (i := 38) rfl)
theorem dL_law_1465 : decode cL_law 1465 = .ok (.iconst 2, 1) := dgL_law_25 (1465, (.iconst 2, 1)) (List.mem_of_getElem? (i := 39) rfl)
theorem dgL_law_26 : ∀ r ∈ ([(1466, (.iadd, 1)), (1467, (.iaload, 1)), (1468, (.aload_n 0, 1)), (1469, (.iload_n 3, 1)), (1470, (.iconst 3, 1)), (1471, (.iadd, 1)), (1472, (.iaload, 1)), (1473, (.aload_n 0, 1)), (1474, (.iload_n 3, 1)), (1475, (.iconst 4, 1)), (1476, (.iadd, 1)), (1477, (.iaload, 1)), (1478, (.invokevirtual 171, 3)), (1481, (.pop, 1)), (1482, (.aload_n 2, 1)), (1483, (.aload_n 0, 1)), (1484, (.iload_n 3, 1)), (1485, (.iconst 1, 1)), (1486, (.iadd, 1)), (1487, (.iaload, 1)), (1488, (.aload_n 0, 1)), (1489, (.iload_n 3, 1)), (1490, (.iconst 2, 1)), (1491, (.iadd, 1)), (1492, (.iaload, 1)), (1493, (.aload_n 0, 1)), (1494, (.iload_n 3, 1)), (1495, (.iconst 3, 1)), (1496, (.iadd, 1)), (1497, (.iaload, 1)), (1498, (.aload_n 0, 1)), (1499, (.iload_n 3, 1)), (1500, (.iconst 4, 1)), (1501, (.iadd, 1)), (1502, (.iaload, 1)), (1503, (.invokevirtual 174, 3)), (1506, (.pop, 1)), (1507, (.goto 141, 3)), (1510, (.aload_n 1, 1)), (1511, (.aload_n 0, 1))] : List (Nat × (Instr × Nat))), decode cL_law r.1 = .ok r.2 := by decide +kernel
theorem dL_law_1466 : decode cL_law 1466 = .ok (.iadd, 1) := dgL_law_26 (1466, (.iadd, 1)) (List.mem_of_getElem? (i := 0) rfl)
theorem dL_law_1467 : decode cL_law 1467 = .ok (.iaload, 1) := dgL_law_26 (1467, (.iaload, 1)) (List.mem_of_getElem? (i := 1) rfl)
theorem dL_law_1468 : decode cL_law 1468 = .ok (.aload_n 0, 1) := dgL_law_26 (1468, (.aload_n 0, 1)) (List.mem_of_getElem? (i := 2) rfl)
theorem dL_law_1469 : decode cL_law 1469 = .ok (.iload_n 3, 1) := dgL_law_26 (1469, (.iload_n 3, 1)) (List.mem_of_getElem? (i := 3) rfl)
theorem dL_law_1470 : decode cL_law 1470 = .ok (.iconst 3, 1) := dgL_law_26 (1470, (.iconst 3, 1)) (List.mem_of_getElem? (i := 4) rfl)
theorem dL_law_1471 : decode cL_law 1471 = .ok (.iadd, 1) := dgL_law_26 (1471, (.iadd, 1)) (List.mem_of_getElem? (i := 5) rfl)
theorem dL_law_1472 : decode cL_law 1472 = .ok (.iaload, 1) := dgL_law_26 (1472, (.iaload, 1)) (List.mem_of_getElem? (i := 6) rfl)
theorem dL_law_1473 : decode cL_law 1473 = .ok (.aload_n 0, 1) := dgL_law_26 (1473, (.aload_n 0, 1)) (List.mem_of_getElem? (i := 7) rfl)
theorem dL_law_1474 : decode cL_law 1474 = .ok (.iload_n 3, 1) := dgL_law_26 (1474, (.iload_n 3, 1)) (List.mem_of_getElem? (i := 8) rfl)
theorem dL_law_1475 : decode cL_law 1475 = .ok (.iconst 4, 1) := dgL_law_26 (1475, (.iconst 4, 1)) (List.mem_of_getElem? (i := 9) rfl)
theorem dL_law_1476 : decode cL_law 1476 = .ok (.iadd, 1) := dgL_law_26 (1476, (.iadd, 1)) (List.mem_of_getElem? (i := 10) rfl)
theorem dL_law_1477 : decode cL_law 1477 = .ok (.iaload, 1) := dgL_law_26 (1477, (.iaload, 1)) (List.mem_of_getElem? (i := 11) rfl)
theorem dL_law_1478 : decode cL_law 1478 = .ok (.invokevirtual 171, 3) := dgL_law_26 (1478, (.invokevirtual 171, 3)) (List.mem_of_getElem? (i := 12) rfl)
theorem dL_law_1481 : decode cL_law 1481 = .ok (.pop, 1) := dgL_law_26 (1481, (.pop, 1)) (List.mem_of_getElem? (i := 13) rfl)
theorem dL_law_1482 : decode cL_law 1482 = .ok (.aload_n 2, 1) := dgL_law_26 (1482, (.aload_n 2, 1)) (List.mem_of_getElem? (i := 14) rfl)
theorem dL_law_1483 : decode cL_law 1483 = .ok (.aload_n 0, 1) := dgL_law_26 (1483, (.aload_n 0, 1)) (List.mem_of_getElem? (i := 15) rfl)
theorem dL_law_1484 : decode cL_law 1484 = .ok (.iload_n 3, 1) := dgL_law_26 (1484, (.iload_n 3, 1)) (List.mem_of_getElem? (i := 16) rfl)
theorem dL_law_1485 : decode cL_law 1485 = .ok (.iconst 1, 1) := dgL_law_26 (1485, (.iconst 1, 1)) (List.mem_of_getElem? (i := 17) rfl)
theorem dL_law_1486 : decode cL_law 1486 = .ok (.iadd, 1) := dgL_law_26 (1486, (.iadd, 1)) (List.mem_of_getElem? (i := 18) rfl)
theorem dL_law_1487 : decode cL_law 1487 = .ok (.iaload, 1) := dgL_law_26 (1487, (.iaload, 1)) (List.mem_of_getElem? (i := 19) rfl)
theorem dL_law_1488 : decode cL_law 1488 = .ok (.aload_n 0, 1) := dgL_law_26 (1488, (.aload_n 0, 1)) (List.mem_of_getElem? (i := 20) rfl)
theorem dL_law_1489 : decode cL_law 1489 = .ok (.iload_n 3, 1) := dgL_law_26 (1489, (.iload_n 3, 1)) (List.mem_of_getElem? (i := 21) rfl)
theorem dL_law_1490 : decode cL_law 1490 = .ok (.iconst 2, 1) := dgL_law_26 (1490, (.iconst 2, 1)) (List.mem_of_getElem? (i := 22) rfl)
theorem dL_law_1491 : decode cL_law 1491 = .ok (.iadd, 1) := dgL_law_26 (1491, (.iadd, 1)) (List.mem_of_getElem? (i := 23) rfl)
theorem dL_law_1492 : decode cL_law 1492 = .ok (.iaload, 1) := dgL_law_26 (1492, (.iaload, 1)) (List.mem_of_getElem? (i := 24) rfl)
theorem dL_law_1493 : decode cL_law 1493 = .ok (.aload_n 0, 1) := dgL_law_26 (1493, (.aload_n 0, 1)) (List.mem_of_getElem? (i := 25) rfl)
theorem dL_law_1494 : decode cL_law 1494 = .ok (.iload_n 3, 1) := dgL_law_26 (1494, (.iload_n 3, 1)) (List.mem_of_getElem? (i := 26) rfl)
theorem dL_law_1495 : decode cL_law 1495 = .ok (.iconst 3, 1) := dgL_law_26 (1495, (.iconst 3, 1)) (List.mem_of_getElem? (i := 27) rfl)
theorem dL_law_1496 : decode cL_law 1496 = .ok (.iadd, 1) := dgL_law_26 (1496, (.iadd, 1)) (List.mem_of_getElem? (i := 28) rfl)
theorem dL_law_1497 : decode cL_law 1497 = .ok (.iaload, 1) := dgL_law_26 (1497, (.iaload, 1)) (List.mem_of_getElem? (i := 29) rfl)
theorem dL_law_1498 : decode cL_law 1498 = .ok (.aload_n 0, 1) := dgL_law_26 (1498, (.aload_n 0, 1)) (List.mem_of_getElem? (i := 30) rfl)
theorem dL_law_1499 : decode cL_law 1499 = .ok (.iload_n 3, 1) := dgL_law_26 (1499, (.iload_n 3, 1)) (List.mem_of_getElem? (i := 31) rfl)
theorem dL_law_1500 : decode cL_law 1500 = .ok (.iconst 4, 1) := dgL_law_26 (1500, (.iconst 4, 1)) (List.mem_of_getElem? (i := 32) rfl)
theorem dL_law_1501 : decode cL_law 1501 = .ok (.iadd, 1) := dgL_law_26 (1501, (.iadd, 1)) (List.mem_of_getElem? (i := 33) rfl)
theorem dL_law_1502 : decode cL_law 1502 = .ok (.iaload, 1) := dgL_law_26 (1502, (.iaload, 1)) (List.mem_of_getElem? (i := 34) rfl)
theorem dL_law_1503 : decode cL_law 1503 = .ok (.invokevirtual 174, 3) := dgL_law_26 (1503, (.invokevirtual 174, 3)) (List.mem_of_getElem? (i := 35) rfl)
theorem dL_law_1506 : decode cL_law 1506 = .ok (.pop, 1) := dgL_law_26 (1506, (.pop, 1)) (List.mem_of_getElem? (i := 36) rfl)
theorem dL_law_1507 : decode cL_law 1507 = .ok (.goto 141, 3) := dgL_law_26 (1507, (.goto 141, 3)) (List.mem_of_getElem? (i := 37) rfl)
theorem dL_law_1510 : decode cL_law 1510 = .ok (.aload_n 1, 1) := dgL_law_26 (1510, (.aload_n 1, 1)) (List.mem_of_getElem? (i := 38) rfl)
theorem dL_law_1511 : decode cL_law 1511 = .ok (.aload_n 0, 1) := dgL_law_26 (1511, (.aload_n 0, 1)) (List.mem_of_getElem? (i := 39) rfl)
theorem dgL_law_27 : ∀ r ∈ ([(1512, (.iload_n 3, 1)), (1513, (.iconst 1, 1)), (1514, (.iadd, 1)), (1515, (.iaload, 1)), (1516, (.aload_n 0, 1)), (1517, (.iload_n 3, 1)), (1518, (.iconst 2, 1)), (1519, (.iadd, 1)), (1520, (.iaload, 1)), (1521, (.invokevirtual 175, 3)), (1524, (.pop, 1)), (1525, (.aload_n 2, 1)), (1526, (.aload_n 0, 1)), (1527, (.iload_n 3, 1)), (1528, (.iconst 1, 1)), (1529, (.iadd, 1)), (1530, (.iaload, 1)), (1531, (.aload_n 0, 1)), (1532, (.iload_n 3, 1)), (1533, (.iconst 2, 1)), (1534, (.iadd, 1)), (1535, (.iaload, 1)), (1536, (.invokevirtual 178, 3)), (1539, (.pop, 1)), (1540, (.goto 108, 3)), (1543, (.aload_n 1, 1)), (1544, (.aload_n 0, 1)), (1545, (.iload_n 3, 1)), (1546, (.iconst 1, 1)), (1547, (.iadd, 1)), (1548, (.iaload, 1)), (1549, (.invokevirtual 179, 3)), (1552, (.pop, 1)), (1553, (.aload_n 2, 1)), (1554, (.aload_n 0, 1)), (1555, (.iload_n 3, 1)), (1556, (.iconst 1, 1)), (1557, (.iadd, 1)), (1558, (.iaload, 1)), (1559, (.invokevirtual 182, 3))] : List (Nat × (Instr × Nat))), decode cL_law r.1 = .ok r.2 := by decide +kernel
theorem dL_law_1512 : decode cL_law 1512 = .ok (.iload_n 3, 1) := dgL_law_27 (1512, (.iload_n 3, 1)) (List.mem_of_getElem? (i := 0) rfl)
theorem dL_law_1513 : decode cL_law 1513 = .ok (.iconst 1, 1) := dgL_law_27 (1513, (.iconst 1, 1)) (List.mem_of_getElem? (i := 1) rfl)
theorem dL_law_1514 : decode cL_law 1514 = .ok (.iadd, 1) := dgL_law_27 (1514, (.iadd, 1)) (List.mem_of_getElem? (i := 2) rfl)
theorem dL_law_1515 : decode cL_law 1515 = .ok (.iaload, 1) := dgL_law_27 (1515, (.iaload, 1)) (List.mem_of_getElem? (i := 3) rfl)
theorem dL_law_1516 : decode cL_law 1516 = .ok (.aload_n 0, 1) := dgL_law_27 (1516, (.aload_n 0, 1)) (List.mem_of_getElem? (i := 4) rfl)
theorem dL_law_1517 : decode cL_law 1517 = .ok (.iload_n 3, 1) := dgL_law_27 (1517, (.iload_n 3, 1)) (List.mem_of_getElem? (i := 5) rfl)
theorem dL_law_1518 : decode cL_law 1518 = .ok (.iconst 2, 1) := dgL_law_27 (1518, (.iconst 2, 1)) (List.mem_of_getElem? (i := 6) rfl)
theorem dL_law_1519 : decode cL_law 1519 = .ok (.iadd, 1) := dgL_law_27 (1519, (.iadd, 1)) (List.mem_of_getElem? (i := 7) rfl)
theorem dL_law_1520 : decode cL_law 1520 = .ok (.iaload, 1) := dgL_law_27 (1520, (.iaload, 1)) (List.mem_of_getElem? (i := 8) rfl)
theorem dL_law_1521 : decode cL_law 1521 = .ok (.invokevirtual 175, 3) := dgL_law_27 (1521, (.invokevirtual 175, 3)) (List.mem_of_getElem? (i := 9) rfl)
theorem dL_law_1524 : decode cL_law 1524 = .ok (.pop, 1) := dgL_law_27 (1524, (.pop, 1)) (List.mem_of_getElem? (i := 10) rfl)
theorem dL_law_1525 : decode cL_law 1525 = .ok (.aload_n 2, 1) := dgL_law_27 (1525, (.aload_n 2, 1)) (List.mem_of_getElem? (i := 11) rfl)
theorem dL_law_1526 : decode cL_law 1526 = .ok (.aload_n 0, 1) := dgL_law_27 (1526, (.aload_n 0, 1)) (List.mem_of_getElem? (i := 12) rfl)
theorem dL_law_1527 : decode cL_law 1527 = .ok (.iload_n 3, 1) := dgL_law_27 (1527, (.iload_n 3, 1)) (List.mem_of_getElem? (i := 13) rfl)
theorem dL_law_1528 : decode cL_law 1528 = .ok (.iconst 1, 1) := dgL_law_27 (1528, (.iconst 1, 1)) (List.mem_of_getElem? (i := 14) rfl)
theorem dL_law_1529 : decode cL_law 1529 = .ok (.iadd, 1) := dgL_law_27 (1529, (.iadd, 1)) (List.mem_of_getElem? (i := 15) rfl)
theorem dL_law_1530 : decode cL_law 1530 = .ok (.iaload, 1) := dgL_law_27 (1530, (.iaload, 1)) (List.mem_of_getElem? (i := 16) rfl)
theorem dL_law_1531 : decode cL_law 1531 = .ok (.aload_n 0, 1) := dgL_law_27 (1531, (.aload_n 0, 1)) (List.mem_of_getElem? (i := 17) rfl)
theorem dL_law_1532 : decode cL_law 1532 = .ok (.iload_n 3, 1) := dgL_law_27 (1532, (.iload_n 3, 1)) (List.mem_of_getElem? (i := 18) rfl)
theorem dL_law_1533 : decode cL_law 1533 = .ok (.iconst 2, 1) := dgL_law_27 (1533, (.iconst 2, 1)) (List.mem_of_getElem? (i := 19) rfl)
theorem dL_law_1534 : decode cL_law 1534 = .ok (.iadd, 1) := dgL_law_27 (1534, (.iadd, 1)) (List.mem_of_getElem? (i := 20) rfl)
theorem dL_law_1535 : decode cL_law 1535 = .ok (.iaload, 1) := dgL_law_27 (1535, (.iaload, 1)) (List.mem_of_getElem? (i := 21) rfl)
theorem dL_law_1536 : decode cL_law 1536 = .ok (.invokevirtual 178, 3) := dgL_law_27 (1536, (.invokevirtual 178, 3)) (List.mem_of_getElem? (i := 22) rfl)
theorem dL_law_1539 : decode cL_law 1539 = .ok (.pop, 1) := dgL_law_27 (1539, (.pop, 1)) (List.mem_of_getElem? (i := 23) rfl)
theorem dL_law_1540 : decode cL_law 1540 = .ok (.goto 108, 3) := dgL_law_27 (1540, (.goto 108, 3)) (List.mem_of_getElem? (i := 24) rfl)
theorem dL_law_1543 : decode cL_law 1543 = .ok (.aload_n 1, 1) := dgL_law_27 (1543, (.aload_n 1, 1)) (List.mem_of_getElem? (i := 25) rfl)
theorem dL_law_1544 : decode cL_law 1544 = .ok (.aload_n 0, 1) := dgL_law_27 (1544, (.aload_n 0, 1)) (List.mem_of_getElem? (i := 26) rfl)
theorem dL_law_1545 : decode cL_law 1545 = .ok (.iload_n 3, 1) := dgL_law_27 (1545, (.iload_n 3, 1)) (List.mem_of_getElem? (i := 27) rfl)
theorem dL_law_1546 : decode cL_law 1546 = .ok (.iconst 1, 1) := dgL_law_27 (1546, (.iconst 1, 1)) (List.mem_of_getElem? (i := 28) rfl)
theorem dL_law_1547 : decode cL_law 1547 = .ok (.iadd, 1) := dgL_law_27 (1547, (.iadd, 1)) (List.mem_of_getElem? (i := 29) rfl)
theorem dL_law_1548 : decode cL_law 1548 = .ok (.iaload, 1) := dgL_law_27 (1548, (.iaload, 1)) (List.mem_of_getElem? (i := 30) rfl)
theorem dL_law_1549 : decode cL_law 1549 = .ok (.invokevirtual 179, 3) := dgL_law_27 (1549, (.invokevirtual 179, 3)) (List.mem_of_getElem? (i := 31) rfl)
theorem dL_law_1552 : decode cL_law 1552 = .ok (.pop, 1) := dgL_law_27 (1552, (.pop, 1)) (List.mem_of_getElem? (i := 32) rfl)
theorem dL_law_1553 : decode cL_law 1553 = .ok (.aload_n 2, 1) := dgL_law_27 (1553, (.aload_n 2, 1)) (List.mem_of_getElem? (i := 33) rfl)
theorem dL_law_1554 : decode cL_law 1554 = .ok (.aload_n 0, 1) := dgL_law_27 (1554, (.aload_n 0, 1)) (List.mem_of_getElem? (i := 34) rfl)
theorem dL_law_1555 : decode cL_law 1555 = .ok (.iload_n 3, 1) := dgL_law_27 (1555, (.iload_n 3, 1)) (List.mem_of_getElem? (i := 35) rfl)
theorem dL_law_1556 : decode cL_law 1556 = .ok (.iconst 1, 1) := dgL_law_27 (1556, (.iconst 1, 1)) (List.mem_of_getElem? (i := 36) rfl)
theorem dL_law_1557 : decode cL_law 1557 = .ok (.iadd, 1) := dgL_law_27 (1557, (.iadd, 1)) (List.mem_of_getElem? (i := 37) rfl)
theorem dL_law_1558 : decode cL_law 1558 = .ok (.iaload, 1) := dgL_law_27 (1558, (.iaload, 1)) (List.mem_of_getElem? (i := 38) rfl)
theorem dL_law_1559 : decode cL_law 1559 = .ok (.invokevirtual 182, 3) := dgL_law_27 (1559, (.invokevirtual 182, 3)) (List.mem_of_getElem? (i := 39) rfl)
theorem dgL_law_28 : ∀ r ∈ ([(1562, (.pop, 1)), (1563, (.goto 85, 3)), (1566, (.aload_n 1, 1)), (1567, (.aload_n 0, 1)), (1568, (.iload_n 3, 1)), (1569, (.iconst 1, 1)), (1570, (.iadd, 1)), (1571, (.iaload, 1)), (1572, (.invokevirtual 183, 3)), (1575, (.pop, 1)), (1576, (.aload_n 2, 1)), (1577, (.aload_n 0, 1)), (1578, (.iload_n 3, 1)), (1579, (.iconst 1, 1)), (1580, (.iadd, 1)), (1581, (.iaload, 1)), (1582, (.invokevirtual 186, 3)), (1585, (.pop, 1)), (1586, (.goto 62, 3)), (1589, (.aload_n 1, 1)), (1590, (.aload_n 0, 1)), (1591, (.iload_n 3, 1)), (1592, (.iconst 1, 1)), (1593, (.iadd, 1)), (1594, (.iaload, 1)), (1595, (.invokevirtual 187, 3)), (1598, (.pop, 1)), (1599, (.aload_n 2, 1)), (1600, (.aload_n 0, 1)), (1601, (.iload_n 3, 1)), (1602, (.iconst 1, 1)), (1603, (.iadd, 1)), (1604, (.iaload, 1)), (1605, (.invokevirtual 190, 3)), (1608, (.pop, 1)), (1609, (.goto 39, 3)), (1612, (.aload_n 1, 1)), (1613, (.aload_n 0, 1)), (1614, (.iload_n 3, 1)), (1615, (.iconst 1, 1))] : List (Nat × (Instr × Nat))), decode cL_law r.1 = .ok r.2 := by decide +kernel
theorem dL_law_1562 : decode cL_law 1562 = .ok (.pop, 1) := dgL_law_28 (1562, (.pop, 1)) (List.mem_of_getElem? (i := 0) rfl)
theorem dL_law_1563 : decode cL_law 1563 = .ok (.goto 85, 3) := dgL_law_28 (1563, (.goto 85, 3)) (List.mem_of_getElem? (i := 1) rfl)
theorem dL_law_1566 : decode cL_law 1566 = .ok (.aload_n 1, 1) := dgL_law_28 (1566, (.aload_n 1, 1)) (List.mem_of_getElem? (i := 2) rfl)
theorem dL_law_1567 : decode cL_law 1567 = .ok (.aload_n 0, 1) := dgL_law_28 (1567, (.aload_n 0, 1)) (List.mem_of_getElem? (i := 3) rfl)
theorem dL_law_1568 : decode cL_law 1568 = .ok (.iload_n 3, 1) := dgL_law_28 (1568, (.iload_n 3, 1)) (List.mem_of_getElem? (i := 4) rfl)
theorem dL_law_1569 : decode cL_law 1569 = .ok (.iconst 1, 1) := dgL_law_28 (1569, (.iconst 1, 1)) (List.mem_of_getElem? (i := 5) rfl)
theorem dL_law_1570 : decode cL_law 1570 = .ok (.iadd, 1) := dgL_law_28 (1570, (.iadd, 1)) (List.mem_of_getElem? (i := 6) rfl)
theorem dL_law_1571 : decode cL_law 1571 = .ok (.iaload, 1) := dgL_law_28 (1571, (.iaload, 1)) (List.mem_of_getElem? (i := 7) rfl)
theorem dL_law_1572 : decode cL_law 1572 = .ok (.invokevirtual 183, 3) := dgL_law_28 (1572, (.invokevirtual 183, 3)) (List.mem_of_getElem? (i := 8) rfl)
theorem dL_law_1575 : decode cL_law 1575 = .ok (.pop, 1) := dgL_law_28 (1575, (.pop, 1)) (List.mem_of_getElem? (i := 9) rfl)
theorem dL_law_1576 : decode cL_law 1576 = .ok (.aload_n 2, 1) := dgL_law_28 (1576, (.aload_n 2, 1)) (List.mem_of_getElem? (i := 10) rfl)
theorem dL_law_1577 : decode cL_law 1577 = .ok (.aload_n 0, 1) := dgL_law_28 (1577, (.aload_n 0, 1)) (List.mem_of_getElem? (i := 11) rfl)
theorem dL_law_1578 : decode cL_law 1578 = .ok (.iload_n 3, 1) := dgL_law_28 (1578, (.iload_n 3, 1)) (List.mem_of_getElem? (i := 12) rfl)
theorem dL_law_1579 : decode cL_law 1579 = .ok (.iconst 1, 1) := dgL_law_28 (1579, (.iconst 1, 1)) (List.mem_of_getElem? (i := 13) rfl)
theorem dL_law_1580 : decode cL_law 1580 = .ok (.iadd, 1) := dgL_law_28 (1580, (.iadd, 1)) (List.mem_of_getElem? (i := 14) rfl)
theorem dL_law_1581 : decode cL_law 1581 = .ok (.iaload, 1) := dgL_law_28 (1581, (.iaload, 1)) (List.mem_of_getElem? (i := 15) rfl)
theorem dL_law_1582 : decode cL_law 1582 = .ok (.invokevirtual 186, 3) := dgL_law_28 (1582, (.invokevirtual 186, 3)) (List.mem_of_getElem? (i := 16) rfl)
theorem dL_law_1585 : decode cL_law 1585 = .ok (.pop, 1) := dgL_law_28 (1585, (.pop, 1)) (List.mem_of_getElem? (i := 17) rfl)
theorem dL_law_1586 : decode cL_law 1586 = .ok (.goto 62, 3) := dgL_law_28 (1586, (.goto 62, 3)) (List.mem_of_getElem? (i := 18) rfl)
theorem dL_law_1589 : decode cL_law 1589 = .ok (.aload_n 1, 1) := dgL_law_28 (1589, (.aload_n 1, 1)) (List.mem_of_getElem? (i := 19) rfl)
theorem dL_law_1590 : decode cL_law 1590 = .ok (.aload_n 0, 1) := dgL_law_28 (1590, (.aload_n 0, 1)) (List.mem_of_getElem? (i := 20) rfl)
theorem dL_law_1591 : decode cL_law 1591 = .ok (.iload_n 3, 1) := dgL_law_28 (1591, (.iload_n 3, 1)) (List.mem_of_getElem? (i := 21) rfl)
theorem dL_law_1592 : decode cL_law 1592 = .ok (.iconst 1, 1) := dgL_law_28 (1592, (.iconst 1, 1)) (List.mem_of_getElem? (i := 22) rfl)
theorem dL_law_1593 : decode cL_law 1593 = .ok (.iadd, 1) := dgL_law_28 (1593, (.iadd, 1)) (List.mem_of_getElem? (i := 23) rfl)
theorem dL_law_1594 : decode cL_law 1594 = .ok (.iaload, 1) := dgL_law_28 (1594, (.iaload, 1)) (List.mem_of_getElem? (i := 24) rfl)
theorem dL_law_1595 : decode cL_law 1595 = .ok (.invokevirtual 187, 3) := dgL_law_28 (1595, (.invokevirtual 187, 3)) (List.mem_of_getElem? (i := 25) rfl)
theorem dL_law_1598 : decode cL_law 1598 = .ok (.pop, 1) := dgL_law_28 (1598, (.pop, 1)) (List.mem_of_getElem? (i := 26) rfl)
theorem dL_law_1599 : decode cL_law 1599 = .ok (.aload_n 2, 1) := dgL_law_28 (1599, (.aload_n 2, 1)) (List.mem_of_getElem? (i := 27) rfl)
theorem dL_law_1600 : decode cL_law 1600 = .ok (.aload_n 0, 1) := dgL_law_28 (1600, (.aload_n 0, 1)) (List.mem_of_getElem? (i := 28) rfl)
theorem dL_law_1601 : decode cL_law 1601 = .ok (.iload_n 3, 1) := dgL_law_28 (1601, (.iload_n 3, 1)) (List.mem_of_getElem? (i := 29) rfl)
theorem dL_law_1602 : decode cL_law 1602 = .ok (.iconst 1, 1) := dgL_law_28 (1602, (.iconst 1, 1)) (List.mem_of_getElem? (i := 30) rfl)
theorem dL_law_1603 : decode cL_law 1603 = .ok (.iadd, 1) := dgL_law_28 (1603, (.iadd, 1)) (List.mem_of_getElem? (i := 31) rfl)
theorem dL_law_1604 : decode cL_law 1604 = .ok (.iaload, 1) := dgL_law_28 (1604, (.iaload, 1)) (List.mem_of_getElem? (i := 32) rfl)
theorem dL_law_1605 : decode cL_law 1605 = .ok (.invokevirtual 190, 3) := dgL_law_28 (1605, (.invokevirtual 190, 3)) (List.mem_of_getElem? (i := 33) rfl)
theorem dL_law_1608 : decode cL_law 1608 = .ok (.pop, 1) := dgL_law_28 (1608, (.pop, 1)) (List.mem_of_getElem? (i := 34) rfl)
theorem dL_law_1609 : decode cL_law 1609 = .ok (.goto 39, 3) := dgL_law_28 (1609, (.goto 39, 3)) (List.mem_of_getElem? (i := 35) rfl)
theorem dL_law_1612 : decode cL_law 1612 = .ok (.aload_n 1, 1) := dgL_law_28 (1612, (.aload_n 1, 1)) (List.mem_of_getElem? (i := 36) rfl)
theorem dL_law_1613 : decode cL_law 1613 = .ok (.aload_n 0, 1) := dgL_law_28 (1613, (.aload_n 0, 1)) (List.mem_of_getElem? (i := 37) rfl)
theorem dL_law_1614 : decode cL_law 1614 = .ok (.iload_n 3, 1) := dgL_law_28 (1614, (.iload_n 3, 1)) (List.mem_of_getElem? (i := 38) rfl)
theorem dL_law_1615 : decode cL_law 1615 = .ok (.iconst 1, 1) := dgL_law_28 (1615, (.iconst 1, 1)) (List.mem_of_getElem? (i := 39) rfl)
theorem dgL_law_29 : ∀ r ∈ ([(1616, (.iadd, 1)), (1617, (.iaload, 1)), (1618, (.invokevirtual 191, 3)), (1621, (.pop, 1)), (1622, (.aload_n 2, 1)), (1623, (.aload_n 0, 1)), (1624, (.iload_n 3, 1)), (1625, (.iconst 1, 1)), (1626, (.iadd, 1)), (1627, (.iaload, 1)), (1628, (.invokevirtual 194, 3)), (1631, (.pop, 1)), (1632, (.goto 16, 3)), (1635, (.aload_n 1, 1)), (1636, (.invokevirtual 195, 3)), (1639, (.pop, 1)), (1640, (.aload_n 2, 1)), (1641, (.invokevirtual 198, 3)), (1644, (.pop, 1)), (1645, (.goto 3, 3)), (1648, (.iinc 3 7, 3)), (1651, (.goto (-1633), 3)), (1654, (.iconst 1, 1)), (1655, (.ireturn, 1))] : List (Nat × (Instr × Nat))), decode cL_law r.1 = .ok r.2 := by decide +kernel
theorem dL_law_1616 : decode cL_law 1616 = .ok (.iadd, 1) := dgL_law_29 (1616, (.iadd, 1)) (List.mem_of_getElem? (i := 0) rfl)
theorem dL_law_1617 : decode cL_law 1617 = .ok (.iaload, 1) := dgL_law_29 (1617, (.iaload, 1)) (List.mem_of_getElem? (i := 1) rfl)
theorem dL_law_1618 : decode cL_law 1618 = .ok (.invokevirtual 191, 3) := dgL_law_29 (1618, (.invokevirtual 191, 3)) (List.mem_of_getElem? (i := 2) rfl)
theorem dL_law_1621 : decode cL_law 1621 = .ok (.pop, 1) := dgL_law_29 (1621, (.pop, 1)) (List.mem_of_getElem? (i := 3) rfl)
theorem dL_law_1622 : decode cL_law 1622 = .ok (.aload_n 2, 1) := dgL_law_29 (1622, (.aload_n 2, 1)) (List.mem_of_getElem? (i := 4) rfl)
theorem dL_law_1623 : decode cL_law 1623 = .ok (.aload_n 0, 1) := dgL_law_29 (1623, (.aload_n 0, 1)) (List.mem_of_getElem? (i := 5) rfl)
theorem dL_law_1624 : decode cL_law 1624 = .ok (.iload_n 3, 1) := dgL_law_29 (1624, (.iload_n 3, 1)) (List.mem_of_getElem? (i := 6) rfl)
theorem dL_law_1625 : decode cL_law 1625 = .ok (.iconst 1, 1) := dgL_law_29 (1625, (.iconst 1, 1)) (List.mem_of_getElem? (i := 7) rfl)
theorem dL_law_1626 : decode cL_law 1626 = .ok (.iadd, 1) := dgL_law_29 (1626, (.iadd, 1)) (List.mem_of_getElem? (i := 8) rfl)
theorem dL_law_1627 : decode cL_law 1627 = .ok (.iaload, 1) := dgL_law_29 (1627, (.iaload, 1)) (List.mem_of_getElem? (i := 9) rfl)
theorem dL_law_1628 : decode cL_law 1628 = .ok (.invokevirtual 194, 3) := dgL_law_29 (1628, (.invokevirtual 194, 3)) (List.mem_of_getElem? (i := 10) rfl)
theorem dL_law_1631 : decode cL_law 1631 = .ok (.pop, 1) := dgL_law_29 (1631, (.pop, 1)) (List.mem_of_getElem? (i := 11) rfl)
theorem dL_law_1632 : decode cL_law 1632 = .ok (.goto 16, 3) := dgL_law_29 (1632, (.goto 16, 3)) (List.mem_of_getElem? (i := 12) rfl)
theorem dL_law_1635 : decode cL_law 1635 = .ok (.aload_n 1, 1) := dgL_law_29 (1635, (.aload_n 1, 1)) (List.mem_of_getElem? (i := 13) rfl)
theorem dL_law_1636 : decode cL_law 1636 = .ok (.invokevirtual 195, 3) := dgL_law_29 (1636, (.invokevirtual 195, 3)) (List.mem_of_getElem? (i := 14) rfl)
theorem dL_law_1639 : decode cL_law 1639 = .ok (.pop, 1) := dgL_law_29 (1639, (.pop, 1)) (List.mem_of_getElem? (i := 15) rfl)
theorem dL_law_1640 : decode cL_law 1640 = .ok (.aload_n 2, 1) := dgL_law_29 (1640, (.aload_n 2, 1)) (List.mem_of_getElem? (i := 16) rfl)
theorem dL_law_1641 : decode cL_law 1641 = .ok (.invokevirtual 198, 3) := dgL_law_29 (1641, (.invokevirtual 198, 3)) (List.mem_of_getElem? (i := 17) rfl)
theorem dL_law_1644 : decode cL_law 1644 = .ok (.pop, 1) := dgL_law_29 (1644, (.pop, 1)) (List.mem_of_getElem? (i := 18) rfl)
theorem dL_law_1645 : decode cL_law 1645 = .ok (.goto 3, 3) := dgL_law_29 (1645, (.goto 3, 3)) (List.mem_of_getElem? (i := 19) rfl)
theorem dL_law_1648 : decode cL_law 1648 = .ok (.iinc 3 7, 3) := dgL_law_29 (1648, (.iinc 3 7, 3)) (List.mem_of_getElem? (i := 20) rfl)
theorem dL_law_1651 : decode cL_law 1651 = .ok (.goto (-1633), 3) := dgL_law_29 (1651, (.goto (-1633), 3)) (List.mem_of_getElem? (i := 21) rfl)
theorem dL_law_1654 : decode cL_law 1654 = .ok (.iconst 1, 1) := dgL_law_29 (1654, (.iconst 1, 1)) (List.mem_of_getElem? (i := 22) rfl)
theorem dL_law_1655 : decode cL_law 1655 = .ok (.ireturn, 1) := dgL_law_29 (1655, (.ireturn, 1)) (List.mem_of_getElem? (i := 23) rfl)
theorem ml_L_13 : Cond.methodLink RL 13 yX11_wall ∈ tblG := tg 496 (by decide +kernel) (by decide +kernel)
theorem im_X11_wall : Cond.instanceMethod yX11_wall ∈ tblG := tg 497 (by decide +kernel) (by decide +kernel)
theorem se_X11_wall : Cond.selects RX11 yX11_wall yX11_wall ∈ tblG := tg 498 (by decide +kernel) (by decide +kernel)
theorem cd_X11_wall : Cond.code yX11_wall cX11_wall 4 (some .int) ∈ tblG := tg 499 (by decide +kernel) (by decide +kernel)
theorem gW_X11_wall : GoodIn tblG (wsG yX11_wall cX11_wall 4 (some .int)) := tgi cd_X11_wall
theorem gV_L_13 : GoodIn tblG (wsV RL 13 RX11 yX11_wall (wsG yX11_wall cX11_wall 4 (some .int))) := tgV ml_L_13 im_X11_wall se_X11_wall ini_X11 gW_X11_wall
theorem hv_X11_wall : yX11_wall.cls = RX11 ∧ yX11_wall.cls ≠ "java/lang/invoke/MethodHandle" ∧ yX11_wall.cls ≠ "java/lang/invoke/VarHandle" ∧ (parseMethodDescriptor yX11_wall.desc).map (fun d => d.parameters.length) = some 2 := by decide +kernel
theorem ml_L_18 : Cond.methodLink RL 18 yX11_glass ∈ tblG := tg 531 (by decide +kernel) (by decide +kernel)
theorem im_X11_glass : Cond.instanceMethod yX11_glass ∈ tblG := tg 532 (by decide +kernel) (by decide +kernel)
theorem se_X11_glass : Cond.selects RX11 yX11_glass yX11_glass ∈ tblG := tg 533 (by decide +kernel) (by decide +kernel)
theorem cd_X11_glass : Cond.code yX11_glass cX11_glass 6 (some .int) ∈ tblG := tg 534 (by decide +kernel) (by decide +kernel)
theorem gW_X11_glass : GoodIn tblG (wsG yX11_glass cX11_glass 6 (some .int)) := tgi cd_X11_glass
theorem gV_L_18 : GoodIn tblG (wsV RL 18 RX11 yX11_glass (wsG yX11_glass cX11_glass 6 (some .int))) := tgV ml_L_18 im_X11_glass se_X11_glass ini_X11 gW_X11_glass
theorem hv_X11_glass : yX11_glass.cls = RX11 ∧ yX11_glass.cls ≠ "java/lang/invoke/MethodHandle" ∧ yX11_glass.cls ≠ "java/lang/invoke/VarHandle" ∧ (parseMethodDescriptor yX11_glass.desc).map (fun d => d.parameters.length) = some 4 := by decide +kernel
theorem ml_L_23 : Cond.methodLink RL 23 yX11_turn ∈ tblG := tg 566 (by decide +kernel) (by decide +kernel)
theorem im_X11_turn : Cond.instanceMethod yX11_turn ∈ tblG := tg 567 (by decide +kernel) (by decide +kernel)
theorem se_X11_turn : Cond.selects RX11 yX11_turn yX11_turn ∈ tblG := tg 568 (by decide +kernel) (by decide +kernel)
theorem cd_X11_turn : Cond.code yX11_turn cX11_turn 5 (some .int) ∈ tblG := tg 569 (by decide +kernel) (by decide +kernel)
theorem gW_X11_turn : GoodIn tblG (wsG yX11_turn cX11_turn 5 (some .int)) := tgi cd_X11_turn
theorem gV_L_23 : GoodIn tblG (wsV RL 23 RX11 yX11_turn (wsG yX11_turn cX11_turn 5 (some .int))) := tgV ml_L_23 im_X11_turn se_X11_turn ini_X11 gW_X11_turn
theorem hv_X11_turn : yX11_turn.cls = RX11 ∧ yX11_turn.cls ≠ "java/lang/invoke/MethodHandle" ∧ yX11_turn.cls ≠ "java/lang/invoke/VarHandle" ∧ (parseMethodDescriptor yX11_turn.desc).map (fun d => d.parameters.length) = some 3 := by decide +kernel
theorem ml_L_28 : Cond.methodLink RL 28 yX11_of ∈ tblG := tg 576 (by decide +kernel) (by decide +kernel)
theorem im_X11_of : Cond.instanceMethod yX11_of ∈ tblG := tg 577 (by decide +kernel) (by decide +kernel)
theorem se_X11_of : Cond.selects RX11 yX11_of yX11_of ∈ tblG := tg 578 (by decide +kernel) (by decide +kernel)
theorem cd_X11_of : Cond.code yX11_of cX11_of 3 (some .int) ∈ tblG := tg 579 (by decide +kernel) (by decide +kernel)
theorem gW_X11_of : GoodIn tblG (wsG yX11_of cX11_of 3 (some .int)) := tgi cd_X11_of
theorem gV_L_28 : GoodIn tblG (wsV RL 28 RX11 yX11_of (wsG yX11_of cX11_of 3 (some .int))) := tgV ml_L_28 im_X11_of se_X11_of ini_X11 gW_X11_of
theorem hv_X11_of : yX11_of.cls = RX11 ∧ yX11_of.cls ≠ "java/lang/invoke/MethodHandle" ∧ yX11_of.cls ≠ "java/lang/invoke/VarHandle" ∧ (parseMethodDescriptor yX11_of.desc).map (fun d => d.parameters.length) = some 2 := by decide +kernel
theorem ml_L_32 : Cond.methodLink RL 32 yX11_body ∈ tblG := tg 580 (by decide +kernel) (by decide +kernel)
theorem im_X11_body : Cond.instanceMethod yX11_body ∈ tblG := tg 581 (by decide +kernel) (by decide +kernel)
theorem se_X11_body : Cond.selects RX11 yX11_body yX11_body ∈ tblG := tg 582 (by decide +kernel) (by decide +kernel)
theorem cd_X11_body : Cond.code yX11_body cX11_body 1 (some .int) ∈ tblG := tg 583 (by decide +kernel) (by decide +kernel)
theorem gW_X11_body : GoodIn tblG (wsG yX11_body cX11_body 1 (some .int)) := tgi cd_X11_body
theorem gV_L_32 : GoodIn tblG (wsV RL 32 RX11 yX11_body (wsG yX11_body cX11_body 1 (some .int))) := tgV ml_L_32 im_X11_body se_X11_body ini_X11 gW_X11_body
theorem hv_X11_body : yX11_body.cls = RX11 ∧ yX11_body.cls ≠ "java/lang/invoke/MethodHandle" ∧ yX11_body.cls ≠ "java/lang/invoke/VarHandle" ∧ (parseMethodDescriptor yX11_body.desc).map (fun d => d.parameters.length) = some 0 := by decide +kernel
theorem ml_L_37 : Cond.methodLink RL 37 yX11_stay ∈ tblG := tg 584 (by decide +kernel) (by decide +kernel)
theorem im_X11_stay : Cond.instanceMethod yX11_stay ∈ tblG := tg 585 (by decide +kernel) (by decide +kernel)
theorem se_X11_stay : Cond.selects RX11 yX11_stay yX11_stay ∈ tblG := tg 586 (by decide +kernel) (by decide +kernel)
theorem cd_X11_stay : Cond.code yX11_stay cX11_stay 5 (some .int) ∈ tblG := tg 587 (by decide +kernel) (by decide +kernel)
theorem gW_X11_stay : GoodIn tblG (wsG yX11_stay cX11_stay 5 (some .int)) := tgi cd_X11_stay
theorem gV_L_37 : GoodIn tblG (wsV RL 37 RX11 yX11_stay (wsG yX11_stay cX11_stay 5 (some .int))) := tgV ml_L_37 im_X11_stay se_X11_stay ini_X11 gW_X11_stay
theorem hv_X11_stay : yX11_stay.cls = RX11 ∧ yX11_stay.cls ≠ "java/lang/invoke/MethodHandle" ∧ yX11_stay.cls ≠ "java/lang/invoke/VarHandle" ∧ (parseMethodDescriptor yX11_stay.desc).map (fun d => d.parameters.length) = some 4 := by decide +kernel
theorem ml_L_41 : Cond.methodLink RL 41 yX11_where ∈ tblG := tg 604 (by decide +kernel) (by decide +kernel)
theorem im_X11_where : Cond.instanceMethod yX11_where ∈ tblG := tg 605 (by decide +kernel) (by decide +kernel)
theorem se_X11_where : Cond.selects RX11 yX11_where yX11_where ∈ tblG := tg 606 (by decide +kernel) (by decide +kernel)
theorem cd_X11_where : Cond.code yX11_where cX11_where 3 (some .int) ∈ tblG := tg 607 (by decide +kernel) (by decide +kernel)
theorem gW_X11_where : GoodIn tblG (wsG yX11_where cX11_where 3 (some .int)) := tgi cd_X11_where
theorem gV_L_41 : GoodIn tblG (wsV RL 41 RX11 yX11_where (wsG yX11_where cX11_where 3 (some .int))) := tgV ml_L_41 im_X11_where se_X11_where ini_X11 gW_X11_where
theorem hv_X11_where : yX11_where.cls = RX11 ∧ yX11_where.cls ≠ "java/lang/invoke/MethodHandle" ∧ yX11_where.cls ≠ "java/lang/invoke/VarHandle" ∧ (parseMethodDescriptor yX11_where.desc).map (fun d => d.parameters.length) = some 2 := by decide +kernel
theorem ml_L_45 : Cond.methodLink RL 45 yX11_least ∈ tblG := tg 608 (by decide +kernel) (by decide +kernel)
theorem im_X11_least : Cond.instanceMethod yX11_least ∈ tblG := tg 609 (by decide +kernel) (by decide +kernel)
theorem se_X11_least : Cond.selects RX11 yX11_least yX11_least ∈ tblG := tg 610 (by decide +kernel) (by decide +kernel)
theorem cd_X11_least : Cond.code yX11_least cX11_least 3 (some .int) ∈ tblG := tg 611 (by decide +kernel) (by decide +kernel)
theorem gW_X11_least : GoodIn tblG (wsG yX11_least cX11_least 3 (some .int)) := tgi cd_X11_least
theorem gV_L_45 : GoodIn tblG (wsV RL 45 RX11 yX11_least (wsG yX11_least cX11_least 3 (some .int))) := tgV ml_L_45 im_X11_least se_X11_least ini_X11 gW_X11_least
theorem hv_X11_least : yX11_least.cls = RX11 ∧ yX11_least.cls ≠ "java/lang/invoke/MethodHandle" ∧ yX11_least.cls ≠ "java/lang/invoke/VarHandle" ∧ (parseMethodDescriptor yX11_least.desc).map (fun d => d.parameters.length) = some 1 := by decide +kernel
theorem ml_L_50 : Cond.methodLink RL 50 yX11_feed ∈ tblG := tg 613 (by decide +kernel) (by decide +kernel)
theorem im_X11_feed : Cond.instanceMethod yX11_feed ∈ tblG := tg 614 (by decide +kernel) (by decide +kernel)
theorem se_X11_feed : Cond.selects RX11 yX11_feed yX11_feed ∈ tblG := tg 615 (by decide +kernel) (by decide +kernel)
theorem cd_X11_feed : Cond.code yX11_feed cX11_feed 6 (some .int) ∈ tblG := tg 616 (by decide +kernel) (by decide +kernel)
theorem gW_X11_feed : GoodIn tblG (wsG yX11_feed cX11_feed 6 (some .int)) := tgi cd_X11_feed
theorem gV_L_50 : GoodIn tblG (wsV RL 50 RX11 yX11_feed (wsG yX11_feed cX11_feed 6 (some .int))) := tgV ml_L_50 im_X11_feed se_X11_feed ini_X11 gW_X11_feed
theorem hv_X11_feed : yX11_feed.cls = RX11 ∧ yX11_feed.cls ≠ "java/lang/invoke/MethodHandle" ∧ yX11_feed.cls ≠ "java/lang/invoke/VarHandle" ∧ (parseMethodDescriptor yX11_feed.desc).map (fun d => d.parameters.length) = some 5 := by decide +kernel
theorem ml_L_55 : Cond.methodLink RL 55 yX11_end ∈ tblG := tg 621 (by decide +kernel) (by decide +kernel)
theorem im_X11_end : Cond.instanceMethod yX11_end ∈ tblG := tg 622 (by decide +kernel) (by decide +kernel)
theorem se_X11_end : Cond.selects RX11 yX11_end yX11_end ∈ tblG := tg 623 (by decide +kernel) (by decide +kernel)
theorem cd_X11_end : Cond.code yX11_end cX11_end 2 (some .int) ∈ tblG := tg 624 (by decide +kernel) (by decide +kernel)
theorem gW_X11_end : GoodIn tblG (wsG yX11_end cX11_end 2 (some .int)) := tgi cd_X11_end
theorem gV_L_55 : GoodIn tblG (wsV RL 55 RX11 yX11_end (wsG yX11_end cX11_end 2 (some .int))) := tgV ml_L_55 im_X11_end se_X11_end ini_X11 gW_X11_end
theorem hv_X11_end : yX11_end.cls = RX11 ∧ yX11_end.cls ≠ "java/lang/invoke/MethodHandle" ∧ yX11_end.cls ≠ "java/lang/invoke/VarHandle" ∧ (parseMethodDescriptor yX11_end.desc).map (fun d => d.parameters.length) = some 1 := by decide +kernel
theorem ml_L_59 : Cond.methodLink RL 59 yX11_row ∈ tblG := tg 625 (by decide +kernel) (by decide +kernel)
theorem im_X11_row : Cond.instanceMethod yX11_row ∈ tblG := tg 626 (by decide +kernel) (by decide +kernel)
theorem se_X11_row : Cond.selects RX11 yX11_row yX11_row ∈ tblG := tg 627 (by decide +kernel) (by decide +kernel)
theorem cd_X11_row : Cond.code yX11_row cX11_row 4 (some .int) ∈ tblG := tg 628 (by decide +kernel) (by decide +kernel)
theorem gW_X11_row : GoodIn tblG (wsG yX11_row cX11_row 4 (some .int)) := tgi cd_X11_row
theorem gV_L_59 : GoodIn tblG (wsV RL 59 RX11 yX11_row (wsG yX11_row cX11_row 4 (some .int))) := tgV ml_L_59 im_X11_row se_X11_row ini_X11 gW_X11_row
theorem hv_X11_row : yX11_row.cls = RX11 ∧ yX11_row.cls ≠ "java/lang/invoke/MethodHandle" ∧ yX11_row.cls ≠ "java/lang/invoke/VarHandle" ∧ (parseMethodDescriptor yX11_row.desc).map (fun d => d.parameters.length) = some 0 := by decide +kernel
theorem ml_L_63 : Cond.methodLink RL 63 yX11_faded ∈ tblG := tg 633 (by decide +kernel) (by decide +kernel)
theorem im_X11_faded : Cond.instanceMethod yX11_faded ∈ tblG := tg 634 (by decide +kernel) (by decide +kernel)
theorem se_X11_faded : Cond.selects RX11 yX11_faded yX11_faded ∈ tblG := tg 635 (by decide +kernel) (by decide +kernel)
theorem cd_X11_faded : Cond.code yX11_faded cX11_faded 1 (some .int) ∈ tblG := tg 636 (by decide +kernel) (by decide +kernel)
theorem gW_X11_faded : GoodIn tblG (wsG yX11_faded cX11_faded 1 (some .int)) := tgi cd_X11_faded
theorem gV_L_63 : GoodIn tblG (wsV RL 63 RX11 yX11_faded (wsG yX11_faded cX11_faded 1 (some .int))) := tgV ml_L_63 im_X11_faded se_X11_faded ini_X11 gW_X11_faded
theorem hv_X11_faded : yX11_faded.cls = RX11 ∧ yX11_faded.cls ≠ "java/lang/invoke/MethodHandle" ∧ yX11_faded.cls ≠ "java/lang/invoke/VarHandle" ∧ (parseMethodDescriptor yX11_faded.desc).map (fun d => d.parameters.length) = some 0 := by decide +kernel
theorem ml_L_67 : Cond.methodLink RL 67 yX11_law ∈ tblG := tg 637 (by decide +kernel) (by decide +kernel)
theorem im_X11_law : Cond.instanceMethod yX11_law ∈ tblG := tg 638 (by decide +kernel) (by decide +kernel)
theorem se_X11_law : Cond.selects RX11 yX11_law yX11_law ∈ tblG := tg 639 (by decide +kernel) (by decide +kernel)
theorem cd_X11_law : Cond.code yX11_law cX11_law 3 (some .int) ∈ tblG := tg 640 (by decide +kernel) (by decide +kernel)
theorem gW_X11_law : GoodIn tblG (wsG yX11_law cX11_law 3 (some .int)) := tgi cd_X11_law
theorem gV_L_67 : GoodIn tblG (wsV RL 67 RX11 yX11_law (wsG yX11_law cX11_law 3 (some .int))) := tgV ml_L_67 im_X11_law se_X11_law ini_X11 gW_X11_law
theorem hv_X11_law : yX11_law.cls = RX11 ∧ yX11_law.cls ≠ "java/lang/invoke/MethodHandle" ∧ yX11_law.cls ≠ "java/lang/invoke/VarHandle" ∧ (parseMethodDescriptor yX11_law.desc).map (fun d => d.parameters.length) = some 0 := by decide +kernel
theorem ml_L_71 : Cond.methodLink RL 71 yX11_fault ∈ tblG := tg 796 (by decide +kernel) (by decide +kernel)
theorem im_X11_fault : Cond.instanceMethod yX11_fault ∈ tblG := tg 797 (by decide +kernel) (by decide +kernel)
theorem se_X11_fault : Cond.selects RX11 yX11_fault yX11_fault ∈ tblG := tg 798 (by decide +kernel) (by decide +kernel)
theorem cd_X11_fault : Cond.code yX11_fault cX11_fault 1 (some .int) ∈ tblG := tg 799 (by decide +kernel) (by decide +kernel)
theorem gW_X11_fault : GoodIn tblG (wsG yX11_fault cX11_fault 1 (some .int)) := tgi cd_X11_fault
theorem gV_L_71 : GoodIn tblG (wsV RL 71 RX11 yX11_fault (wsG yX11_fault cX11_fault 1 (some .int))) := tgV ml_L_71 im_X11_fault se_X11_fault ini_X11 gW_X11_fault
theorem hv_X11_fault : yX11_fault.cls = RX11 ∧ yX11_fault.cls ≠ "java/lang/invoke/MethodHandle" ∧ yX11_fault.cls ≠ "java/lang/invoke/VarHandle" ∧ (parseMethodDescriptor yX11_fault.desc).map (fun d => d.parameters.length) = some 0 := by decide +kernel
theorem ml_L_75 : Cond.methodLink RL 75 yX11_force ∈ tblG := tg 800 (by decide +kernel) (by decide +kernel)
theorem im_X11_force : Cond.instanceMethod yX11_force ∈ tblG := tg 801 (by decide +kernel) (by decide +kernel)
theorem se_X11_force : Cond.selects RX11 yX11_force yX11_force ∈ tblG := tg 802 (by decide +kernel) (by decide +kernel)
theorem cd_X11_force : Cond.code yX11_force cX11_force 3 (some .int) ∈ tblG := tg 803 (by decide +kernel) (by decide +kernel)
theorem gW_X11_force : GoodIn tblG (wsG yX11_force cX11_force 3 (some .int)) := tgi cd_X11_force
theorem gV_L_75 : GoodIn tblG (wsV RL 75 RX11 yX11_force (wsG yX11_force cX11_force 3 (some .int))) := tgV ml_L_75 im_X11_force se_X11_force ini_X11 gW_X11_force
theorem hv_X11_force : yX11_force.cls = RX11 ∧ yX11_force.cls ≠ "java/lang/invoke/MethodHandle" ∧ yX11_force.cls ≠ "java/lang/invoke/VarHandle" ∧ (parseMethodDescriptor yX11_force.desc).map (fun d => d.parameters.length) = some 1 := by decide +kernel
theorem ml_L_79 : Cond.methodLink RL 79 yX11_look ∈ tblG := tg 804 (by decide +kernel) (by decide +kernel)
theorem im_X11_look : Cond.instanceMethod yX11_look ∈ tblG := tg 805 (by decide +kernel) (by decide +kernel)
theorem se_X11_look : Cond.selects RX11 yX11_look yX11_look ∈ tblG := tg 806 (by decide +kernel) (by decide +kernel)
theorem cd_X11_look : Cond.code yX11_look cX11_look 5 (some .int) ∈ tblG := tg 807 (by decide +kernel) (by decide +kernel)
theorem gW_X11_look : GoodIn tblG (wsG yX11_look cX11_look 5 (some .int)) := tgi cd_X11_look
theorem gV_L_79 : GoodIn tblG (wsV RL 79 RX11 yX11_look (wsG yX11_look cX11_look 5 (some .int))) := tgV ml_L_79 im_X11_look se_X11_look ini_X11 gW_X11_look
theorem hv_X11_look : yX11_look.cls = RX11 ∧ yX11_look.cls ≠ "java/lang/invoke/MethodHandle" ∧ yX11_look.cls ≠ "java/lang/invoke/VarHandle" ∧ (parseMethodDescriptor yX11_look.desc).map (fun d => d.parameters.length) = some 4 := by decide +kernel
theorem ml_L_83 : Cond.methodLink RL 83 yX11_point ∈ tblG := tg 870 (by decide +kernel) (by decide +kernel)
theorem im_X11_point : Cond.instanceMethod yX11_point ∈ tblG := tg 871 (by decide +kernel) (by decide +kernel)
theorem se_X11_point : Cond.selects RX11 yX11_point yX11_point ∈ tblG := tg 872 (by decide +kernel) (by decide +kernel)
theorem cd_X11_point : Cond.code yX11_point cX11_point 5 (some .int) ∈ tblG := tg 873 (by decide +kernel) (by decide +kernel)
theorem gW_X11_point : GoodIn tblG (wsG yX11_point cX11_point 5 (some .int)) := tgi cd_X11_point
theorem gV_L_83 : GoodIn tblG (wsV RL 83 RX11 yX11_point (wsG yX11_point cX11_point 5 (some .int))) := tgV ml_L_83 im_X11_point se_X11_point ini_X11 gW_X11_point
theorem hv_X11_point : yX11_point.cls = RX11 ∧ yX11_point.cls ≠ "java/lang/invoke/MethodHandle" ∧ yX11_point.cls ≠ "java/lang/invoke/VarHandle" ∧ (parseMethodDescriptor yX11_point.desc).map (fun d => d.parameters.length) = some 4 := by decide +kernel
theorem ml_L_87 : Cond.methodLink RL 87 yX11_sees ∈ tblG := tg 874 (by decide +kernel) (by decide +kernel)
theorem im_X11_sees : Cond.instanceMethod yX11_sees ∈ tblG := tg 875 (by decide +kernel) (by decide +kernel)
theorem se_X11_sees : Cond.selects RX11 yX11_sees yX11_sees ∈ tblG := tg 876 (by decide +kernel) (by decide +kernel)
theorem cd_X11_sees : Cond.code yX11_sees cX11_sees 3 (some .int) ∈ tblG := tg 877 (by decide +kernel) (by decide +kernel)
theorem gW_X11_sees : GoodIn tblG (wsG yX11_sees cX11_sees 3 (some .int)) := tgi cd_X11_sees
theorem gV_L_87 : GoodIn tblG (wsV RL 87 RX11 yX11_sees (wsG yX11_sees cX11_sees 3 (some .int))) := tgV ml_L_87 im_X11_sees se_X11_sees ini_X11 gW_X11_sees
theorem hv_X11_sees : yX11_sees.cls = RX11 ∧ yX11_sees.cls ≠ "java/lang/invoke/MethodHandle" ∧ yX11_sees.cls ≠ "java/lang/invoke/VarHandle" ∧ (parseMethodDescriptor yX11_sees.desc).map (fun d => d.parameters.length) = some 2 := by decide +kernel
theorem ml_L_91 : Cond.methodLink RL 91 yX11_late ∈ tblG := tg 883 (by decide +kernel) (by decide +kernel)
theorem im_X11_late : Cond.instanceMethod yX11_late ∈ tblG := tg 884 (by decide +kernel) (by decide +kernel)
theorem se_X11_late : Cond.selects RX11 yX11_late yX11_late ∈ tblG := tg 885 (by decide +kernel) (by decide +kernel)
theorem cd_X11_late : Cond.code yX11_late cX11_late 5 (some .int) ∈ tblG := tg 886 (by decide +kernel) (by decide +kernel)
theorem gW_X11_late : GoodIn tblG (wsG yX11_late cX11_late 5 (some .int)) := tgi cd_X11_late
theorem gV_L_91 : GoodIn tblG (wsV RL 91 RX11 yX11_late (wsG yX11_late cX11_late 5 (some .int))) := tgV ml_L_91 im_X11_late se_X11_late ini_X11 gW_X11_late
theorem hv_X11_late : yX11_late.cls = RX11 ∧ yX11_late.cls ≠ "java/lang/invoke/MethodHandle" ∧ yX11_late.cls ≠ "java/lang/invoke/VarHandle" ∧ (parseMethodDescriptor yX11_late.desc).map (fun d => d.parameters.length) = some 3 := by decide +kernel
theorem ml_L_95 : Cond.methodLink RL 95 yX11_first ∈ tblG := tg 891 (by decide +kernel) (by decide +kernel)
theorem im_X11_first : Cond.instanceMethod yX11_first ∈ tblG := tg 892 (by decide +kernel) (by decide +kernel)
theorem se_X11_first : Cond.selects RX11 yX11_first yX11_first ∈ tblG := tg 893 (by decide +kernel) (by decide +kernel)
theorem cd_X11_first : Cond.code yX11_first cX11_first 7 (some .int) ∈ tblG := tg 894 (by decide +kernel) (by decide +kernel)
theorem gW_X11_first : GoodIn tblG (wsG yX11_first cX11_first 7 (some .int)) := tgi cd_X11_first
theorem gV_L_95 : GoodIn tblG (wsV RL 95 RX11 yX11_first (wsG yX11_first cX11_first 7 (some .int))) := tgV ml_L_95 im_X11_first se_X11_first ini_X11 gW_X11_first
theorem hv_X11_first : yX11_first.cls = RX11 ∧ yX11_first.cls ≠ "java/lang/invoke/MethodHandle" ∧ yX11_first.cls ≠ "java/lang/invoke/VarHandle" ∧ (parseMethodDescriptor yX11_first.desc).map (fun d => d.parameters.length) = some 2 := by decide +kernel
theorem ml_L_99 : Cond.methodLink RL 99 yX11_lit ∈ tblG := tg 895 (by decide +kernel) (by decide +kernel)
theorem im_X11_lit : Cond.instanceMethod yX11_lit ∈ tblG := tg 896 (by decide +kernel) (by decide +kernel)
theorem se_X11_lit : Cond.selects RX11 yX11_lit yX11_lit ∈ tblG := tg 897 (by decide +kernel) (by decide +kernel)
theorem cd_X11_lit : Cond.code yX11_lit cX11_lit 6 (some .int) ∈ tblG := tg 898 (by decide +kernel) (by decide +kernel)
theorem gW_X11_lit : GoodIn tblG (wsG yX11_lit cX11_lit 6 (some .int)) := tgi cd_X11_lit
theorem gV_L_99 : GoodIn tblG (wsV RL 99 RX11 yX11_lit (wsG yX11_lit cX11_lit 6 (some .int))) := tgV ml_L_99 im_X11_lit se_X11_lit ini_X11 gW_X11_lit
theorem hv_X11_lit : yX11_lit.cls = RX11 ∧ yX11_lit.cls ≠ "java/lang/invoke/MethodHandle" ∧ yX11_lit.cls ≠ "java/lang/invoke/VarHandle" ∧ (parseMethodDescriptor yX11_lit.desc).map (fun d => d.parameters.length) = some 3 := by decide +kernel
theorem ml_L_103 : Cond.methodLink RL 103 yX11_unseen ∈ tblG := tg 909 (by decide +kernel) (by decide +kernel)
theorem im_X11_unseen : Cond.instanceMethod yX11_unseen ∈ tblG := tg 910 (by decide +kernel) (by decide +kernel)
theorem se_X11_unseen : Cond.selects RX11 yX11_unseen yX11_unseen ∈ tblG := tg 911 (by decide +kernel) (by decide +kernel)
theorem cd_X11_unseen : Cond.code yX11_unseen cX11_unseen 4 (some .int) ∈ tblG := tg 912 (by decide +kernel) (by decide +kernel)
theorem gW_X11_unseen : GoodIn tblG (wsG yX11_unseen cX11_unseen 4 (some .int)) := tgi cd_X11_unseen
theorem gV_L_103 : GoodIn tblG (wsV RL 103 RX11 yX11_unseen (wsG yX11_unseen cX11_unseen 4 (some .int))) := tgV ml_L_103 im_X11_unseen se_X11_unseen ini_X11 gW_X11_unseen
theorem hv_X11_unseen : yX11_unseen.cls = RX11 ∧ yX11_unseen.cls ≠ "java/lang/invoke/MethodHandle" ∧ yX11_unseen.cls ≠ "java/lang/invoke/VarHandle" ∧ (parseMethodDescriptor yX11_unseen.desc).map (fun d => d.parameters.length) = some 1 := by decide +kernel
theorem ml_L_107 : Cond.methodLink RL 107 yX11_sighting ∈ tblG := tg 926 (by decide +kernel) (by decide +kernel)
theorem im_X11_sighting : Cond.instanceMethod yX11_sighting ∈ tblG := tg 927 (by decide +kernel) (by decide +kernel)
theorem se_X11_sighting : Cond.selects RX11 yX11_sighting yX11_sighting ∈ tblG := tg 928 (by decide +kernel) (by decide +kernel)
theorem cd_X11_sighting : Cond.code yX11_sighting cX11_sighting 6 (some .int) ∈ tblG := tg 929 (by decide +kernel) (by decide +kernel)
theorem gW_X11_sighting : GoodIn tblG (wsG yX11_sighting cX11_sighting 6 (some .int)) := tgi cd_X11_sighting
theorem gV_L_107 : GoodIn tblG (wsV RL 107 RX11 yX11_sighting (wsG yX11_sighting cX11_sighting 6 (some .int))) := tgV ml_L_107 im_X11_sighting se_X11_sighting ini_X11 gW_X11_sighting
theorem hv_X11_sighting : yX11_sighting.cls = RX11 ∧ yX11_sighting.cls ≠ "java/lang/invoke/MethodHandle" ∧ yX11_sighting.cls ≠ "java/lang/invoke/VarHandle" ∧ (parseMethodDescriptor yX11_sighting.desc).map (fun d => d.parameters.length) = some 4 := by decide +kernel
theorem ml_L_111 : Cond.methodLink RL 111 yX11_drop ∈ tblG := tg 938 (by decide +kernel) (by decide +kernel)
theorem im_X11_drop : Cond.instanceMethod yX11_drop ∈ tblG := tg 939 (by decide +kernel) (by decide +kernel)
theorem se_X11_drop : Cond.selects RX11 yX11_drop yX11_drop ∈ tblG := tg 940 (by decide +kernel) (by decide +kernel)
theorem cd_X11_drop : Cond.code yX11_drop cX11_drop 2 (some .int) ∈ tblG := tg 941 (by decide +kernel) (by decide +kernel)
theorem gW_X11_drop : GoodIn tblG (wsG yX11_drop cX11_drop 2 (some .int)) := tgi cd_X11_drop
theorem gV_L_111 : GoodIn tblG (wsV RL 111 RX11 yX11_drop (wsG yX11_drop cX11_drop 2 (some .int))) := tgV ml_L_111 im_X11_drop se_X11_drop ini_X11 gW_X11_drop
theorem hv_X11_drop : yX11_drop.cls = RX11 ∧ yX11_drop.cls ≠ "java/lang/invoke/MethodHandle" ∧ yX11_drop.cls ≠ "java/lang/invoke/VarHandle" ∧ (parseMethodDescriptor yX11_drop.desc).map (fun d => d.parameters.length) = some 1 := by decide +kernel
theorem ml_L_115 : Cond.methodLink RL 115 yX11_start ∈ tblG := tg 947 (by decide +kernel) (by decide +kernel)
theorem im_X11_start : Cond.instanceMethod yX11_start ∈ tblG := tg 948 (by decide +kernel) (by decide +kernel)
theorem se_X11_start : Cond.selects RX11 yX11_start yX11_start ∈ tblG := tg 949 (by decide +kernel) (by decide +kernel)
theorem cd_X11_start : Cond.code yX11_start cX11_start 3 (some .int) ∈ tblG := tg 950 (by decide +kernel) (by decide +kernel)
theorem gW_X11_start : GoodIn tblG (wsG yX11_start cX11_start 3 (some .int)) := tgi cd_X11_start
theorem gV_L_115 : GoodIn tblG (wsV RL 115 RX11 yX11_start (wsG yX11_start cX11_start 3 (some .int))) := tgV ml_L_115 im_X11_start se_X11_start ini_X11 gW_X11_start
theorem hv_X11_start : yX11_start.cls = RX11 ∧ yX11_start.cls ≠ "java/lang/invoke/MethodHandle" ∧ yX11_start.cls ≠ "java/lang/invoke/VarHandle" ∧ (parseMethodDescriptor yX11_start.desc).map (fun d => d.parameters.length) = some 1 := by decide +kernel
theorem ml_L_119 : Cond.methodLink RL 119 yX11_fits ∈ tblG := tg 951 (by decide +kernel) (by decide +kernel)
theorem im_X11_fits : Cond.instanceMethod yX11_fits ∈ tblG := tg 952 (by decide +kernel) (by decide +kernel)
theorem se_X11_fits : Cond.selects RX11 yX11_fits yX11_fits ∈ tblG := tg 953 (by decide +kernel) (by decide +kernel)
theorem cd_X11_fits : Cond.code yX11_fits cX11_fits 1 (some .long) ∈ tblG := tg 954 (by decide +kernel) (by decide +kernel)
theorem gW_X11_fits : GoodIn tblG (wsG yX11_fits cX11_fits 1 (some .long)) := tgi cd_X11_fits
theorem gV_L_119 : GoodIn tblG (wsV RL 119 RX11 yX11_fits (wsG yX11_fits cX11_fits 1 (some .long))) := tgV ml_L_119 im_X11_fits se_X11_fits ini_X11 gW_X11_fits
theorem hv_X11_fits : yX11_fits.cls = RX11 ∧ yX11_fits.cls ≠ "java/lang/invoke/MethodHandle" ∧ yX11_fits.cls ≠ "java/lang/invoke/VarHandle" ∧ (parseMethodDescriptor yX11_fits.desc).map (fun d => d.parameters.length) = some 0 := by decide +kernel
theorem ml_L_124 : Cond.methodLink RL 124 yX11_could ∈ tblG := tg 988 (by decide +kernel) (by decide +kernel)
theorem im_X11_could : Cond.instanceMethod yX11_could ∈ tblG := tg 989 (by decide +kernel) (by decide +kernel)
theorem se_X11_could : Cond.selects RX11 yX11_could yX11_could ∈ tblG := tg 990 (by decide +kernel) (by decide +kernel)
theorem cd_X11_could : Cond.code yX11_could cX11_could 3 (some .long) ∈ tblG := tg 991 (by decide +kernel) (by decide +kernel)
theorem gW_X11_could : GoodIn tblG (wsG yX11_could cX11_could 3 (some .long)) := tgi cd_X11_could
theorem gV_L_124 : GoodIn tblG (wsV RL 124 RX11 yX11_could (wsG yX11_could cX11_could 3 (some .long))) := tgV ml_L_124 im_X11_could se_X11_could ini_X11 gW_X11_could
theorem hv_X11_could : yX11_could.cls = RX11 ∧ yX11_could.cls ≠ "java/lang/invoke/MethodHandle" ∧ yX11_could.cls ≠ "java/lang/invoke/VarHandle" ∧ (parseMethodDescriptor yX11_could.desc).map (fun d => d.parameters.length) = some 2 := by decide +kernel
theorem ml_L_129 : Cond.methodLink RL 129 yX11_path ∈ tblG := tg 1016 (by decide +kernel) (by decide +kernel)
theorem im_X11_path : Cond.instanceMethod yX11_path ∈ tblG := tg 1017 (by decide +kernel) (by decide +kernel)
theorem se_X11_path : Cond.selects RX11 yX11_path yX11_path ∈ tblG := tg 1018 (by decide +kernel) (by decide +kernel)
theorem cd_X11_path : Cond.code yX11_path cX11_path 2 (some .int) ∈ tblG := tg 1019 (by decide +kernel) (by decide +kernel)
theorem gW_X11_path : GoodIn tblG (wsG yX11_path cX11_path 2 (some .int)) := tgi cd_X11_path
theorem gV_L_129 : GoodIn tblG (wsV RL 129 RX11 yX11_path (wsG yX11_path cX11_path 2 (some .int))) := tgV ml_L_129 im_X11_path se_X11_path ini_X11 gW_X11_path
theorem hv_X11_path : yX11_path.cls = RX11 ∧ yX11_path.cls ≠ "java/lang/invoke/MethodHandle" ∧ yX11_path.cls ≠ "java/lang/invoke/VarHandle" ∧ (parseMethodDescriptor yX11_path.desc).map (fun d => d.parameters.length) = some 1 := by decide +kernel
theorem ml_L_133 : Cond.methodLink RL 133 yX11_core ∈ tblG := tg 1030 (by decide +kernel) (by decide +kernel)
theorem im_X11_core : Cond.instanceMethod yX11_core ∈ tblG := tg 1031 (by decide +kernel) (by decide +kernel)
theorem se_X11_core : Cond.selects RX11 yX11_core yX11_core ∈ tblG := tg 1032 (by decide +kernel) (by decide +kernel)
theorem cd_X11_core : Cond.code yX11_core cX11_core 1 (some .int) ∈ tblG := tg 1033 (by decide +kernel) (by decide +kernel)
theorem gW_X11_core : GoodIn tblG (wsG yX11_core cX11_core 1 (some .int)) := tgi cd_X11_core
theorem gV_L_133 : GoodIn tblG (wsV RL 133 RX11 yX11_core (wsG yX11_core cX11_core 1 (some .int))) := tgV ml_L_133 im_X11_core se_X11_core ini_X11 gW_X11_core
theorem hv_X11_core : yX11_core.cls = RX11 ∧ yX11_core.cls ≠ "java/lang/invoke/MethodHandle" ∧ yX11_core.cls ≠ "java/lang/invoke/VarHandle" ∧ (parseMethodDescriptor yX11_core.desc).map (fun d => d.parameters.length) = some 0 := by decide +kernel
theorem ml_L_137 : Cond.methodLink RL 137 yX11_tells ∈ tblG := tg 1040 (by decide +kernel) (by decide +kernel)
theorem im_X11_tells : Cond.instanceMethod yX11_tells ∈ tblG := tg 1041 (by decide +kernel) (by decide +kernel)
theorem se_X11_tells : Cond.selects RX11 yX11_tells yX11_tells ∈ tblG := tg 1042 (by decide +kernel) (by decide +kernel)
theorem cd_X11_tells : Cond.code yX11_tells cX11_tells 6 (some .long) ∈ tblG := tg 1043 (by decide +kernel) (by decide +kernel)
theorem gW_X11_tells : GoodIn tblG (wsG yX11_tells cX11_tells 6 (some .long)) := tgi cd_X11_tells
theorem gV_L_137 : GoodIn tblG (wsV RL 137 RX11 yX11_tells (wsG yX11_tells cX11_tells 6 (some .long))) := tgV ml_L_137 im_X11_tells se_X11_tells ini_X11 gW_X11_tells
theorem hv_X11_tells : yX11_tells.cls = RX11 ∧ yX11_tells.cls ≠ "java/lang/invoke/MethodHandle" ∧ yX11_tells.cls ≠ "java/lang/invoke/VarHandle" ∧ (parseMethodDescriptor yX11_tells.desc).map (fun d => d.parameters.length) = some 3 := by decide +kernel
theorem ml_L_142 : Cond.methodLink RL 142 yX11_surely ∈ tblG := tg 1045 (by decide +kernel) (by decide +kernel)
theorem im_X11_surely : Cond.instanceMethod yX11_surely ∈ tblG := tg 1046 (by decide +kernel) (by decide +kernel)
theorem se_X11_surely : Cond.selects RX11 yX11_surely yX11_surely ∈ tblG := tg 1047 (by decide +kernel) (by decide +kernel)
theorem cd_X11_surely : Cond.code yX11_surely cX11_surely 4 (some .int) ∈ tblG := tg 1048 (by decide +kernel) (by decide +kernel)
theorem gW_X11_surely : GoodIn tblG (wsG yX11_surely cX11_surely 4 (some .int)) := tgi cd_X11_surely
theorem gV_L_142 : GoodIn tblG (wsV RL 142 RX11 yX11_surely (wsG yX11_surely cX11_surely 4 (some .int))) := tgV ml_L_142 im_X11_surely se_X11_surely ini_X11 gW_X11_surely
theorem hv_X11_surely : yX11_surely.cls = RX11 ∧ yX11_surely.cls ≠ "java/lang/invoke/MethodHandle" ∧ yX11_surely.cls ≠ "java/lang/invoke/VarHandle" ∧ (parseMethodDescriptor yX11_surely.desc).map (fun d => d.parameters.length) = some 1 := by decide +kernel
theorem ml_L_146 : Cond.methodLink RL 146 yX11_spot ∈ tblG := tg 1056 (by decide +kernel) (by decide +kernel)
theorem im_X11_spot : Cond.instanceMethod yX11_spot ∈ tblG := tg 1057 (by decide +kernel) (by decide +kernel)
theorem se_X11_spot : Cond.selects RX11 yX11_spot yX11_spot ∈ tblG := tg 1058 (by decide +kernel) (by decide +kernel)
theorem cd_X11_spot : Cond.code yX11_spot cX11_spot 5 (some .int) ∈ tblG := tg 1059 (by decide +kernel) (by decide +kernel)
theorem gW_X11_spot : GoodIn tblG (wsG yX11_spot cX11_spot 5 (some .int)) := tgi cd_X11_spot
theorem gV_L_146 : GoodIn tblG (wsV RL 146 RX11 yX11_spot (wsG yX11_spot cX11_spot 5 (some .int))) := tgV ml_L_146 im_X11_spot se_X11_spot ini_X11 gW_X11_spot
theorem hv_X11_spot : yX11_spot.cls = RX11 ∧ yX11_spot.cls ≠ "java/lang/invoke/MethodHandle" ∧ yX11_spot.cls ≠ "java/lang/invoke/VarHandle" ∧ (parseMethodDescriptor yX11_spot.desc).map (fun d => d.parameters.length) = some 3 := by decide +kernel
theorem ml_L_150 : Cond.methodLink RL 150 yX11_wish ∈ tblG := tg 1060 (by decide +kernel) (by decide +kernel)
theorem im_X11_wish : Cond.instanceMethod yX11_wish ∈ tblG := tg 1061 (by decide +kernel) (by decide +kernel)
theorem se_X11_wish : Cond.selects RX11 yX11_wish yX11_wish ∈ tblG := tg 1062 (by decide +kernel) (by decide +kernel)
theorem cd_X11_wish : Cond.code yX11_wish cX11_wish 8 (some .int) ∈ tblG := tg 1063 (by decide +kernel) (by decide +kernel)
theorem gW_X11_wish : GoodIn tblG (wsG yX11_wish cX11_wish 8 (some .int)) := tgi cd_X11_wish
theorem gV_L_150 : GoodIn tblG (wsV RL 150 RX11 yX11_wish (wsG yX11_wish cX11_wish 8 (some .int))) := tgV ml_L_150 im_X11_wish se_X11_wish ini_X11 gW_X11_wish
theorem hv_X11_wish : yX11_wish.cls = RX11 ∧ yX11_wish.cls ≠ "java/lang/invoke/MethodHandle" ∧ yX11_wish.cls ≠ "java/lang/invoke/VarHandle" ∧ (parseMethodDescriptor yX11_wish.desc).map (fun d => d.parameters.length) = some 6 := by decide +kernel
theorem ml_L_155 : Cond.methodLink RL 155 yX11_lacks ∈ tblG := tg 1064 (by decide +kernel) (by decide +kernel)
theorem im_X11_lacks : Cond.instanceMethod yX11_lacks ∈ tblG := tg 1065 (by decide +kernel) (by decide +kernel)
theorem se_X11_lacks : Cond.selects RX11 yX11_lacks yX11_lacks ∈ tblG := tg 1066 (by decide +kernel) (by decide +kernel)
theorem cd_X11_lacks : Cond.code yX11_lacks cX11_lacks 2 (some .int) ∈ tblG := tg 1067 (by decide +kernel) (by decide +kernel)
theorem gW_X11_lacks : GoodIn tblG (wsG yX11_lacks cX11_lacks 2 (some .int)) := tgi cd_X11_lacks
theorem gV_L_155 : GoodIn tblG (wsV RL 155 RX11 yX11_lacks (wsG yX11_lacks cX11_lacks 2 (some .int))) := tgV ml_L_155 im_X11_lacks se_X11_lacks ini_X11 gW_X11_lacks
theorem hv_X11_lacks : yX11_lacks.cls = RX11 ∧ yX11_lacks.cls ≠ "java/lang/invoke/MethodHandle" ∧ yX11_lacks.cls ≠ "java/lang/invoke/VarHandle" ∧ (parseMethodDescriptor yX11_lacks.desc).map (fun d => d.parameters.length) = some 1 := by decide +kernel
theorem ml_L_159 : Cond.methodLink RL 159 yX11_hang ∈ tblG := tg 1078 (by decide +kernel) (by decide +kernel)
theorem im_X11_hang : Cond.instanceMethod yX11_hang ∈ tblG := tg 1079 (by decide +kernel) (by decide +kernel)
theorem se_X11_hang : Cond.selects RX11 yX11_hang yX11_hang ∈ tblG := tg 1080 (by decide +kernel) (by decide +kernel)
theorem cd_X11_hang : Cond.code yX11_hang cX11_hang 2 (some .int) ∈ tblG := tg 1081 (by decide +kernel) (by decide +kernel)
theorem gW_X11_hang : GoodIn tblG (wsG yX11_hang cX11_hang 2 (some .int)) := tgi cd_X11_hang
theorem gV_L_159 : GoodIn tblG (wsV RL 159 RX11 yX11_hang (wsG yX11_hang cX11_hang 2 (some .int))) := tgV ml_L_159 im_X11_hang se_X11_hang ini_X11 gW_X11_hang
theorem hv_X11_hang : yX11_hang.cls = RX11 ∧ yX11_hang.cls ≠ "java/lang/invoke/MethodHandle" ∧ yX11_hang.cls ≠ "java/lang/invoke/VarHandle" ∧ (parseMethodDescriptor yX11_hang.desc).map (fun d => d.parameters.length) = some 1 := by decide +kernel
theorem ml_L_163 : Cond.methodLink RL 163 yX11_soonest ∈ tblG := tg 1093 (by decide +kernel) (by decide +kernel)
theorem im_X11_soonest : Cond.instanceMethod yX11_soonest ∈ tblG := tg 1094 (by decide +kernel) (by decide +kernel)
theorem se_X11_soonest : Cond.selects RX11 yX11_soonest yX11_soonest ∈ tblG := tg 1095 (by decide +kernel) (by decide +kernel)
theorem cd_X11_soonest : Cond.code yX11_soonest cX11_soonest 4 (some .int) ∈ tblG := tg 1096 (by decide +kernel) (by decide +kernel)
theorem gW_X11_soonest : GoodIn tblG (wsG yX11_soonest cX11_soonest 4 (some .int)) := tgi cd_X11_soonest
theorem gV_L_163 : GoodIn tblG (wsV RL 163 RX11 yX11_soonest (wsG yX11_soonest cX11_soonest 4 (some .int))) := tgV ml_L_163 im_X11_soonest se_X11_soonest ini_X11 gW_X11_soonest
theorem hv_X11_soonest : yX11_soonest.cls = RX11 ∧ yX11_soonest.cls ≠ "java/lang/invoke/MethodHandle" ∧ yX11_soonest.cls ≠ "java/lang/invoke/VarHandle" ∧ (parseMethodDescriptor yX11_soonest.desc).map (fun d => d.parameters.length) = some 3 := by decide +kernel
theorem ml_L_167 : Cond.methodLink RL 167 yX11_way ∈ tblG := tg 1122 (by decide +kernel) (by decide +kernel)
theorem im_X11_way : Cond.instanceMethod yX11_way ∈ tblG := tg 1123 (by decide +kernel) (by decide +kernel)
theorem se_X11_way : Cond.selects RX11 yX11_way yX11_way ∈ tblG := tg 1124 (by decide +kernel) (by decide +kernel)
theorem cd_X11_way : Cond.code yX11_way cX11_way 6 (some .int) ∈ tblG := tg 1125 (by decide +kernel) (by decide +kernel)
theorem gW_X11_way : GoodIn tblG (wsG yX11_way cX11_way 6 (some .int)) := tgi cd_X11_way
theorem gV_L_167 : GoodIn tblG (wsV RL 167 RX11 yX11_way (wsG yX11_way cX11_way 6 (some .int))) := tgV ml_L_167 im_X11_way se_X11_way ini_X11 gW_X11_way
theorem hv_X11_way : yX11_way.cls = RX11 ∧ yX11_way.cls ≠ "java/lang/invoke/MethodHandle" ∧ yX11_way.cls ≠ "java/lang/invoke/VarHandle" ∧ (parseMethodDescriptor yX11_way.desc).map (fun d => d.parameters.length) = some 4 := by decide +kernel
theorem ml_L_171 : Cond.methodLink RL 171 yX11_sooner ∈ tblG := tg 1135 (by decide +kernel) (by decide +kernel)
theorem im_X11_sooner : Cond.instanceMethod yX11_sooner ∈ tblG := tg 1136 (by decide +kernel) (by decide +kernel)
theorem se_X11_sooner : Cond.selects RX11 yX11_sooner yX11_sooner ∈ tblG := tg 1137 (by decide +kernel) (by decide +kernel)
theorem cd_X11_sooner : Cond.code yX11_sooner cX11_sooner 12 (some .int) ∈ tblG := tg 1138 (by decide +kernel) (by decide +kernel)
theorem gW_X11_sooner : GoodIn tblG (wsG yX11_sooner cX11_sooner 12 (some .int)) := tgi cd_X11_sooner
theorem gV_L_171 : GoodIn tblG (wsV RL 171 RX11 yX11_sooner (wsG yX11_sooner cX11_sooner 12 (some .int))) := tgV ml_L_171 im_X11_sooner se_X11_sooner ini_X11 gW_X11_sooner
theorem hv_X11_sooner : yX11_sooner.cls = RX11 ∧ yX11_sooner.cls ≠ "java/lang/invoke/MethodHandle" ∧ yX11_sooner.cls ≠ "java/lang/invoke/VarHandle" ∧ (parseMethodDescriptor yX11_sooner.desc).map (fun d => d.parameters.length) = some 4 := by decide +kernel
theorem ml_L_175 : Cond.methodLink RL 175 yX11_wander ∈ tblG := tg 1143 (by decide +kernel) (by decide +kernel)
theorem im_X11_wander : Cond.instanceMethod yX11_wander ∈ tblG := tg 1144 (by decide +kernel) (by decide +kernel)
theorem se_X11_wander : Cond.selects RX11 yX11_wander yX11_wander ∈ tblG := tg 1145 (by decide +kernel) (by decide +kernel)
theorem cd_X11_wander : Cond.code yX11_wander cX11_wander 9 (some .int) ∈ tblG := tg 1146 (by decide +kernel) (by decide +kernel)
theorem gW_X11_wander : GoodIn tblG (wsG yX11_wander cX11_wander 9 (some .int)) := tgi cd_X11_wander
theorem gV_L_175 : GoodIn tblG (wsV RL 175 RX11 yX11_wander (wsG yX11_wander cX11_wander 9 (some .int))) := tgV ml_L_175 im_X11_wander se_X11_wander ini_X11 gW_X11_wander
theorem hv_X11_wander : yX11_wander.cls = RX11 ∧ yX11_wander.cls ≠ "java/lang/invoke/MethodHandle" ∧ yX11_wander.cls ≠ "java/lang/invoke/VarHandle" ∧ (parseMethodDescriptor yX11_wander.desc).map (fun d => d.parameters.length) = some 2 := by decide +kernel
theorem ml_L_179 : Cond.methodLink RL 179 yX11_drawn ∈ tblG := tg 1152 (by decide +kernel) (by decide +kernel)
theorem im_X11_drawn : Cond.instanceMethod yX11_drawn ∈ tblG := tg 1153 (by decide +kernel) (by decide +kernel)
theorem se_X11_drawn : Cond.selects RX11 yX11_drawn yX11_drawn ∈ tblG := tg 1154 (by decide +kernel) (by decide +kernel)
theorem cd_X11_drawn : Cond.code yX11_drawn cX11_drawn 2 (some .int) ∈ tblG := tg 1155 (by decide +kernel) (by decide +kernel)
theorem gW_X11_drawn : GoodIn tblG (wsG yX11_drawn cX11_drawn 2 (some .int)) := tgi cd_X11_drawn
theorem gV_L_179 : GoodIn tblG (wsV RL 179 RX11 yX11_drawn (wsG yX11_drawn cX11_drawn 2 (some .int))) := tgV ml_L_179 im_X11_drawn se_X11_drawn ini_X11 gW_X11_drawn
theorem hv_X11_drawn : yX11_drawn.cls = RX11 ∧ yX11_drawn.cls ≠ "java/lang/invoke/MethodHandle" ∧ yX11_drawn.cls ≠ "java/lang/invoke/VarHandle" ∧ (parseMethodDescriptor yX11_drawn.desc).map (fun d => d.parameters.length) = some 1 := by decide +kernel
theorem ml_L_183 : Cond.methodLink RL 183 yX11_image ∈ tblG := tg 1156 (by decide +kernel) (by decide +kernel)
theorem im_X11_image : Cond.instanceMethod yX11_image ∈ tblG := tg 1157 (by decide +kernel) (by decide +kernel)
theorem se_X11_image : Cond.selects RX11 yX11_image yX11_image ∈ tblG := tg 1158 (by decide +kernel) (by decide +kernel)
theorem cd_X11_image : Cond.code yX11_image cX11_image 2 (some .int) ∈ tblG := tg 1159 (by decide +kernel) (by decide +kernel)
theorem gW_X11_image : GoodIn tblG (wsG yX11_image cX11_image 2 (some .int)) := tgi cd_X11_image
theorem gV_L_183 : GoodIn tblG (wsV RL 183 RX11 yX11_image (wsG yX11_image cX11_image 2 (some .int))) := tgV ml_L_183 im_X11_image se_X11_image ini_X11 gW_X11_image
theorem hv_X11_image : yX11_image.cls = RX11 ∧ yX11_image.cls ≠ "java/lang/invoke/MethodHandle" ∧ yX11_image.cls ≠ "java/lang/invoke/VarHandle" ∧ (parseMethodDescriptor yX11_image.desc).map (fun d => d.parameters.length) = some 1 := by decide +kernel
theorem ml_L_187 : Cond.methodLink RL 187 yX11_back ∈ tblG := tg 1172 (by decide +kernel) (by decide +kernel)
theorem im_X11_back : Cond.instanceMethod yX11_back ∈ tblG := tg 1173 (by decide +kernel) (by decide +kernel)
theorem se_X11_back : Cond.selects RX11 yX11_back yX11_back ∈ tblG := tg 1174 (by decide +kernel) (by decide +kernel)
theorem cd_X11_back : Cond.code yX11_back cX11_back 2 (some .int) ∈ tblG := tg 1175 (by decide +kernel) (by decide +kernel)
theorem gW_X11_back : GoodIn tblG (wsG yX11_back cX11_back 2 (some .int)) := tgi cd_X11_back
theorem gV_L_187 : GoodIn tblG (wsV RL 187 RX11 yX11_back (wsG yX11_back cX11_back 2 (some .int))) := tgV ml_L_187 im_X11_back se_X11_back ini_X11 gW_X11_back
theorem hv_X11_back : yX11_back.cls = RX11 ∧ yX11_back.cls ≠ "java/lang/invoke/MethodHandle" ∧ yX11_back.cls ≠ "java/lang/invoke/VarHandle" ∧ (parseMethodDescriptor yX11_back.desc).map (fun d => d.parameters.length) = some 1 := by decide +kernel
theorem ml_L_191 : Cond.methodLink RL 191 yX11_count ∈ tblG := tg 1176 (by decide +kernel) (by decide +kernel)
theorem im_X11_count : Cond.instanceMethod yX11_count ∈ tblG := tg 1177 (by decide +kernel) (by decide +kernel)
theorem se_X11_count : Cond.selects RX11 yX11_count yX11_count ∈ tblG := tg 1178 (by decide +kernel) (by decide +kernel)
theorem cd_X11_count : Cond.code yX11_count cX11_count 2 (some .int) ∈ tblG := tg 1179 (by decide +kernel) (by decide +kernel)
theorem gW_X11_count : GoodIn tblG (wsG yX11_count cX11_count 2 (some .int)) := tgi cd_X11_count
theorem gV_L_191 : GoodIn tblG (wsV RL 191 RX11 yX11_count (wsG yX11_count cX11_count 2 (some .int))) := tgV ml_L_191 im_X11_count se_X11_count ini_X11 gW_X11_count
theorem hv_X11_count : yX11_count.cls = RX11 ∧ yX11_count.cls ≠ "java/lang/invoke/MethodHandle" ∧ yX11_count.cls ≠ "java/lang/invoke/VarHandle" ∧ (parseMethodDescriptor yX11_count.desc).map (fun d => d.parameters.length) = some 1 := by decide +kernel
theorem ml_L_195 : Cond.methodLink RL 195 yX11_status ∈ tblG := tg 1180 (by decide +kernel) (by decide +kernel)
theorem im_X11_status : Cond.instanceMethod yX11_status ∈ tblG := tg 1181 (by decide +kernel) (by decide +kernel)
theorem se_X11_status : Cond.selects RX11 yX11_status yX11_status ∈ tblG := tg 1182 (by decide +kernel) (by decide +kernel)
theorem cd_X11_status : Cond.code yX11_status cX11_status 1 (some .int) ∈ tblG := tg 1183 (by decide +kernel) (by decide +kernel)
theorem gW_X11_status : GoodIn tblG (wsG yX11_status cX11_status 1 (some .int)) := tgi cd_X11_status
theorem gV_L_195 : GoodIn tblG (wsV RL 195 RX11 yX11_status (wsG yX11_status cX11_status 1 (some .int))) := tgV ml_L_195 im_X11_status se_X11_status ini_X11 gW_X11_status
theorem hv_X11_status : yX11_status.cls = RX11 ∧ yX11_status.cls ≠ "java/lang/invoke/MethodHandle" ∧ yX11_status.cls ≠ "java/lang/invoke/VarHandle" ∧ (parseMethodDescriptor yX11_status.desc).map (fun d => d.parameters.length) = some 0 := by decide +kernel
theorem ml_L_17 : Cond.methodLink RL 17 yX12_wall ∈ tblG := tg 1375 (by decide +kernel) (by decide +kernel)
theorem im_X12_wall : Cond.instanceMethod yX12_wall ∈ tblG := tg 1376 (by decide +kernel) (by decide +kernel)
theorem se_X12_wall : Cond.selects RX12 yX12_wall yX12_wall ∈ tblG := tg 1377 (by decide +kernel) (by decide +kernel)
theorem cd_X12_wall : Cond.code yX12_wall cX12_wall 3 (some .int) ∈ tblG := tg 1378 (by decide +kernel) (by decide +kernel)
theorem gW_X12_wall : GoodIn tblG (wsG yX12_wall cX12_wall 3 (some .int)) := tgi cd_X12_wall
theorem gV_L_17 : GoodIn tblG (wsV RL 17 RX12 yX12_wall (wsG yX12_wall cX12_wall 3 (some .int))) := tgV ml_L_17 im_X12_wall se_X12_wall ini_X12 gW_X12_wall
theorem hv_X12_wall : yX12_wall.cls = RX12 ∧ yX12_wall.cls ≠ "java/lang/invoke/MethodHandle" ∧ yX12_wall.cls ≠ "java/lang/invoke/VarHandle" ∧ (parseMethodDescriptor yX12_wall.desc).map (fun d => d.parameters.length) = some 2 := by decide +kernel
theorem ml_L_22 : Cond.methodLink RL 22 yX12_glass ∈ tblG := tg 1407 (by decide +kernel) (by decide +kernel)
theorem im_X12_glass : Cond.instanceMethod yX12_glass ∈ tblG := tg 1408 (by decide +kernel) (by decide +kernel)
theorem se_X12_glass : Cond.selects RX12 yX12_glass yX12_glass ∈ tblG := tg 1409 (by decide +kernel) (by decide +kernel)
theorem cd_X12_glass : Cond.code yX12_glass cX12_glass 7 (some .int) ∈ tblG := tg 1410 (by decide +kernel) (by decide +kernel)
theorem gW_X12_glass : GoodIn tblG (wsG yX12_glass cX12_glass 7 (some .int)) := tgi cd_X12_glass
theorem gV_L_22 : GoodIn tblG (wsV RL 22 RX12 yX12_glass (wsG yX12_glass cX12_glass 7 (some .int))) := tgV ml_L_22 im_X12_glass se_X12_glass ini_X12 gW_X12_glass
theorem hv_X12_glass : yX12_glass.cls = RX12 ∧ yX12_glass.cls ≠ "java/lang/invoke/MethodHandle" ∧ yX12_glass.cls ≠ "java/lang/invoke/VarHandle" ∧ (parseMethodDescriptor yX12_glass.desc).map (fun d => d.parameters.length) = some 4 := by decide +kernel
theorem ml_L_27 : Cond.methodLink RL 27 yX12_turn ∈ tblG := tg 1426 (by decide +kernel) (by decide +kernel)
theorem im_X12_turn : Cond.instanceMethod yX12_turn ∈ tblG := tg 1427 (by decide +kernel) (by decide +kernel)
theorem se_X12_turn : Cond.selects RX12 yX12_turn yX12_turn ∈ tblG := tg 1428 (by decide +kernel) (by decide +kernel)
theorem cd_X12_turn : Cond.code yX12_turn cX12_turn 4 (some .int) ∈ tblG := tg 1429 (by decide +kernel) (by decide +kernel)
theorem gW_X12_turn : GoodIn tblG (wsG yX12_turn cX12_turn 4 (some .int)) := tgi cd_X12_turn
theorem gV_L_27 : GoodIn tblG (wsV RL 27 RX12 yX12_turn (wsG yX12_turn cX12_turn 4 (some .int))) := tgV ml_L_27 im_X12_turn se_X12_turn ini_X12 gW_X12_turn
theorem hv_X12_turn : yX12_turn.cls = RX12 ∧ yX12_turn.cls ≠ "java/lang/invoke/MethodHandle" ∧ yX12_turn.cls ≠ "java/lang/invoke/VarHandle" ∧ (parseMethodDescriptor yX12_turn.desc).map (fun d => d.parameters.length) = some 3 := by decide +kernel
theorem ml_L_31 : Cond.methodLink RL 31 yX12_of ∈ tblG := tg 1434 (by decide +kernel) (by decide +kernel)
theorem im_X12_of : Cond.instanceMethod yX12_of ∈ tblG := tg 1435 (by decide +kernel) (by decide +kernel)
theorem se_X12_of : Cond.selects RX12 yX12_of yX12_of ∈ tblG := tg 1436 (by decide +kernel) (by decide +kernel)
theorem cd_X12_of : Cond.code yX12_of cX12_of 3 (some .int) ∈ tblG := tg 1437 (by decide +kernel) (by decide +kernel)
theorem gW_X12_of : GoodIn tblG (wsG yX12_of cX12_of 3 (some .int)) := tgi cd_X12_of
theorem gV_L_31 : GoodIn tblG (wsV RL 31 RX12 yX12_of (wsG yX12_of cX12_of 3 (some .int))) := tgV ml_L_31 im_X12_of se_X12_of ini_X12 gW_X12_of
theorem hv_X12_of : yX12_of.cls = RX12 ∧ yX12_of.cls ≠ "java/lang/invoke/MethodHandle" ∧ yX12_of.cls ≠ "java/lang/invoke/VarHandle" ∧ (parseMethodDescriptor yX12_of.desc).map (fun d => d.parameters.length) = some 2 := by decide +kernel
theorem ml_L_36 : Cond.methodLink RL 36 yX12_body ∈ tblG := tg 1439 (by decide +kernel) (by decide +kernel)
theorem im_X12_body : Cond.instanceMethod yX12_body ∈ tblG := tg 1440 (by decide +kernel) (by decide +kernel)
theorem se_X12_body : Cond.selects RX12 yX12_body yX12_body ∈ tblG := tg 1441 (by decide +kernel) (by decide +kernel)
theorem cd_X12_body : Cond.code yX12_body cX12_body 3 (some .int) ∈ tblG := tg 1442 (by decide +kernel) (by decide +kernel)
theorem gW_X12_body : GoodIn tblG (wsG yX12_body cX12_body 3 (some .int)) := tgi cd_X12_body
theorem gV_L_36 : GoodIn tblG (wsV RL 36 RX12 yX12_body (wsG yX12_body cX12_body 3 (some .int))) := tgV ml_L_36 im_X12_body se_X12_body ini_X12 gW_X12_body
theorem hv_X12_body : yX12_body.cls = RX12 ∧ yX12_body.cls ≠ "java/lang/invoke/MethodHandle" ∧ yX12_body.cls ≠ "java/lang/invoke/VarHandle" ∧ (parseMethodDescriptor yX12_body.desc).map (fun d => d.parameters.length) = some 0 := by decide +kernel
theorem ml_L_40 : Cond.methodLink RL 40 yX12_stay ∈ tblG := tg 1443 (by decide +kernel) (by decide +kernel)
theorem im_X12_stay : Cond.instanceMethod yX12_stay ∈ tblG := tg 1444 (by decide +kernel) (by decide +kernel)
theorem se_X12_stay : Cond.selects RX12 yX12_stay yX12_stay ∈ tblG := tg 1445 (by decide +kernel) (by decide +kernel)
theorem cd_X12_stay : Cond.code yX12_stay cX12_stay 5 (some .int) ∈ tblG := tg 1446 (by decide +kernel) (by decide +kernel)
theorem gW_X12_stay : GoodIn tblG (wsG yX12_stay cX12_stay 5 (some .int)) := tgi cd_X12_stay
theorem gV_L_40 : GoodIn tblG (wsV RL 40 RX12 yX12_stay (wsG yX12_stay cX12_stay 5 (some .int))) := tgV ml_L_40 im_X12_stay se_X12_stay ini_X12 gW_X12_stay
theorem hv_X12_stay : yX12_stay.cls = RX12 ∧ yX12_stay.cls ≠ "java/lang/invoke/MethodHandle" ∧ yX12_stay.cls ≠ "java/lang/invoke/VarHandle" ∧ (parseMethodDescriptor yX12_stay.desc).map (fun d => d.parameters.length) = some 4 := by decide +kernel
theorem ml_L_44 : Cond.methodLink RL 44 yX12_where ∈ tblG := tg 1459 (by decide +kernel) (by decide +kernel)
theorem im_X12_where : Cond.instanceMethod yX12_where ∈ tblG := tg 1460 (by decide +kernel) (by decide +kernel)
theorem se_X12_where : Cond.selects RX12 yX12_where yX12_where ∈ tblG := tg 1461 (by decide +kernel) (by decide +kernel)
theorem cd_X12_where : Cond.code yX12_where cX12_where 3 (some .int) ∈ tblG := tg 1462 (by decide +kernel) (by decide +kernel)
theorem gW_X12_where : GoodIn tblG (wsG yX12_where cX12_where 3 (some .int)) := tgi cd_X12_where
theorem gV_L_44 : GoodIn tblG (wsV RL 44 RX12 yX12_where (wsG yX12_where cX12_where 3 (some .int))) := tgV ml_L_44 im_X12_where se_X12_where ini_X12 gW_X12_where
theorem hv_X12_where : yX12_where.cls = RX12 ∧ yX12_where.cls ≠ "java/lang/invoke/MethodHandle" ∧ yX12_where.cls ≠ "java/lang/invoke/VarHandle" ∧ (parseMethodDescriptor yX12_where.desc).map (fun d => d.parameters.length) = some 2 := by decide +kernel
theorem ml_L_49 : Cond.methodLink RL 49 yX12_least ∈ tblG := tg 1467 (by decide +kernel) (by decide +kernel)
theorem im_X12_least : Cond.instanceMethod yX12_least ∈ tblG := tg 1468 (by decide +kernel) (by decide +kernel)
theorem se_X12_least : Cond.selects RX12 yX12_least yX12_least ∈ tblG := tg 1469 (by decide +kernel) (by decide +kernel)
theorem cd_X12_least : Cond.code yX12_least cX12_least 2 (some .int) ∈ tblG := tg 1470 (by decide +kernel) (by decide +kernel)
theorem gW_X12_least : GoodIn tblG (wsG yX12_least cX12_least 2 (some .int)) := tgi cd_X12_least
theorem gV_L_49 : GoodIn tblG (wsV RL 49 RX12 yX12_least (wsG yX12_least cX12_least 2 (some .int))) := tgV ml_L_49 im_X12_least se_X12_least ini_X12 gW_X12_least
theorem hv_X12_least : yX12_least.cls = RX12 ∧ yX12_least.cls ≠ "java/lang/invoke/MethodHandle" ∧ yX12_least.cls ≠ "java/lang/invoke/VarHandle" ∧ (parseMethodDescriptor yX12_least.desc).map (fun d => d.parameters.length) = some 1 := by decide +kernel
theorem ml_L_54 : Cond.methodLink RL 54 yX12_feed ∈ tblG := tg 1480 (by decide +kernel) (by decide +kernel)
theorem im_X12_feed : Cond.instanceMethod yX12_feed ∈ tblG := tg 1481 (by decide +kernel) (by decide +kernel)
theorem se_X12_feed : Cond.selects RX12 yX12_feed yX12_feed ∈ tblG := tg 1482 (by decide +kernel) (by decide +kernel)
theorem cd_X12_feed : Cond.code yX12_feed cX12_feed 6 (some .int) ∈ tblG := tg 1483 (by decide +kernel) (by decide +kernel)
theorem gW_X12_feed : GoodIn tblG (wsG yX12_feed cX12_feed 6 (some .int)) := tgi cd_X12_feed
theorem gV_L_54 : GoodIn tblG (wsV RL 54 RX12 yX12_feed (wsG yX12_feed cX12_feed 6 (some .int))) := tgV ml_L_54 im_X12_feed se_X12_feed ini_X12 gW_X12_feed
theorem hv_X12_feed : yX12_feed.cls = RX12 ∧ yX12_feed.cls ≠ "java/lang/invoke/MethodHandle" ∧ yX12_feed.cls ≠ "java/lang/invoke/VarHandle" ∧ (parseMethodDescriptor yX12_feed.desc).map (fun d => d.parameters.length) = some 5 := by decide +kernel
theorem ml_L_58 : Cond.methodLink RL 58 yX12_end ∈ tblG := tg 1488 (by decide +kernel) (by decide +kernel)
theorem im_X12_end : Cond.instanceMethod yX12_end ∈ tblG := tg 1489 (by decide +kernel) (by decide +kernel)
theorem se_X12_end : Cond.selects RX12 yX12_end yX12_end ∈ tblG := tg 1490 (by decide +kernel) (by decide +kernel)
theorem cd_X12_end : Cond.code yX12_end cX12_end 2 (some .int) ∈ tblG := tg 1491 (by decide +kernel) (by decide +kernel)
theorem gW_X12_end : GoodIn tblG (wsG yX12_end cX12_end 2 (some .int)) := tgi cd_X12_end
theorem gV_L_58 : GoodIn tblG (wsV RL 58 RX12 yX12_end (wsG yX12_end cX12_end 2 (some .int))) := tgV ml_L_58 im_X12_end se_X12_end ini_X12 gW_X12_end
theorem hv_X12_end : yX12_end.cls = RX12 ∧ yX12_end.cls ≠ "java/lang/invoke/MethodHandle" ∧ yX12_end.cls ≠ "java/lang/invoke/VarHandle" ∧ (parseMethodDescriptor yX12_end.desc).map (fun d => d.parameters.length) = some 1 := by decide +kernel
theorem ml_L_62 : Cond.methodLink RL 62 yX12_row ∈ tblG := tg 1472 (by decide +kernel) (by decide +kernel)
theorem im_X12_row : Cond.instanceMethod yX12_row ∈ tblG := tg 1473 (by decide +kernel) (by decide +kernel)
theorem se_X12_row : Cond.selects RX12 yX12_row yX12_row ∈ tblG := tg 1474 (by decide +kernel) (by decide +kernel)
theorem cd_X12_row : Cond.code yX12_row cX12_row 5 (some .int) ∈ tblG := tg 1475 (by decide +kernel) (by decide +kernel)
theorem gW_X12_row : GoodIn tblG (wsG yX12_row cX12_row 5 (some .int)) := tgi cd_X12_row
theorem gV_L_62 : GoodIn tblG (wsV RL 62 RX12 yX12_row (wsG yX12_row cX12_row 5 (some .int))) := tgV ml_L_62 im_X12_row se_X12_row ini_X12 gW_X12_row
theorem hv_X12_row : yX12_row.cls = RX12 ∧ yX12_row.cls ≠ "java/lang/invoke/MethodHandle" ∧ yX12_row.cls ≠ "java/lang/invoke/VarHandle" ∧ (parseMethodDescriptor yX12_row.desc).map (fun d => d.parameters.length) = some 0 := by decide +kernel
theorem ml_L_66 : Cond.methodLink RL 66 yX12_faded ∈ tblG := tg 1476 (by decide +kernel) (by decide +kernel)
theorem im_X12_faded : Cond.instanceMethod yX12_faded ∈ tblG := tg 1477 (by decide +kernel) (by decide +kernel)
theorem se_X12_faded : Cond.selects RX12 yX12_faded yX12_faded ∈ tblG := tg 1478 (by decide +kernel) (by decide +kernel)
theorem cd_X12_faded : Cond.code yX12_faded cX12_faded 1 (some .int) ∈ tblG := tg 1479 (by decide +kernel) (by decide +kernel)
theorem gW_X12_faded : GoodIn tblG (wsG yX12_faded cX12_faded 1 (some .int)) := tgi cd_X12_faded
theorem gV_L_66 : GoodIn tblG (wsV RL 66 RX12 yX12_faded (wsG yX12_faded cX12_faded 1 (some .int))) := tgV ml_L_66 im_X12_faded se_X12_faded ini_X12 gW_X12_faded
theorem hv_X12_faded : yX12_faded.cls = RX12 ∧ yX12_faded.cls ≠ "java/lang/invoke/MethodHandle" ∧ yX12_faded.cls ≠ "java/lang/invoke/VarHandle" ∧ (parseMethodDescriptor yX12_faded.desc).map (fun d => d.parameters.length) = some 0 := by decide +kernel
theorem ml_L_70 : Cond.methodLink RL 70 yX12_law ∈ tblG := tg 1496 (by decide +kernel) (by decide +kernel)
theorem im_X12_law : Cond.instanceMethod yX12_law ∈ tblG := tg 1497 (by decide +kernel) (by decide +kernel)
theorem se_X12_law : Cond.selects RX12 yX12_law yX12_law ∈ tblG := tg 1498 (by decide +kernel) (by decide +kernel)
theorem cd_X12_law : Cond.code yX12_law cX12_law 3 (some .int) ∈ tblG := tg 1499 (by decide +kernel) (by decide +kernel)
theorem gW_X12_law : GoodIn tblG (wsG yX12_law cX12_law 3 (some .int)) := tgi cd_X12_law
theorem gV_L_70 : GoodIn tblG (wsV RL 70 RX12 yX12_law (wsG yX12_law cX12_law 3 (some .int))) := tgV ml_L_70 im_X12_law se_X12_law ini_X12 gW_X12_law
theorem hv_X12_law : yX12_law.cls = RX12 ∧ yX12_law.cls ≠ "java/lang/invoke/MethodHandle" ∧ yX12_law.cls ≠ "java/lang/invoke/VarHandle" ∧ (parseMethodDescriptor yX12_law.desc).map (fun d => d.parameters.length) = some 0 := by decide +kernel
theorem ml_L_74 : Cond.methodLink RL 74 yX12_fault ∈ tblG := tg 1492 (by decide +kernel) (by decide +kernel)
theorem im_X12_fault : Cond.instanceMethod yX12_fault ∈ tblG := tg 1493 (by decide +kernel) (by decide +kernel)
theorem se_X12_fault : Cond.selects RX12 yX12_fault yX12_fault ∈ tblG := tg 1494 (by decide +kernel) (by decide +kernel)
theorem cd_X12_fault : Cond.code yX12_fault cX12_fault 1 (some .int) ∈ tblG := tg 1495 (by decide +kernel) (by decide +kernel)
theorem gW_X12_fault : GoodIn tblG (wsG yX12_fault cX12_fault 1 (some .int)) := tgi cd_X12_fault
theorem gV_L_74 : GoodIn tblG (wsV RL 74 RX12 yX12_fault (wsG yX12_fault cX12_fault 1 (some .int))) := tgV ml_L_74 im_X12_fault se_X12_fault ini_X12 gW_X12_fault
theorem hv_X12_fault : yX12_fault.cls = RX12 ∧ yX12_fault.cls ≠ "java/lang/invoke/MethodHandle" ∧ yX12_fault.cls ≠ "java/lang/invoke/VarHandle" ∧ (parseMethodDescriptor yX12_fault.desc).map (fun d => d.parameters.length) = some 0 := by decide +kernel
theorem ml_L_78 : Cond.methodLink RL 78 yX12_force ∈ tblG := tg 1595 (by decide +kernel) (by decide +kernel)
theorem im_X12_force : Cond.instanceMethod yX12_force ∈ tblG := tg 1596 (by decide +kernel) (by decide +kernel)
theorem se_X12_force : Cond.selects RX12 yX12_force yX12_force ∈ tblG := tg 1597 (by decide +kernel) (by decide +kernel)
theorem cd_X12_force : Cond.code yX12_force cX12_force 2 (some .int) ∈ tblG := tg 1598 (by decide +kernel) (by decide +kernel)
theorem gW_X12_force : GoodIn tblG (wsG yX12_force cX12_force 2 (some .int)) := tgi cd_X12_force
theorem gV_L_78 : GoodIn tblG (wsV RL 78 RX12 yX12_force (wsG yX12_force cX12_force 2 (some .int))) := tgV ml_L_78 im_X12_force se_X12_force ini_X12 gW_X12_force
theorem hv_X12_force : yX12_force.cls = RX12 ∧ yX12_force.cls ≠ "java/lang/invoke/MethodHandle" ∧ yX12_force.cls ≠ "java/lang/invoke/VarHandle" ∧ (parseMethodDescriptor yX12_force.desc).map (fun d => d.parameters.length) = some 1 := by decide +kernel
theorem ml_L_82 : Cond.methodLink RL 82 yX12_look ∈ tblG := tg 1599 (by decide +kernel) (by decide +kernel)
theorem im_X12_look : Cond.instanceMethod yX12_look ∈ tblG := tg 1600 (by decide +kernel) (by decide +kernel)
theorem se_X12_look : Cond.selects RX12 yX12_look yX12_look ∈ tblG := tg 1601 (by decide +kernel) (by decide +kernel)
theorem cd_X12_look : Cond.code yX12_look cX12_look 5 (some .int) ∈ tblG := tg 1602 (by decide +kernel) (by decide +kernel)
theorem gW_X12_look : GoodIn tblG (wsG yX12_look cX12_look 5 (some .int)) := tgi cd_X12_look
theorem gV_L_82 : GoodIn tblG (wsV RL 82 RX12 yX12_look (wsG yX12_look cX12_look 5 (some .int))) := tgV ml_L_82 im_X12_look se_X12_look ini_X12 gW_X12_look
theorem hv_X12_look : yX12_look.cls = RX12 ∧ yX12_look.cls ≠ "java/lang/invoke/MethodHandle" ∧ yX12_look.cls ≠ "java/lang/invoke/VarHandle" ∧ (parseMethodDescriptor yX12_look.desc).map (fun d => d.parameters.length) = some 4 := by decide +kernel
theorem ml_L_86 : Cond.methodLink RL 86 yX12_point ∈ tblG := tg 1651 (by decide +kernel) (by decide +kernel)
theorem im_X12_point : Cond.instanceMethod yX12_point ∈ tblG := tg 1652 (by decide +kernel) (by decide +kernel)
theorem se_X12_point : Cond.selects RX12 yX12_point yX12_point ∈ tblG := tg 1653 (by decide +kernel) (by decide +kernel)
theorem cd_X12_point : Cond.code yX12_point cX12_point 5 (some .int) ∈ tblG := tg 1654 (by decide +kernel) (by decide +kernel)
theorem gW_X12_point : GoodIn tblG (wsG yX12_point cX12_point 5 (some .int)) := tgi cd_X12_point
theorem gV_L_86 : GoodIn tblG (wsV RL 86 RX12 yX12_point (wsG yX12_point cX12_point 5 (some .int))) := tgV ml_L_86 im_X12_point se_X12_point ini_X12 gW_X12_point
theorem hv_X12_point : yX12_point.cls = RX12 ∧ yX12_point.cls ≠ "java/lang/invoke/MethodHandle" ∧ yX12_point.cls ≠ "java/lang/invoke/VarHandle" ∧ (parseMethodDescriptor yX12_point.desc).map (fun d => d.parameters.length) = some 4 := by decide +kernel
theorem ml_L_90 : Cond.methodLink RL 90 yX12_sees ∈ tblG := tg 1655 (by decide +kernel) (by decide +kernel)
theorem im_X12_sees : Cond.instanceMethod yX12_sees ∈ tblG := tg 1656 (by decide +kernel) (by decide +kernel)
theorem se_X12_sees : Cond.selects RX12 yX12_sees yX12_sees ∈ tblG := tg 1657 (by decide +kernel) (by decide +kernel)
theorem cd_X12_sees : Cond.code yX12_sees cX12_sees 3 (some .int) ∈ tblG := tg 1658 (by decide +kernel) (by decide +kernel)
theorem gW_X12_sees : GoodIn tblG (wsG yX12_sees cX12_sees 3 (some .int)) := tgi cd_X12_sees
theorem gV_L_90 : GoodIn tblG (wsV RL 90 RX12 yX12_sees (wsG yX12_sees cX12_sees 3 (some .int))) := tgV ml_L_90 im_X12_sees se_X12_sees ini_X12 gW_X12_sees
theorem hv_X12_sees : yX12_sees.cls = RX12 ∧ yX12_sees.cls ≠ "java/lang/invoke/MethodHandle" ∧ yX12_sees.cls ≠ "java/lang/invoke/VarHandle" ∧ (parseMethodDescriptor yX12_sees.desc).map (fun d => d.parameters.length) = some 2 := by decide +kernel
theorem ml_L_94 : Cond.methodLink RL 94 yX12_late ∈ tblG := tg 1663 (by decide +kernel) (by decide +kernel)
theorem im_X12_late : Cond.instanceMethod yX12_late ∈ tblG := tg 1664 (by decide +kernel) (by decide +kernel)
theorem se_X12_late : Cond.selects RX12 yX12_late yX12_late ∈ tblG := tg 1665 (by decide +kernel) (by decide +kernel)
theorem cd_X12_late : Cond.code yX12_late cX12_late 4 (some .int) ∈ tblG := tg 1666 (by decide +kernel) (by decide +kernel)
theorem gW_X12_late : GoodIn tblG (wsG yX12_late cX12_late 4 (some .int)) := tgi cd_X12_late
theorem gV_L_94 : GoodIn tblG (wsV RL 94 RX12 yX12_late (wsG yX12_late cX12_late 4 (some .int))) := tgV ml_L_94 im_X12_late se_X12_late ini_X12 gW_X12_late
theorem hv_X12_late : yX12_late.cls = RX12 ∧ yX12_late.cls ≠ "java/lang/invoke/MethodHandle" ∧ yX12_late.cls ≠ "java/lang/invoke/VarHandle" ∧ (parseMethodDescriptor yX12_late.desc).map (fun d => d.parameters.length) = some 3 := by decide +kernel
theorem ml_L_98 : Cond.methodLink RL 98 yX12_first ∈ tblG := tg 1671 (by decide +kernel) (by decide +kernel)
theorem im_X12_first : Cond.instanceMethod yX12_first ∈ tblG := tg 1672 (by decide +kernel) (by decide +kernel)
theorem se_X12_first : Cond.selects RX12 yX12_first yX12_first ∈ tblG := tg 1673 (by decide +kernel) (by decide +kernel)
theorem cd_X12_first : Cond.code yX12_first cX12_first 6 (some .int) ∈ tblG := tg 1674 (by decide +kernel) (by decide +kernel)
theorem gW_X12_first : GoodIn tblG (wsG yX12_first cX12_first 6 (some .int)) := tgi cd_X12_first
theorem gV_L_98 : GoodIn tblG (wsV RL 98 RX12 yX12_first (wsG yX12_first cX12_first 6 (some .int))) := tgV ml_L_98 im_X12_first se_X12_first ini_X12 gW_X12_first
theorem hv_X12_first : yX12_first.cls = RX12 ∧ yX12_first.cls ≠ "java/lang/invoke/MethodHandle" ∧ yX12_first.cls ≠ "java/lang/invoke/VarHandle" ∧ (parseMethodDescriptor yX12_first.desc).map (fun d => d.parameters.length) = some 2 := by decide +kernel
theorem ml_L_102 : Cond.methodLink RL 102 yX12_lit ∈ tblG := tg 1676 (by decide +kernel) (by decide +kernel)
theorem im_X12_lit : Cond.instanceMethod yX12_lit ∈ tblG := tg 1677 (by decide +kernel) (by decide +kernel)
theorem se_X12_lit : Cond.selects RX12 yX12_lit yX12_lit ∈ tblG := tg 1678 (by decide +kernel) (by decide +kernel)
theorem cd_X12_lit : Cond.code yX12_lit cX12_lit 8 (some .int) ∈ tblG := tg 1679 (by decide +kernel) (by decide +kernel)
theorem gW_X12_lit : GoodIn tblG (wsG yX12_lit cX12_lit 8 (some .int)) := tgi cd_X12_lit
theorem gV_L_102 : GoodIn tblG (wsV RL 102 RX12 yX12_lit (wsG yX12_lit cX12_lit 8 (some .int))) := tgV ml_L_102 im_X12_lit se_X12_lit ini_X12 gW_X12_lit
theorem hv_X12_lit : yX12_lit.cls = RX12 ∧ yX12_lit.cls ≠ "java/lang/invoke/MethodHandle" ∧ yX12_lit.cls ≠ "java/lang/invoke/VarHandle" ∧ (parseMethodDescriptor yX12_lit.desc).map (fun d => d.parameters.length) = some 3 := by decide +kernel
theorem ml_L_106 : Cond.methodLink RL 106 yX12_unseen ∈ tblG := tg 1688 (by decide +kernel) (by decide +kernel)
theorem im_X12_unseen : Cond.instanceMethod yX12_unseen ∈ tblG := tg 1689 (by decide +kernel) (by decide +kernel)
theorem se_X12_unseen : Cond.selects RX12 yX12_unseen yX12_unseen ∈ tblG := tg 1690 (by decide +kernel) (by decide +kernel)
theorem cd_X12_unseen : Cond.code yX12_unseen cX12_unseen 4 (some .int) ∈ tblG := tg 1691 (by decide +kernel) (by decide +kernel)
theorem gW_X12_unseen : GoodIn tblG (wsG yX12_unseen cX12_unseen 4 (some .int)) := tgi cd_X12_unseen
theorem gV_L_106 : GoodIn tblG (wsV RL 106 RX12 yX12_unseen (wsG yX12_unseen cX12_unseen 4 (some .int))) := tgV ml_L_106 im_X12_unseen se_X12_unseen ini_X12 gW_X12_unseen
theorem hv_X12_unseen : yX12_unseen.cls = RX12 ∧ yX12_unseen.cls ≠ "java/lang/invoke/MethodHandle" ∧ yX12_unseen.cls ≠ "java/lang/invoke/VarHandle" ∧ (parseMethodDescriptor yX12_unseen.desc).map (fun d => d.parameters.length) = some 1 := by decide +kernel
theorem ml_L_110 : Cond.methodLink RL 110 yX12_sighting ∈ tblG := tg 1696 (by decide +kernel) (by decide +kernel)
theorem im_X12_sighting : Cond.instanceMethod yX12_sighting ∈ tblG := tg 1697 (by decide +kernel) (by decide +kernel)
theorem se_X12_sighting : Cond.selects RX12 yX12_sighting yX12_sighting ∈ tblG := tg 1698 (by decide +kernel) (by decide +kernel)
theorem cd_X12_sighting : Cond.code yX12_sighting cX12_sighting 8 (some .int) ∈ tblG := tg 1699 (by decide +kernel) (by decide +kernel)
theorem gW_X12_sighting : GoodIn tblG (wsG yX12_sighting cX12_sighting 8 (some .int)) := tgi cd_X12_sighting
theorem gV_L_110 : GoodIn tblG (wsV RL 110 RX12 yX12_sighting (wsG yX12_sighting cX12_sighting 8 (some .int))) := tgV ml_L_110 im_X12_sighting se_X12_sighting ini_X12 gW_X12_sighting
theorem hv_X12_sighting : yX12_sighting.cls = RX12 ∧ yX12_sighting.cls ≠ "java/lang/invoke/MethodHandle" ∧ yX12_sighting.cls ≠ "java/lang/invoke/VarHandle" ∧ (parseMethodDescriptor yX12_sighting.desc).map (fun d => d.parameters.length) = some 4 := by decide +kernel
theorem ml_L_114 : Cond.methodLink RL 114 yX12_drop ∈ tblG := tg 1700 (by decide +kernel) (by decide +kernel)
theorem im_X12_drop : Cond.instanceMethod yX12_drop ∈ tblG := tg 1701 (by decide +kernel) (by decide +kernel)
theorem se_X12_drop : Cond.selects RX12 yX12_drop yX12_drop ∈ tblG := tg 1702 (by decide +kernel) (by decide +kernel)
theorem cd_X12_drop : Cond.code yX12_drop cX12_drop 3 (some .int) ∈ tblG := tg 1703 (by decide +kernel) (by decide +kernel)
theorem gW_X12_drop : GoodIn tblG (wsG yX12_drop cX12_drop 3 (some .int)) := tgi cd_X12_drop
theorem gV_L_114 : GoodIn tblG (wsV RL 114 RX12 yX12_drop (wsG yX12_drop cX12_drop 3 (some .int))) := tgV ml_L_114 im_X12_drop se_X12_drop ini_X12 gW_X12_drop
theorem hv_X12_drop : yX12_drop.cls = RX12 ∧ yX12_drop.cls ≠ "java/lang/invoke/MethodHandle" ∧ yX12_drop.cls ≠ "java/lang/invoke/VarHandle" ∧ (parseMethodDescriptor yX12_drop.desc).map (fun d => d.parameters.length) = some 1 := by decide +kernel
theorem ml_L_118 : Cond.methodLink RL 118 yX12_start ∈ tblG := tg 1704 (by decide +kernel) (by decide +kernel)
theorem im_X12_start : Cond.instanceMethod yX12_start ∈ tblG := tg 1705 (by decide +kernel) (by decide +kernel)
theorem se_X12_start : Cond.selects RX12 yX12_start yX12_start ∈ tblG := tg 1706 (by decide +kernel) (by decide +kernel)
theorem cd_X12_start : Cond.code yX12_start cX12_start 2 (some .int) ∈ tblG := tg 1707 (by decide +kernel) (by decide +kernel)
theorem gW_X12_start : GoodIn tblG (wsG yX12_start cX12_start 2 (some .int)) := tgi cd_X12_start
theorem gV_L_118 : GoodIn tblG (wsV RL 118 RX12 yX12_start (wsG yX12_start cX12_start 2 (some .int))) := tgV ml_L_118 im_X12_start se_X12_start ini_X12 gW_X12_start
theorem hv_X12_start : yX12_start.cls = RX12 ∧ yX12_start.cls ≠ "java/lang/invoke/MethodHandle" ∧ yX12_start.cls ≠ "java/lang/invoke/VarHandle" ∧ (parseMethodDescriptor yX12_start.desc).map (fun d => d.parameters.length) = some 1 := by decide +kernel
theorem ml_L_123 : Cond.methodLink RL 123 yX12_fits_ ∈ tblG := tg 1708 (by decide +kernel) (by decide +kernel)
theorem im_X12_fits_ : Cond.instanceMethod yX12_fits_ ∈ tblG := tg 1709 (by decide +kernel) (by decide +kernel)
theorem se_X12_fits_ : Cond.selects RX12 yX12_fits_ yX12_fits_ ∈ tblG := tg 1710 (by decide +kernel) (by decide +kernel)
theorem cd_X12_fits_ : Cond.code yX12_fits_ cX12_fits_ 1 (some .long) ∈ tblG := tg 1711 (by decide +kernel) (by decide +kernel)
theorem gW_X12_fits_ : GoodIn tblG (wsG yX12_fits_ cX12_fits_ 1 (some .long)) := tgi cd_X12_fits_
theorem gV_L_123 : GoodIn tblG (wsV RL 123 RX12 yX12_fits_ (wsG yX12_fits_ cX12_fits_ 1 (some .long))) := tgV ml_L_123 im_X12_fits_ se_X12_fits_ ini_X12 gW_X12_fits_
theorem hv_X12_fits_ : yX12_fits_.cls = RX12 ∧ yX12_fits_.cls ≠ "java/lang/invoke/MethodHandle" ∧ yX12_fits_.cls ≠ "java/lang/invoke/VarHandle" ∧ (parseMethodDescriptor yX12_fits_.desc).map (fun d => d.parameters.length) = some 0 := by decide +kernel
theorem ml_L_128 : Cond.methodLink RL 128 yX12_could ∈ tblG := tg 1760 (by decide +kernel) (by decide +kernel)
theorem im_X12_could : Cond.instanceMethod yX12_could ∈ tblG := tg 1761 (by decide +kernel) (by decide +kernel)
theorem se_X12_could : Cond.selects RX12 yX12_could yX12_could ∈ tblG := tg 1762 (by decide +kernel) (by decide +kernel)
theorem cd_X12_could : Cond.code yX12_could cX12_could 6 (some .long) ∈ tblG := tg 1763 (by decide +kernel) (by decide +kernel)
theorem gW_X12_could : GoodIn tblG (wsG yX12_could cX12_could 6 (some .long)) := tgi cd_X12_could
theorem gV_L_128 : GoodIn tblG (wsV RL 128 RX12 yX12_could (wsG yX12_could cX12_could 6 (some .long))) := tgV ml_L_128 im_X12_could se_X12_could ini_X12 gW_X12_could
theorem hv_X12_could : yX12_could.cls = RX12 ∧ yX12_could.cls ≠ "java/lang/invoke/MethodHandle" ∧ yX12_could.cls ≠ "java/lang/invoke/VarHandle" ∧ (parseMethodDescriptor yX12_could.desc).map (fun d => d.parameters.length) = some 2 := by decide +kernel
theorem ml_L_132 : Cond.methodLink RL 132 yX12_path ∈ tblG := tg 1764 (by decide +kernel) (by decide +kernel)
theorem im_X12_path : Cond.instanceMethod yX12_path ∈ tblG := tg 1765 (by decide +kernel) (by decide +kernel)
theorem se_X12_path : Cond.selects RX12 yX12_path yX12_path ∈ tblG := tg 1766 (by decide +kernel) (by decide +kernel)
theorem cd_X12_path : Cond.code yX12_path cX12_path 8 (some .int) ∈ tblG := tg 1767 (by decide +kernel) (by decide +kernel)
theorem gW_X12_path : GoodIn tblG (wsG yX12_path cX12_path 8 (some .int)) := tgi cd_X12_path
theorem gV_L_132 : GoodIn tblG (wsV RL 132 RX12 yX12_path (wsG yX12_path cX12_path 8 (some .int))) := tgV ml_L_132 im_X12_path se_X12_path ini_X12 gW_X12_path
theorem hv_X12_path : yX12_path.cls = RX12 ∧ yX12_path.cls ≠ "java/lang/invoke/MethodHandle" ∧ yX12_path.cls ≠ "java/lang/invoke/VarHandle" ∧ (parseMethodDescriptor yX12_path.desc).map (fun d => d.parameters.length) = some 1 := by decide +kernel
theorem ml_L_136 : Cond.methodLink RL 136 yX12_core ∈ tblG := tg 1744 (by decide +kernel) (by decide +kernel)
theorem im_X12_core : Cond.instanceMethod yX12_core ∈ tblG := tg 1745 (by decide +kernel) (by decide +kernel)
theorem se_X12_core : Cond.selects RX12 yX12_core yX12_core ∈ tblG := tg 1746 (by decide +kernel) (by decide +kernel)
theorem cd_X12_core : Cond.code yX12_core cX12_core 3 (some .int) ∈ tblG := tg 1747 (by decide +kernel) (by decide +kernel)
theorem gW_X12_core : GoodIn tblG (wsG yX12_core cX12_core 3 (some .int)) := tgi cd_X12_core
theorem gV_L_136 : GoodIn tblG (wsV RL 136 RX12 yX12_core (wsG yX12_core cX12_core 3 (some .int))) := tgV ml_L_136 im_X12_core se_X12_core ini_X12 gW_X12_core
theorem hv_X12_core : yX12_core.cls = RX12 ∧ yX12_core.cls ≠ "java/lang/invoke/MethodHandle" ∧ yX12_core.cls ≠ "java/lang/invoke/VarHandle" ∧ (parseMethodDescriptor yX12_core.desc).map (fun d => d.parameters.length) = some 0 := by decide +kernel
theorem ml_L_141 : Cond.methodLink RL 141 yX12_tells ∈ tblG := tg 1752 (by decide +kernel) (by decide +kernel)
theorem im_X12_tells : Cond.instanceMethod yX12_tells ∈ tblG := tg 1753 (by decide +kernel) (by decide +kernel)
theorem se_X12_tells : Cond.selects RX12 yX12_tells yX12_tells ∈ tblG := tg 1754 (by decide +kernel) (by decide +kernel)
theorem cd_X12_tells : Cond.code yX12_tells cX12_tells 6 (some .long) ∈ tblG := tg 1755 (by decide +kernel) (by decide +kernel)
theorem gW_X12_tells : GoodIn tblG (wsG yX12_tells cX12_tells 6 (some .long)) := tgi cd_X12_tells
theorem gV_L_141 : GoodIn tblG (wsV RL 141 RX12 yX12_tells (wsG yX12_tells cX12_tells 6 (some .long))) := tgV ml_L_141 im_X12_tells se_X12_tells ini_X12 gW_X12_tells
theorem hv_X12_tells : yX12_tells.cls = RX12 ∧ yX12_tells.cls ≠ "java/lang/invoke/MethodHandle" ∧ yX12_tells.cls ≠ "java/lang/invoke/VarHandle" ∧ (parseMethodDescriptor yX12_tells.desc).map (fun d => d.parameters.length) = some 3 := by decide +kernel
theorem ml_L_145 : Cond.methodLink RL 145 yX12_surely ∈ tblG := tg 1756 (by decide +kernel) (by decide +kernel)
theorem im_X12_surely : Cond.instanceMethod yX12_surely ∈ tblG := tg 1757 (by decide +kernel) (by decide +kernel)
theorem se_X12_surely : Cond.selects RX12 yX12_surely yX12_surely ∈ tblG := tg 1758 (by decide +kernel) (by decide +kernel)
theorem cd_X12_surely : Cond.code yX12_surely cX12_surely 5 (some .int) ∈ tblG := tg 1759 (by decide +kernel) (by decide +kernel)
theorem gW_X12_surely : GoodIn tblG (wsG yX12_surely cX12_surely 5 (some .int)) := tgi cd_X12_surely
theorem gV_L_145 : GoodIn tblG (wsV RL 145 RX12 yX12_surely (wsG yX12_surely cX12_surely 5 (some .int))) := tgV ml_L_145 im_X12_surely se_X12_surely ini_X12 gW_X12_surely
theorem hv_X12_surely : yX12_surely.cls = RX12 ∧ yX12_surely.cls ≠ "java/lang/invoke/MethodHandle" ∧ yX12_surely.cls ≠ "java/lang/invoke/VarHandle" ∧ (parseMethodDescriptor yX12_surely.desc).map (fun d => d.parameters.length) = some 1 := by decide +kernel
theorem ml_L_149 : Cond.methodLink RL 149 yX12_spot ∈ tblG := tg 1771 (by decide +kernel) (by decide +kernel)
theorem im_X12_spot : Cond.instanceMethod yX12_spot ∈ tblG := tg 1772 (by decide +kernel) (by decide +kernel)
theorem se_X12_spot : Cond.selects RX12 yX12_spot yX12_spot ∈ tblG := tg 1773 (by decide +kernel) (by decide +kernel)
theorem cd_X12_spot : Cond.code yX12_spot cX12_spot 5 (some .int) ∈ tblG := tg 1774 (by decide +kernel) (by decide +kernel)
theorem gW_X12_spot : GoodIn tblG (wsG yX12_spot cX12_spot 5 (some .int)) := tgi cd_X12_spot
theorem gV_L_149 : GoodIn tblG (wsV RL 149 RX12 yX12_spot (wsG yX12_spot cX12_spot 5 (some .int))) := tgV ml_L_149 im_X12_spot se_X12_spot ini_X12 gW_X12_spot
theorem hv_X12_spot : yX12_spot.cls = RX12 ∧ yX12_spot.cls ≠ "java/lang/invoke/MethodHandle" ∧ yX12_spot.cls ≠ "java/lang/invoke/VarHandle" ∧ (parseMethodDescriptor yX12_spot.desc).map (fun d => d.parameters.length) = some 3 := by decide +kernel
theorem ml_L_154 : Cond.methodLink RL 154 yX12_wish ∈ tblG := tg 1775 (by decide +kernel) (by decide +kernel)
theorem im_X12_wish : Cond.instanceMethod yX12_wish ∈ tblG := tg 1776 (by decide +kernel) (by decide +kernel)
theorem se_X12_wish : Cond.selects RX12 yX12_wish yX12_wish ∈ tblG := tg 1777 (by decide +kernel) (by decide +kernel)
theorem cd_X12_wish : Cond.code yX12_wish cX12_wish 9 (some .int) ∈ tblG := tg 1778 (by decide +kernel) (by decide +kernel)
theorem gW_X12_wish : GoodIn tblG (wsG yX12_wish cX12_wish 9 (some .int)) := tgi cd_X12_wish
theorem gV_L_154 : GoodIn tblG (wsV RL 154 RX12 yX12_wish (wsG yX12_wish cX12_wish 9 (some .int))) := tgV ml_L_154 im_X12_wish se_X12_wish ini_X12 gW_X12_wish
theorem hv_X12_wish : yX12_wish.cls = RX12 ∧ yX12_wish.cls ≠ "java/lang/invoke/MethodHandle" ∧ yX12_wish.cls ≠ "java/lang/invoke/VarHandle" ∧ (parseMethodDescriptor yX12_wish.desc).map (fun d => d.parameters.length) = some 6 := by decide +kernel
theorem ml_L_158 : Cond.methodLink RL 158 yX12_lacks ∈ tblG := tg 1779 (by decide +kernel) (by decide +kernel)
theorem im_X12_lacks : Cond.instanceMethod yX12_lacks ∈ tblG := tg 1780 (by decide +kernel) (by decide +kernel)
theorem se_X12_lacks : Cond.selects RX12 yX12_lacks yX12_lacks ∈ tblG := tg 1781 (by decide +kernel) (by decide +kernel)
theorem cd_X12_lacks : Cond.code yX12_lacks cX12_lacks 2 (some .int) ∈ tblG := tg 1782 (by decide +kernel) (by decide +kernel)
theorem gW_X12_lacks : GoodIn tblG (wsG yX12_lacks cX12_lacks 2 (some .int)) := tgi cd_X12_lacks
theorem gV_L_158 : GoodIn tblG (wsV RL 158 RX12 yX12_lacks (wsG yX12_lacks cX12_lacks 2 (some .int))) := tgV ml_L_158 im_X12_lacks se_X12_lacks ini_X12 gW_X12_lacks
theorem hv_X12_lacks : yX12_lacks.cls = RX12 ∧ yX12_lacks.cls ≠ "java/lang/invoke/MethodHandle" ∧ yX12_lacks.cls ≠ "java/lang/invoke/VarHandle" ∧ (parseMethodDescriptor yX12_lacks.desc).map (fun d => d.parameters.length) = some 1 := by decide +kernel
theorem ml_L_162 : Cond.methodLink RL 162 yX12_hang ∈ tblG := tg 1791 (by decide +kernel) (by decide +kernel)
theorem im_X12_hang : Cond.instanceMethod yX12_hang ∈ tblG := tg 1792 (by decide +kernel) (by decide +kernel)
theorem se_X12_hang : Cond.selects RX12 yX12_hang yX12_hang ∈ tblG := tg 1793 (by decide +kernel) (by decide +kernel)
theorem cd_X12_hang : Cond.code yX12_hang cX12_hang 7 (some .int) ∈ tblG := tg 1794 (by decide +kernel) (by decide +kernel)
theorem gW_X12_hang : GoodIn tblG (wsG yX12_hang cX12_hang 7 (some .int)) := tgi cd_X12_hang
theorem gV_L_162 : GoodIn tblG (wsV RL 162 RX12 yX12_hang (wsG yX12_hang cX12_hang 7 (some .int))) := tgV ml_L_162 im_X12_hang se_X12_hang ini_X12 gW_X12_hang
theorem hv_X12_hang : yX12_hang.cls = RX12 ∧ yX12_hang.cls ≠ "java/lang/invoke/MethodHandle" ∧ yX12_hang.cls ≠ "java/lang/invoke/VarHandle" ∧ (parseMethodDescriptor yX12_hang.desc).map (fun d => d.parameters.length) = some 1 := by decide +kernel
theorem ml_L_166 : Cond.methodLink RL 166 yX12_soonest ∈ tblG := tg 1798 (by decide +kernel) (by decide +kernel)
theorem im_X12_soonest : Cond.instanceMethod yX12_soonest ∈ tblG := tg 1799 (by decide +kernel) (by decide +kernel)
theorem se_X12_soonest : Cond.selects RX12 yX12_soonest yX12_soonest ∈ tblG := tg 1800 (by decide +kernel) (by decide +kernel)
theorem cd_X12_soonest : Cond.code yX12_soonest cX12_soonest 4 (some .int) ∈ tblG := tg 1801 (by decide +kernel) (by decide +kernel)
theorem gW_X12_soonest : GoodIn tblG (wsG yX12_soonest cX12_soonest 4 (some .int)) := tgi cd_X12_soonest
theorem gV_L_166 : GoodIn tblG (wsV RL 166 RX12 yX12_soonest (wsG yX12_soonest cX12_soonest 4 (some .int))) := tgV ml_L_166 im_X12_soonest se_X12_soonest ini_X12 gW_X12_soonest
theorem hv_X12_soonest : yX12_soonest.cls = RX12 ∧ yX12_soonest.cls ≠ "java/lang/invoke/MethodHandle" ∧ yX12_soonest.cls ≠ "java/lang/invoke/VarHandle" ∧ (parseMethodDescriptor yX12_soonest.desc).map (fun d => d.parameters.length) = some 3 := by decide +kernel
theorem ml_L_170 : Cond.methodLink RL 170 yX12_way ∈ tblG := tg 1806 (by decide +kernel) (by decide +kernel)
theorem im_X12_way : Cond.instanceMethod yX12_way ∈ tblG := tg 1807 (by decide +kernel) (by decide +kernel)
theorem se_X12_way : Cond.selects RX12 yX12_way yX12_way ∈ tblG := tg 1808 (by decide +kernel) (by decide +kernel)
theorem cd_X12_way : Cond.code yX12_way cX12_way 10 (some .int) ∈ tblG := tg 1809 (by decide +kernel) (by decide +kernel)
theorem gW_X12_way : GoodIn tblG (wsG yX12_way cX12_way 10 (some .int)) := tgi cd_X12_way
theorem gV_L_170 : GoodIn tblG (wsV RL 170 RX12 yX12_way (wsG yX12_way cX12_way 10 (some .int))) := tgV ml_L_170 im_X12_way se_X12_way ini_X12 gW_X12_way
theorem hv_X12_way : yX12_way.cls = RX12 ∧ yX12_way.cls ≠ "java/lang/invoke/MethodHandle" ∧ yX12_way.cls ≠ "java/lang/invoke/VarHandle" ∧ (parseMethodDescriptor yX12_way.desc).map (fun d => d.parameters.length) = some 4 := by decide +kernel
theorem ml_L_174 : Cond.methodLink RL 174 yX12_sooner ∈ tblG := tg 1810 (by decide +kernel) (by decide +kernel)
theorem im_X12_sooner : Cond.instanceMethod yX12_sooner ∈ tblG := tg 1811 (by decide +kernel) (by decide +kernel)
theorem se_X12_sooner : Cond.selects RX12 yX12_sooner yX12_sooner ∈ tblG := tg 1812 (by decide +kernel) (by decide +kernel)
theorem cd_X12_sooner : Cond.code yX12_sooner cX12_sooner 12 (some .int) ∈ tblG := tg 1813 (by decide +kernel) (by decide +kernel)
theorem gW_X12_sooner : GoodIn tblG (wsG yX12_sooner cX12_sooner 12 (some .int)) := tgi cd_X12_sooner
theorem gV_L_174 : GoodIn tblG (wsV RL 174 RX12 yX12_sooner (wsG yX12_sooner cX12_sooner 12 (some .int))) := tgV ml_L_174 im_X12_sooner se_X12_sooner ini_X12 gW_X12_sooner
theorem hv_X12_sooner : yX12_sooner.cls = RX12 ∧ yX12_sooner.cls ≠ "java/lang/invoke/MethodHandle" ∧ yX12_sooner.cls ≠ "java/lang/invoke/VarHandle" ∧ (parseMethodDescriptor yX12_sooner.desc).map (fun d => d.parameters.length) = some 4 := by decide +kernel
theorem ml_L_178 : Cond.methodLink RL 178 yX12_wander ∈ tblG := tg 1814 (by decide +kernel) (by decide +kernel)
theorem im_X12_wander : Cond.instanceMethod yX12_wander ∈ tblG := tg 1815 (by decide +kernel) (by decide +kernel)
theorem se_X12_wander : Cond.selects RX12 yX12_wander yX12_wander ∈ tblG := tg 1816 (by decide +kernel) (by decide +kernel)
theorem cd_X12_wander : Cond.code yX12_wander cX12_wander 7 (some .int) ∈ tblG := tg 1817 (by decide +kernel) (by decide +kernel)
theorem gW_X12_wander : GoodIn tblG (wsG yX12_wander cX12_wander 7 (some .int)) := tgi cd_X12_wander
theorem gV_L_178 : GoodIn tblG (wsV RL 178 RX12 yX12_wander (wsG yX12_wander cX12_wander 7 (some .int))) := tgV ml_L_178 im_X12_wander se_X12_wander ini_X12 gW_X12_wander
theorem hv_X12_wander : yX12_wander.cls = RX12 ∧ yX12_wander.cls ≠ "java/lang/invoke/MethodHandle" ∧ yX12_wander.cls ≠ "java/lang/invoke/VarHandle" ∧ (parseMethodDescriptor yX12_wander.desc).map (fun d => d.parameters.length) = some 2 := by decide +kernel
theorem ml_L_182 : Cond.methodLink RL 182 yX12_drawn ∈ tblG := tg 1821 (by decide +kernel) (by decide +kernel)
theorem im_X12_drawn : Cond.instanceMethod yX12_drawn ∈ tblG := tg 1822 (by decide +kernel) (by decide +kernel)
theorem se_X12_drawn : Cond.selects RX12 yX12_drawn yX12_drawn ∈ tblG := tg 1823 (by decide +kernel) (by decide +kernel)
theorem cd_X12_drawn : Cond.code yX12_drawn cX12_drawn 2 (some .int) ∈ tblG := tg 1824 (by decide +kernel) (by decide +kernel)
theorem gW_X12_drawn : GoodIn tblG (wsG yX12_drawn cX12_drawn 2 (some .int)) := tgi cd_X12_drawn
theorem gV_L_182 : GoodIn tblG (wsV RL 182 RX12 yX12_drawn (wsG yX12_drawn cX12_drawn 2 (some .int))) := tgV ml_L_182 im_X12_drawn se_X12_drawn ini_X12 gW_X12_drawn
theorem hv_X12_drawn : yX12_drawn.cls = RX12 ∧ yX12_drawn.cls ≠ "java/lang/invoke/MethodHandle" ∧ yX12_drawn.cls ≠ "java/lang/invoke/VarHandle" ∧ (parseMethodDescriptor yX12_drawn.desc).map (fun d => d.parameters.length) = some 1 := by decide +kernel
theorem ml_L_186 : Cond.methodLink RL 186 yX12_image ∈ tblG := tg 1360 (by decide +kernel) (by decide +kernel)
theorem im_X12_image : Cond.instanceMethod yX12_image ∈ tblG := tg 1361 (by decide +kernel) (by decide +kernel)
theorem se_X12_image : Cond.selects RX12 yX12_image yX12_image ∈ tblG := tg 1362 (by decide +kernel) (by decide +kernel)
theorem cd_X12_image : Cond.code yX12_image cX12_image 3 (some .int) ∈ tblG := tg 1363 (by decide +kernel) (by decide +kernel)
theorem gW_X12_image : GoodIn tblG (wsG yX12_image cX12_image 3 (some .int)) := tgi cd_X12_image
theorem gV_L_186 : GoodIn tblG (wsV RL 186 RX12 yX12_image (wsG yX12_image cX12_image 3 (some .int))) := tgV ml_L_186 im_X12_image se_X12_image ini_X12 gW_X12_image
theorem hv_X12_image : yX12_image.cls = RX12 ∧ yX12_image.cls ≠ "java/lang/invoke/MethodHandle" ∧ yX12_image.cls ≠ "java/lang/invoke/VarHandle" ∧ (parseMethodDescriptor yX12_image.desc).map (fun d => d.parameters.length) = some 1 := by decide +kernel
theorem ml_L_190 : Cond.methodLink RL 190 yX12_back ∈ tblG := tg 1371 (by decide +kernel) (by decide +kernel)
theorem im_X12_back : Cond.instanceMethod yX12_back ∈ tblG := tg 1372 (by decide +kernel) (by decide +kernel)
theorem se_X12_back : Cond.selects RX12 yX12_back yX12_back ∈ tblG := tg 1373 (by decide +kernel) (by decide +kernel)
theorem cd_X12_back : Cond.code yX12_back cX12_back 3 (some .int) ∈ tblG := tg 1374 (by decide +kernel) (by decide +kernel)
theorem gW_X12_back : GoodIn tblG (wsG yX12_back cX12_back 3 (some .int)) := tgi cd_X12_back
theorem gV_L_190 : GoodIn tblG (wsV RL 190 RX12 yX12_back (wsG yX12_back cX12_back 3 (some .int))) := tgV ml_L_190 im_X12_back se_X12_back ini_X12 gW_X12_back
theorem hv_X12_back : yX12_back.cls = RX12 ∧ yX12_back.cls ≠ "java/lang/invoke/MethodHandle" ∧ yX12_back.cls ≠ "java/lang/invoke/VarHandle" ∧ (parseMethodDescriptor yX12_back.desc).map (fun d => d.parameters.length) = some 1 := by decide +kernel
theorem ml_L_194 : Cond.methodLink RL 194 yX12_count ∈ tblG := tg 1825 (by decide +kernel) (by decide +kernel)
theorem im_X12_count : Cond.instanceMethod yX12_count ∈ tblG := tg 1826 (by decide +kernel) (by decide +kernel)
theorem se_X12_count : Cond.selects RX12 yX12_count yX12_count ∈ tblG := tg 1827 (by decide +kernel) (by decide +kernel)
theorem cd_X12_count : Cond.code yX12_count cX12_count 4 (some .int) ∈ tblG := tg 1828 (by decide +kernel) (by decide +kernel)
theorem gW_X12_count : GoodIn tblG (wsG yX12_count cX12_count 4 (some .int)) := tgi cd_X12_count
theorem gV_L_194 : GoodIn tblG (wsV RL 194 RX12 yX12_count (wsG yX12_count cX12_count 4 (some .int))) := tgV ml_L_194 im_X12_count se_X12_count ini_X12 gW_X12_count
theorem hv_X12_count : yX12_count.cls = RX12 ∧ yX12_count.cls ≠ "java/lang/invoke/MethodHandle" ∧ yX12_count.cls ≠ "java/lang/invoke/VarHandle" ∧ (parseMethodDescriptor yX12_count.desc).map (fun d => d.parameters.length) = some 1 := by decide +kernel
theorem ml_L_198 : Cond.methodLink RL 198 yX12_status ∈ tblG := tg 1829 (by decide +kernel) (by decide +kernel)
theorem im_X12_status : Cond.instanceMethod yX12_status ∈ tblG := tg 1830 (by decide +kernel) (by decide +kernel)
theorem se_X12_status : Cond.selects RX12 yX12_status yX12_status ∈ tblG := tg 1831 (by decide +kernel) (by decide +kernel)
theorem cd_X12_status : Cond.code yX12_status cX12_status 1 (some .int) ∈ tblG := tg 1832 (by decide +kernel) (by decide +kernel)
theorem gW_X12_status : GoodIn tblG (wsG yX12_status cX12_status 1 (some .int)) := tgi cd_X12_status
theorem gV_L_198 : GoodIn tblG (wsV RL 198 RX12 yX12_status (wsG yX12_status cX12_status 1 (some .int))) := tgV ml_L_198 im_X12_status se_X12_status ini_X12 gW_X12_status
theorem hv_X12_status : yX12_status.cls = RX12 ∧ yX12_status.cls ≠ "java/lang/invoke/MethodHandle" ∧ yX12_status.cls ≠ "java/lang/invoke/VarHandle" ∧ (parseMethodDescriptor yX12_status.desc).map (fun d => d.parameters.length) = some 0 := by decide +kernel
theorem isn_X0 : Cond.instantiable RX0 5 ∈ tblG := tg 350 (by decide +kernel) (by decide +kernel)
theorem isn_X1 : Cond.instantiable RX1 13 ∈ tblG := tg 120 (by decide +kernel) (by decide +kernel)
theorem isn_X2 : Cond.instantiable RX2 2 ∈ tblG := tg 229 (by decide +kernel) (by decide +kernel)
theorem isn_X4 : Cond.instantiable RX4 8 ∈ tblG := tg 394 (by decide +kernel) (by decide +kernel)
theorem isn_X5 : Cond.instantiable RX5 13 ∈ tblG := tg 223 (by decide +kernel) (by decide +kernel)
theorem isn_X6 : Cond.instantiable RX6 4 ∈ tblG := tg 128 (by decide +kernel) (by decide +kernel)
theorem isn_X7 : Cond.instantiable RX7 10 ∈ tblG := tg 312 (by decide +kernel) (by decide +kernel)
theorem isn_X8 : Cond.instantiable RX8 3 ∈ tblG := tg 400 (by decide +kernel) (by decide +kernel)
theorem isn_X9 : Cond.instantiable RX9 4 ∈ tblG := tg 375 (by decide +kernel) (by decide +kernel)
theorem isn_X10 : Cond.instantiable RX10 3 ∈ tblG := tg 295 (by decide +kernel) (by decide +kernel)
theorem isn_X11 : Cond.instantiable RX11 17 ∈ tblG := tg 112 (by decide +kernel) (by decide +kernel)
theorem isn_X12 : Cond.instantiable RX12 52 ∈ tblG := tg 1185 (by decide +kernel) (by decide +kernel)
theorem acl_J : Cond.arrayClass .long ∈ tblG := tg 220 (by decide +kernel) (by decide +kernel)
theorem acl_Z : Cond.arrayClass .boolean ∈ tblG := tg 242 (by decide +kernel) (by decide +kernel)
