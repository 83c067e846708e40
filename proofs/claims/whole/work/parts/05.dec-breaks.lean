abbrev cBreaks_init : ByteArray := prog_2_method_1_code
abbrev yBreaks_init : MethodName := ⟨"OptimalLines$Breaks", "<init>", "(LOptimalLines$Items;)V"⟩
abbrev wsBreaks_init : List Cond := Cond.code yBreaks_init cBreaks_init 2 none :: om_W
abbrev cBreaks_collect : ByteArray := prog_2_method_2_code
abbrev yBreaks_collect : MethodName := ⟨"OptimalLines$Breaks", "collect", "(Z)V"⟩
abbrev wsBreaks_collect : List Cond := Cond.code yBreaks_collect cBreaks_collect 3 none :: om_W
abbrev cBreaks_lineStart : ByteArray := prog_2_method_3_code
abbrev yBreaks_lineStart : MethodName := ⟨"OptimalLines$Breaks", "lineStart", "(II)I"⟩
abbrev wsBreaks_lineStart : List Cond := Cond.code yBreaks_lineStart cBreaks_lineStart 3 (some .int) :: om_W
abbrev cBreaks_isOutOfReach : ByteArray := prog_2_method_4_code
abbrev yBreaks_isOutOfReach : MethodName := ⟨"OptimalLines$Breaks", "isOutOfReach", "(III)Z"⟩
abbrev wsBreaks_isOutOfReach : List Cond := Cond.code yBreaks_isOutOfReach cBreaks_isOutOfReach 4 (some .boolean) :: om_W
abbrev cBreaks_shrunkBefore : ByteArray := prog_2_method_5_code
abbrev yBreaks_shrunkBefore : MethodName := ⟨"OptimalLines$Breaks", "shrunkBefore", "(I)I"⟩
abbrev wsBreaks_shrunkBefore : List Cond := Cond.code yBreaks_shrunkBefore cBreaks_shrunkBefore 2 (some .int) :: om_W
abbrev cBreaks_findHeads : ByteArray := prog_2_method_6_code
abbrev yBreaks_findHeads : MethodName := ⟨"OptimalLines$Breaks", "findHeads", "()V"⟩
abbrev wsBreaks_findHeads : List Cond := Cond.code yBreaks_findHeads cBreaks_findHeads 4 none :: om_W
abbrev cBreaks_findReaches : ByteArray := prog_2_method_7_code
abbrev yBreaks_findReaches : MethodName := ⟨"OptimalLines$Breaks", "findReaches", "()V"⟩
abbrev wsBreaks_findReaches : List Cond := Cond.code yBreaks_findReaches cBreaks_findReaches 3 none :: om_W
theorem dBreaks_init_0 : decode cBreaks_init 0 = .ok (.aload_n 0, 1) := by decide +kernel
theorem dBreaks_init_1 : decode cBreaks_init 1 = .ok (.invokespecial 3, 3) := by decide +kernel
theorem dBreaks_init_4 : decode cBreaks_init 4 = .ok (.aload_n 0, 1) := by decide +kernel
theorem dBreaks_init_5 : decode cBreaks_init 5 = .ok (.sipush 402, 3) := by decide +kernel
theorem dBreaks_init_8 : decode cBreaks_init 8 = .ok (.newarray .int, 2) := by decide +kernel
theorem dBreaks_init_10 : decode cBreaks_init 10 = .ok (.putfield 11, 3) := by decide +kernel
theorem dBreaks_init_13 : decode cBreaks_init 13 = .ok (.aload_n 0, 1) := by decide +kernel
theorem dBreaks_init_14 : decode cBreaks_init 14 = .ok (.sipush 402, 3) := by decide +kernel
theorem dBreaks_init_17 : decode cBreaks_init 17 = .ok (.newarray .int, 2) := by decide +kernel
theorem dBreaks_init_19 : decode cBreaks_init 19 = .ok (.putfield 15, 3) := by decide +kernel
theorem dBreaks_init_22 : decode cBreaks_init 22 = .ok (.aload_n 0, 1) := by decide +kernel
theorem dBreaks_init_23 : decode cBreaks_init 23 = .ok (.sipush 402, 3) := by decide +kernel
theorem dBreaks_init_26 : decode cBreaks_init 26 = .ok (.newarray .int, 2) := by decide +kernel
theorem dBreaks_init_28 : decode cBreaks_init 28 = .ok (.putfield 18, 3) := by decide +kernel
theorem dBreaks_init_31 : decode cBreaks_init 31 = .ok (.aload_n 0, 1) := by decide +kernel
theorem dBreaks_init_32 : decode cBreaks_init 32 = .ok (.sipush 402, 3) := by decide +kernel
theorem dBreaks_init_35 : decode cBreaks_init 35 = .ok (.newarray .int, 2) := by decide +kernel
theorem dBreaks_init_37 : decode cBreaks_init 37 = .ok (.putfield 21, 3) := by decide +kernel
theorem dBreaks_init_40 : decode cBreaks_init 40 = .ok (.aload_n 0, 1) := by decide +kernel
theorem dBreaks_init_41 : decode cBreaks_init 41 = .ok (.aload_n 1, 1) := by decide +kernel
theorem dBreaks_init_42 : decode cBreaks_init 42 = .ok (.putfield 24, 3) := by decide +kernel
theorem dBreaks_init_45 : decode cBreaks_init 45 = .ok (.return_, 1) := by decide +kernel
theorem dBreaks_collect_0 : decode cBreaks_collect 0 = .ok (.aload_n 0, 1) := by decide +kernel
theorem dBreaks_collect_1 : decode cBreaks_collect 1 = .ok (.getfield 11, 3) := by decide +kernel
theorem dBreaks_collect_4 : decode cBreaks_collect 4 = .ok (.iconst 0, 1) := by decide +kernel
theorem dBreaks_collect_5 : decode cBreaks_collect 5 = .ok (.iconst (-1), 1) := by decide +kernel
theorem dBreaks_collect_6 : decode cBreaks_collect 6 = .ok (.iastore, 1) := by decide +kernel
theorem dBreaks_collect_7 : decode cBreaks_collect 7 = .ok (.aload_n 0, 1) := by decide +kernel
theorem dBreaks_collect_8 : decode cBreaks_collect 8 = .ok (.iconst 0, 1) := by decide +kernel
theorem dBreaks_collect_9 : decode cBreaks_collect 9 = .ok (.putfield 28, 3) := by decide +kernel
theorem dBreaks_collect_12 : decode cBreaks_collect 12 = .ok (.iconst 0, 1) := by decide +kernel
theorem dBreaks_collect_13 : decode cBreaks_collect 13 = .ok (.istore_n 2, 1) := by decide +kernel
theorem dBreaks_collect_14 : decode cBreaks_collect 14 = .ok (.iload_n 2, 1) := by decide +kernel
theorem dBreaks_collect_15 : decode cBreaks_collect 15 = .ok (.aload_n 0, 1) := by decide +kernel
theorem dBreaks_collect_16 : decode cBreaks_collect 16 = .ok (.getfield 24, 3) := by decide +kernel
theorem dBreaks_collect_19 : decode cBreaks_collect 19 = .ok (.getfield 32, 3) := by decide +kernel
theorem dBreaks_collect_22 : decode cBreaks_collect 22 = .ok (.if_icmp .gt 41, 3) := by decide +kernel
theorem dBreaks_collect_25 : decode cBreaks_collect 25 = .ok (.aload_n 0, 1) := by decide +kernel
theorem dBreaks_collect_26 : decode cBreaks_collect 26 = .ok (.getfield 24, 3) := by decide +kernel
theorem dBreaks_collect_29 : decode cBreaks_collect 29 = .ok (.iload_n 2, 1) := by decide +kernel
theorem dBreaks_collect_30 : decode cBreaks_collect 30 = .ok (.iload_n 1, 1) := by decide +kernel
theorem dBreaks_collect_31 : decode cBreaks_collect 31 = .ok (.invokevirtual 37, 3) := by decide +kernel
theorem dBreaks_collect_34 : decode cBreaks_collect 34 = .ok (.ifCond .eq 23, 3) := by decide +kernel
theorem dBreaks_collect_37 : decode cBreaks_collect 37 = .ok (.aload_n 0, 1) := by decide +kernel
theorem dBreaks_collect_38 : decode cBreaks_collect 38 = .ok (.dup, 1) := by decide +kernel
theorem dBreaks_collect_39 : decode cBreaks_collect 39 = .ok (.getfield 28, 3) := by decide +kernel
theorem dBreaks_collect_42 : decode cBreaks_collect 42 = .ok (.iconst 1, 1) := by decide +kernel
theorem dBreaks_collect_43 : decode cBreaks_collect 43 = .ok (.iadd, 1) := by decide +kernel
theorem dBreaks_collect_44 : decode cBreaks_collect 44 = .ok (.putfield 28, 3) := by decide +kernel
theorem dBreaks_collect_47 : decode cBreaks_collect 47 = .ok (.aload_n 0, 1) := by decide +kernel
theorem dBreaks_collect_48 : decode cBreaks_collect 48 = .ok (.getfield 11, 3) := by decide +kernel
theorem dBreaks_collect_51 : decode cBreaks_collect 51 = .ok (.aload_n 0, 1) := by decide +kernel
theorem dBreaks_collect_52 : decode cBreaks_collect 52 = .ok (.getfield 28, 3) := by decide +kernel
theorem dBreaks_collect_55 : decode cBreaks_collect 55 = .ok (.iload_n 2, 1) := by decide +kernel
theorem dBreaks_collect_56 : decode cBreaks_collect 56 = .ok (.iastore, 1) := by decide +kernel
theorem dBreaks_collect_57 : decode cBreaks_collect 57 = .ok (.iinc 2 1, 3) := by decide +kernel
theorem dBreaks_collect_60 : decode cBreaks_collect 60 = .ok (.goto (-46), 3) := by decide +kernel
theorem dBreaks_collect_63 : decode cBreaks_collect 63 = .ok (.aload_n 0, 1) := by decide +kernel
theorem dBreaks_collect_64 : decode cBreaks_collect 64 = .ok (.invokevirtual 41, 3) := by decide +kernel
theorem dBreaks_collect_67 : decode cBreaks_collect 67 = .ok (.aload_n 0, 1) := by decide +kernel
theorem dBreaks_collect_68 : decode cBreaks_collect 68 = .ok (.invokevirtual 44, 3) := by decide +kernel
theorem dBreaks_collect_71 : decode cBreaks_collect 71 = .ok (.return_, 1) := by decide +kernel
theorem dBreaks_lineStart_0 : decode cBreaks_lineStart 0 = .ok (.aload_n 0, 1) := by decide +kernel
theorem dBreaks_lineStart_1 : decode cBreaks_lineStart 1 = .ok (.getfield 15, 3) := by decide +kernel
theorem dBreaks_lineStart_4 : decode cBreaks_lineStart 4 = .ok (.iload_n 1, 1) := by decide +kernel
theorem dBreaks_lineStart_5 : decode cBreaks_lineStart 5 = .ok (.iaload, 1) := by decide +kernel
theorem dBreaks_lineStart_6 : decode cBreaks_lineStart 6 = .ok (.aload_n 0, 1) := by decide +kernel
theorem dBreaks_lineStart_7 : decode cBreaks_lineStart 7 = .ok (.getfield 11, 3) := by decide +kernel
theorem dBreaks_lineStart_10 : decode cBreaks_lineStart 10 = .ok (.iload_n 2, 1) := by decide +kernel
theorem dBreaks_lineStart_11 : decode cBreaks_lineStart 11 = .ok (.iaload, 1) := by decide +kernel
theorem dBreaks_lineStart_12 : decode cBreaks_lineStart 12 = .ok (.invokestatic 47, 3) := by decide +kernel
theorem dBreaks_lineStart_15 : decode cBreaks_lineStart 15 = .ok (.ireturn, 1) := by decide +kernel
theorem dBreaks_isOutOfReach_0 : decode cBreaks_isOutOfReach 0 = .ok (.aload_n 0, 1) := by decide +kernel
theorem dBreaks_isOutOfReach_1 : decode cBreaks_isOutOfReach 1 = .ok (.getfield 21, 3) := by decide +kernel
theorem dBreaks_isOutOfReach_4 : decode cBreaks_isOutOfReach 4 = .ok (.iload_n 1, 1) := by decide +kernel
theorem dBreaks_isOutOfReach_5 : decode cBreaks_isOutOfReach 5 = .ok (.iaload, 1) := by decide +kernel
theorem dBreaks_isOutOfReach_6 : decode cBreaks_isOutOfReach 6 = .ok (.aload_n 0, 1) := by decide +kernel
theorem dBreaks_isOutOfReach_7 : decode cBreaks_isOutOfReach 7 = .ok (.iload_n 2, 1) := by decide +kernel
theorem dBreaks_isOutOfReach_8 : decode cBreaks_isOutOfReach 8 = .ok (.invokevirtual 53, 3) := by decide +kernel
theorem dBreaks_isOutOfReach_11 : decode cBreaks_isOutOfReach 11 = .ok (.isub, 1) := by decide +kernel
theorem dBreaks_isOutOfReach_12 : decode cBreaks_isOutOfReach 12 = .ok (.iload_n 3, 1) := by decide +kernel
theorem dBreaks_isOutOfReach_13 : decode cBreaks_isOutOfReach 13 = .ok (.if_icmp .le 7, 3) := by decide +kernel
theorem dBreaks_isOutOfReach_16 : decode cBreaks_isOutOfReach 16 = .ok (.iconst 1, 1) := by decide +kernel
theorem dBreaks_isOutOfReach_17 : decode cBreaks_isOutOfReach 17 = .ok (.goto 4, 3) := by decide +kernel
theorem dBreaks_isOutOfReach_20 : decode cBreaks_isOutOfReach 20 = .ok (.iconst 0, 1) := by decide +kernel
theorem dBreaks_isOutOfReach_21 : decode cBreaks_isOutOfReach 21 = .ok (.ireturn, 1) := by decide +kernel
theorem dBreaks_shrunkBefore_0 : decode cBreaks_shrunkBefore 0 = .ok (.aload_n 0, 1) := by decide +kernel
theorem dBreaks_shrunkBefore_1 : decode cBreaks_shrunkBefore 1 = .ok (.getfield 24, 3) := by decide +kernel
theorem dBreaks_shrunkBefore_4 : decode cBreaks_shrunkBefore 4 = .ok (.getfield 57, 3) := by decide +kernel
theorem dBreaks_shrunkBefore_7 : decode cBreaks_shrunkBefore 7 = .ok (.iload_n 1, 1) := by decide +kernel
theorem dBreaks_shrunkBefore_8 : decode cBreaks_shrunkBefore 8 = .ok (.iaload, 1) := by decide +kernel
theorem dBreaks_shrunkBefore_9 : decode cBreaks_shrunkBefore 9 = .ok (.aload_n 0, 1) := by decide +kernel
theorem dBreaks_shrunkBefore_10 : decode cBreaks_shrunkBefore 10 = .ok (.getfield 24, 3) := by decide +kernel
theorem dBreaks_shrunkBefore_13 : decode cBreaks_shrunkBefore 13 = .ok (.getfield 60, 3) := by decide +kernel
theorem dBreaks_shrunkBefore_16 : decode cBreaks_shrunkBefore 16 = .ok (.iload_n 1, 1) := by decide +kernel
theorem dBreaks_shrunkBefore_17 : decode cBreaks_shrunkBefore 17 = .ok (.iaload, 1) := by decide +kernel
theorem dBreaks_shrunkBefore_18 : decode cBreaks_shrunkBefore 18 = .ok (.isub, 1) := by decide +kernel
theorem dBreaks_shrunkBefore_19 : decode cBreaks_shrunkBefore 19 = .ok (.ireturn, 1) := by decide +kernel
theorem dBreaks_findHeads_0 : decode cBreaks_findHeads 0 = .ok (.aload_n 0, 1) := by decide +kernel
theorem dBreaks_findHeads_1 : decode cBreaks_findHeads 1 = .ok (.getfield 24, 3) := by decide +kernel
theorem dBreaks_findHeads_4 : decode cBreaks_findHeads 4 = .ok (.getfield 32, 3) := by decide +kernel
theorem dBreaks_findHeads_7 : decode cBreaks_findHeads 7 = .ok (.istore_n 1, 1) := by decide +kernel
theorem dBreaks_findHeads_8 : decode cBreaks_findHeads 8 = .ok (.aload_n 0, 1) := by decide +kernel
theorem dBreaks_findHeads_9 : decode cBreaks_findHeads 9 = .ok (.getfield 28, 3) := by decide +kernel
theorem dBreaks_findHeads_12 : decode cBreaks_findHeads 12 = .ok (.istore_n 2, 1) := by decide +kernel
theorem dBreaks_findHeads_13 : decode cBreaks_findHeads 13 = .ok (.aload_n 0, 1) := by decide +kernel
theorem dBreaks_findHeads_14 : decode cBreaks_findHeads 14 = .ok (.getfield 24, 3) := by decide +kernel
theorem dBreaks_findHeads_17 : decode cBreaks_findHeads 17 = .ok (.getfield 32, 3) := by decide +kernel
theorem dBreaks_findHeads_20 : decode cBreaks_findHeads 20 = .ok (.istore_n 3, 1) := by decide +kernel
theorem dBreaks_findHeads_21 : decode cBreaks_findHeads 21 = .ok (.iload_n 3, 1) := by decide +kernel
theorem dBreaks_findHeads_22 : decode cBreaks_findHeads 22 = .ok (.ifCond .lt 54, 3) := by decide +kernel
theorem dBreaks_findHeads_25 : decode cBreaks_findHeads 25 = .ok (.aload_n 0, 1) := by decide +kernel
theorem dBreaks_findHeads_26 : decode cBreaks_findHeads 26 = .ok (.getfield 11, 3) := by decide +kernel
theorem dBreaks_findHeads_29 : decode cBreaks_findHeads 29 = .ok (.iload_n 2, 1) := by decide +kernel
theorem dBreaks_findHeads_30 : decode cBreaks_findHeads 30 = .ok (.iaload, 1) := by decide +kernel
theorem dBreaks_findHeads_31 : decode cBreaks_findHeads 31 = .ok (.iload_n 3, 1) := by decide +kernel
theorem dBreaks_findHeads_32 : decode cBreaks_findHeads 32 = .ok (.if_icmp .ne 13, 3) := by decide +kernel
theorem dBreaks_findHeads_35 : decode cBreaks_findHeads 35 = .ok (.aload_n 0, 1) := by decide +kernel
theorem dBreaks_findHeads_36 : decode cBreaks_findHeads 36 = .ok (.getfield 15, 3) := by decide +kernel
theorem dBreaks_findHeads_39 : decode cBreaks_findHeads 39 = .ok (.iload_n 2, 1) := by decide +kernel
theorem dBreaks_findHeads_40 : decode cBreaks_findHeads 40 = .ok (.iload_n 1, 1) := by decide +kernel
theorem dBreaks_findHeads_41 : decode cBreaks_findHeads 41 = .ok (.iastore, 1) := by decide +kernel
theorem dBreaks_findHeads_42 : decode cBreaks_findHeads 42 = .ok (.iinc 2 (-1), 3) := by decide +kernel
theorem dBreaks_findHeads_45 : decode cBreaks_findHeads 45 = .ok (.iload_n 3, 1) := by decide +kernel
theorem dBreaks_findHeads_46 : decode cBreaks_findHeads 46 = .ok (.aload_n 0, 1) := by decide +kernel
theorem dBreaks_findHeads_47 : decode cBreaks_findHeads 47 = .ok (.getfield 24, 3) := by decide +kernel
theorem dBreaks_findHeads_50 : decode cBreaks_findHeads 50 = .ok (.getfield 32, 3) := by decide +kernel
theorem dBreaks_findHeads_53 : decode cBreaks_findHeads 53 = .ok (.if_icmp .ge 17, 3) := by decide +kernel
theorem dBreaks_findHeads_56 : decode cBreaks_findHeads 56 = .ok (.aload_n 0, 1) := by decide +kernel
theorem dBreaks_findHeads_57 : decode cBreaks_findHeads 57 = .ok (.getfield 24, 3) := by decide +kernel
theorem dBreaks_findHeads_60 : decode cBreaks_findHeads 60 = .ok (.getfield 63, 3) := by decide +kernel
theorem dBreaks_findHeads_63 : decode cBreaks_findHeads 63 = .ok (.iload_n 3, 1) := by decide +kernel
theorem dBreaks_findHeads_64 : decode cBreaks_findHeads 64 = .ok (.iaload, 1) := by decide +kernel
theorem dBreaks_findHeads_65 : decode cBreaks_findHeads 65 = .ok (.ifCond .ne 5, 3) := by decide +kernel
theorem dBreaks_findHeads_68 : decode cBreaks_findHeads 68 = .ok (.iload_n 3, 1) := by decide +kernel
theorem dBreaks_findHeads_69 : decode cBreaks_findHeads 69 = .ok (.istore_n 1, 1) := by decide +kernel
theorem dBreaks_findHeads_70 : decode cBreaks_findHeads 70 = .ok (.iinc 3 (-1), 3) := by decide +kernel
theorem dBreaks_findHeads_73 : decode cBreaks_findHeads 73 = .ok (.goto (-52), 3) := by decide +kernel
theorem dBreaks_findHeads_76 : decode cBreaks_findHeads 76 = .ok (.aload_n 0, 1) := by decide +kernel
theorem dBreaks_findHeads_77 : decode cBreaks_findHeads 77 = .ok (.getfield 15, 3) := by decide +kernel
theorem dBreaks_findHeads_80 : decode cBreaks_findHeads 80 = .ok (.iconst 0, 1) := by decide +kernel
theorem dBreaks_findHeads_81 : decode cBreaks_findHeads 81 = .ok (.iconst 0, 1) := by decide +kernel
theorem dBreaks_findHeads_82 : decode cBreaks_findHeads 82 = .ok (.iastore, 1) := by decide +kernel
theorem dBreaks_findHeads_83 : decode cBreaks_findHeads 83 = .ok (.return_, 1) := by decide +kernel
theorem dBreaks_findReaches_0 : decode cBreaks_findReaches 0 = .ok (.aload_n 0, 1) := by decide +kernel
theorem dBreaks_findReaches_1 : decode cBreaks_findReaches 1 = .ok (.getfield 18, 3) := by decide +kernel
theorem dBreaks_findReaches_4 : decode cBreaks_findReaches 4 = .ok (.aload_n 0, 1) := by decide +kernel
theorem dBreaks_findReaches_5 : decode cBreaks_findReaches 5 = .ok (.getfield 28, 3) := by decide +kernel
theorem dBreaks_findReaches_8 : decode cBreaks_findReaches 8 = .ok (.aload_n 0, 1) := by decide +kernel
theorem dBreaks_findReaches_9 : decode cBreaks_findReaches 9 = .ok (.getfield 28, 3) := by decide +kernel
theorem dBreaks_findReaches_12 : decode cBreaks_findReaches 12 = .ok (.iastore, 1) := by decide +kernel
theorem dBreaks_findReaches_13 : decode cBreaks_findReaches 13 = .ok (.aload_n 0, 1) := by decide +kernel
theorem dBreaks_findReaches_14 : decode cBreaks_findReaches 14 = .ok (.getfield 21, 3) := by decide +kernel
theorem dBreaks_findReaches_17 : decode cBreaks_findReaches 17 = .ok (.aload_n 0, 1) := by decide +kernel
theorem dBreaks_findReaches_18 : decode cBreaks_findReaches 18 = .ok (.getfield 28, 3) := by decide +kernel
theorem dBreaks_findReaches_21 : decode cBreaks_findReaches 21 = .ok (.aload_n 0, 1) := by decide +kernel
theorem dBreaks_findReaches_22 : decode cBreaks_findReaches 22 = .ok (.aload_n 0, 1) := by decide +kernel
theorem dBreaks_findReaches_23 : decode cBreaks_findReaches 23 = .ok (.getfield 11, 3) := by decide +kernel
theorem dBreaks_findReaches_26 : decode cBreaks_findReaches 26 = .ok (.aload_n 0, 1) := by decide +kernel
theorem dBreaks_findReaches_27 : decode cBreaks_findReaches 27 = .ok (.getfield 28, 3) := by decide +kernel
theorem dBreaks_findReaches_30 : decode cBreaks_findReaches 30 = .ok (.iaload, 1) := by decide +kernel
theorem dBreaks_findReaches_31 : decode cBreaks_findReaches 31 = .ok (.invokevirtual 53, 3) := by decide +kernel
theorem dBreaks_findReaches_34 : decode cBreaks_findReaches 34 = .ok (.iastore, 1) := by decide +kernel
theorem dBreaks_findReaches_35 : decode cBreaks_findReaches 35 = .ok (.aload_n 0, 1) := by decide +kernel
theorem dBreaks_findReaches_36 : decode cBreaks_findReaches 36 = .ok (.getfield 28, 3) := by decide +kernel
theorem dBreaks_findReaches_39 : decode cBreaks_findReaches 39 = .ok (.iconst 1, 1) := by decide +kernel
theorem dBreaks_findReaches_40 : decode cBreaks_findReaches 40 = .ok (.isub, 1) := by decide +kernel
theorem dBreaks_findReaches_41 : decode cBreaks_findReaches 41 = .ok (.istore_n 1, 1) := by decide +kernel
theorem dBreaks_findReaches_42 : decode cBreaks_findReaches 42 = .ok (.iload_n 1, 1) := by decide +kernel
theorem dBreaks_findReaches_43 : decode cBreaks_findReaches 43 = .ok (.ifCond .lt 117, 3) := by decide +kernel
theorem dBreaks_findReaches_46 : decode cBreaks_findReaches 46 = .ok (.aload_n 0, 1) := by decide +kernel
theorem dBreaks_findReaches_47 : decode cBreaks_findReaches 47 = .ok (.getfield 24, 3) := by decide +kernel
theorem dBreaks_findReaches_50 : decode cBreaks_findReaches 50 = .ok (.aload_n 0, 1) := by decide +kernel
theorem dBreaks_findReaches_51 : decode cBreaks_findReaches 51 = .ok (.getfield 11, 3) := by decide +kernel
theorem dBreaks_findReaches_54 : decode cBreaks_findReaches 54 = .ok (.iload_n 1, 1) := by decide +kernel
theorem dBreaks_findReaches_55 : decode cBreaks_findReaches 55 = .ok (.iconst 1, 1) := by decide +kernel
theorem dBreaks_findReaches_56 : decode cBreaks_findReaches 56 = .ok (.iadd, 1) := by decide +kernel
theorem dBreaks_findReaches_57 : decode cBreaks_findReaches 57 = .ok (.iaload, 1) := by decide +kernel
theorem dBreaks_findReaches_58 : decode cBreaks_findReaches 58 = .ok (.invokevirtual 66, 3) := by decide +kernel
theorem dBreaks_findReaches_61 : decode cBreaks_findReaches 61 = .ok (.sipush (-10000), 3) := by decide +kernel
theorem dBreaks_findReaches_64 : decode cBreaks_findReaches 64 = .ok (.if_icmp .gt 7, 3) := by decide +kernel
theorem dBreaks_findReaches_67 : decode cBreaks_findReaches 67 = .ok (.iconst 1, 1) := by decide +kernel
theorem dBreaks_findReaches_68 : decode cBreaks_findReaches 68 = .ok (.goto 4, 3) := by decide +kernel
theorem dBreaks_findReaches_71 : decode cBreaks_findReaches 71 = .ok (.iconst 0, 1) := by decide +kernel
theorem dBreaks_findReaches_72 : decode cBreaks_findReaches 72 = .ok (.istore_n 2, 1) := by decide +kernel
theorem dBreaks_findReaches_73 : decode cBreaks_findReaches 73 = .ok (.aload_n 0, 1) := by decide +kernel
theorem dBreaks_findReaches_74 : decode cBreaks_findReaches 74 = .ok (.getfield 18, 3) := by decide +kernel
theorem dBreaks_findReaches_77 : decode cBreaks_findReaches 77 = .ok (.iload_n 1, 1) := by decide +kernel
theorem dBreaks_findReaches_78 : decode cBreaks_findReaches 78 = .ok (.iload_n 2, 1) := by decide +kernel
theorem dBreaks_findReaches_79 : decode cBreaks_findReaches 79 = .ok (.ifCond .eq 9, 3) := by decide +kernel
theorem dBreaks_findReaches_82 : decode cBreaks_findReaches 82 = .ok (.iload_n 1, 1) := by decide +kernel
theorem dBreaks_findReaches_83 : decode cBreaks_findReaches 83 = .ok (.iconst 1, 1) := by decide +kernel
theorem dBreaks_findReaches_84 : decode cBreaks_findReaches 84 = .ok (.iadd, 1) := by decide +kernel
theorem dBreaks_findReaches_85 : decode cBreaks_findReaches 85 = .ok (.goto 11, 3) := by decide +kernel
theorem dBreaks_findReaches_88 : decode cBreaks_findReaches 88 = .ok (.aload_n 0, 1) := by decide +kernel
theorem dBreaks_findReaches_89 : decode cBreaks_findReaches 89 = .ok (.getfield 18, 3) := by decide +kernel
theorem dBreaks_findReaches_92 : decode cBreaks_findReaches 92 = .ok (.iload_n 1, 1) := by decide +kernel
theorem dBreaks_findReaches_93 : decode cBreaks_findReaches 93 = .ok (.iconst 1, 1) := by decide +kernel
theorem dBreaks_findReaches_94 : decode cBreaks_findReaches 94 = .ok (.iadd, 1) := by decide +kernel
theorem dBreaks_findReaches_95 : decode cBreaks_findReaches 95 = .ok (.iaload, 1) := by decide +kernel
theorem dBreaks_findReaches_96 : decode cBreaks_findReaches 96 = .ok (.iastore, 1) := by decide +kernel
theorem dBreaks_findReaches_97 : decode cBreaks_findReaches 97 = .ok (.aload_n 0, 1) := by decide +kernel
theorem dBreaks_findReaches_98 : decode cBreaks_findReaches 98 = .ok (.getfield 21, 3) := by decide +kernel
theorem dBreaks_findReaches_101 : decode cBreaks_findReaches 101 = .ok (.iload_n 1, 1) := by decide +kernel
theorem dBreaks_findReaches_102 : decode cBreaks_findReaches 102 = .ok (.aload_n 0, 1) := by decide +kernel
theorem dBreaks_findReaches_103 : decode cBreaks_findReaches 103 = .ok (.getfield 21, 3) := by decide +kernel
theorem dBreaks_findReaches_106 : decode cBreaks_findReaches 106 = .ok (.iload_n 1, 1) := by decide +kernel
theorem dBreaks_findReaches_107 : decode cBreaks_findReaches 107 = .ok (.iconst 1, 1) := by decide +kernel
theorem dBreaks_findReaches_108 : decode cBreaks_findReaches 108 = .ok (.iadd, 1) := by decide +kernel
theorem dBreaks_findReaches_109 : decode cBreaks_findReaches 109 = .ok (.iaload, 1) := by decide +kernel
theorem dBreaks_findReaches_110 : decode cBreaks_findReaches 110 = .ok (.iastore, 1) := by decide +kernel
theorem dBreaks_findReaches_111 : decode cBreaks_findReaches 111 = .ok (.iload_n 1, 1) := by decide +kernel
theorem dBreaks_findReaches_112 : decode cBreaks_findReaches 112 = .ok (.ifCond .le 42, 3) := by decide +kernel
theorem dBreaks_findReaches_115 : decode cBreaks_findReaches 115 = .ok (.aload_n 0, 1) := by decide +kernel
theorem dBreaks_findReaches_116 : decode cBreaks_findReaches 116 = .ok (.getfield 21, 3) := by decide +kernel
theorem dBreaks_findReaches_119 : decode cBreaks_findReaches 119 = .ok (.iload_n 1, 1) := by decide +kernel
theorem dBreaks_findReaches_120 : decode cBreaks_findReaches 120 = .ok (.aload_n 0, 1) := by decide +kernel
theorem dBreaks_findReaches_121 : decode cBreaks_findReaches 121 = .ok (.getfield 21, 3) := by decide +kernel
theorem dBreaks_findReaches_124 : decode cBreaks_findReaches 124 = .ok (.iload_n 1, 1) := by decide +kernel
theorem dBreaks_findReaches_125 : decode cBreaks_findReaches 125 = .ok (.iaload, 1) := by decide +kernel
theorem dBreaks_findReaches_126 : decode cBreaks_findReaches 126 = .ok (.aload_n 0, 1) := by decide +kernel
theorem dBreaks_findReaches_127 : decode cBreaks_findReaches 127 = .ok (.aload_n 0, 1) := by decide +kernel
theorem dBreaks_findReaches_128 : decode cBreaks_findReaches 128 = .ok (.getfield 11, 3) := by decide +kernel
theorem dBreaks_findReaches_131 : decode cBreaks_findReaches 131 = .ok (.iload_n 1, 1) := by decide +kernel
theorem dBreaks_findReaches_132 : decode cBreaks_findReaches 132 = .ok (.iaload, 1) := by decide +kernel
theorem dBreaks_findReaches_133 : decode cBreaks_findReaches 133 = .ok (.invokevirtual 53, 3) := by decide +kernel
theorem dBreaks_findReaches_136 : decode cBreaks_findReaches 136 = .ok (.aload_n 0, 1) := by decide +kernel
theorem dBreaks_findReaches_137 : decode cBreaks_findReaches 137 = .ok (.getfield 24, 3) := by decide +kernel
theorem dBreaks_findReaches_140 : decode cBreaks_findReaches 140 = .ok (.aload_n 0, 1) := by decide +kernel
theorem dBreaks_findReaches_141 : decode cBreaks_findReaches 141 = .ok (.getfield 11, 3) := by decide +kernel
theorem dBreaks_findReaches_144 : decode cBreaks_findReaches 144 = .ok (.iload_n 1, 1) := by decide +kernel
theorem dBreaks_findReaches_145 : decode cBreaks_findReaches 145 = .ok (.iaload, 1) := by decide +kernel
theorem dBreaks_findReaches_146 : decode cBreaks_findReaches 146 = .ok (.invokevirtual 69, 3) := by decide +kernel
theorem dBreaks_findReaches_149 : decode cBreaks_findReaches 149 = .ok (.iadd, 1) := by decide +kernel
theorem dBreaks_findReaches_150 : decode cBreaks_findReaches 150 = .ok (.invokestatic 47, 3) := by decide +kernel
theorem dBreaks_findReaches_153 : decode cBreaks_findReaches 153 = .ok (.iastore, 1) := by decide +kernel
theorem dBreaks_findReaches_154 : decode cBreaks_findReaches 154 = .ok (.iinc 1 (-1), 3) := by decide +kernel
theorem dBreaks_findReaches_157 : decode cBreaks_findReaches 157 = .ok (.goto (-115), 3) := by decide +kernel
theorem dBreaks_findReaches_160 : decode cBreaks_findReaches 160 = .ok (.return_, 1) := by decide +kernel
abbrev cRuler_init : ByteArray := prog_5_method_1_code
abbrev yRuler_init : MethodName := ⟨"OptimalLines$Ruler", "<init>", "(LOptimalLines$Items;)V"⟩
abbrev wsRuler_init : List Cond := Cond.code yRuler_init cRuler_init 2 none :: om_W
abbrev cRuler_measure : ByteArray := prog_5_method_2_code
abbrev yRuler_measure : MethodName := ⟨"OptimalLines$Ruler", "measure", "(III)V"⟩
abbrev wsRuler_measure : List Cond := Cond.code yRuler_measure cRuler_measure 4 none :: om_W
abbrev cRuler_isTooLong : ByteArray := prog_5_method_3_code
abbrev yRuler_isTooLong : MethodName := ⟨"OptimalLines$Ruler", "isTooLong", "()Z"⟩
abbrev wsRuler_isTooLong : List Cond := Cond.code yRuler_isTooLong cRuler_isTooLong 1 (some .boolean) :: om_W
abbrev cRuler_badness : ByteArray := prog_5_method_4_code
abbrev yRuler_badness : MethodName := ⟨"OptimalLines$Ruler", "badness", "(I)I"⟩
abbrev wsRuler_badness : List Cond := Cond.code yRuler_badness cRuler_badness 2 (some .int) :: om_W
abbrev cRuler_fitness : ByteArray := prog_5_method_5_code
abbrev yRuler_fitness : MethodName := ⟨"OptimalLines$Ruler", "fitness", "(I)I"⟩
abbrev wsRuler_fitness : List Cond := Cond.code yRuler_fitness cRuler_fitness 2 (some .int) :: om_W
abbrev cRuler_placeOf : ByteArray := prog_5_method_6_code
abbrev yRuler_placeOf : MethodName := ⟨"OptimalLines$Ruler", "placeOf", "(I)I"⟩
abbrev wsRuler_placeOf : List Cond := Cond.code yRuler_placeOf cRuler_placeOf 2 (some .int) :: om_W
abbrev cRuler_partBefore : ByteArray := prog_5_method_7_code
abbrev yRuler_partBefore : MethodName := ⟨"OptimalLines$Ruler", "partBefore", "(I)I"⟩
abbrev wsRuler_partBefore : List Cond := Cond.code yRuler_partBefore cRuler_partBefore 2 (some .int) :: om_W
abbrev cRuler_share : ByteArray := prog_5_method_8_code
abbrev yRuler_share : MethodName := ⟨"OptimalLines$Ruler", "share", "(III)I"⟩
abbrev wsRuler_share : List Cond := Cond.code yRuler_share cRuler_share 3 (some .int) :: om_W
abbrev cRuler_badnessOf : ByteArray := prog_5_method_9_code
abbrev yRuler_badnessOf : MethodName := ⟨"OptimalLines$Ruler", "badnessOf", "(II)I"⟩
abbrev wsRuler_badnessOf : List Cond := Cond.code yRuler_badnessOf cRuler_badnessOf 4 (some .int) :: om_W
theorem dRuler_init_0 : decode cRuler_init 0 = .ok (.aload_n 0, 1) := by decide +kernel
theorem dRuler_init_1 : decode cRuler_init 1 = .ok (.invokespecial 3, 3) := by decide +kernel
theorem dRuler_init_4 : decode cRuler_init 4 = .ok (.aload_n 0, 1) := by decide +kernel
theorem dRuler_init_5 : decode cRuler_init 5 = .ok (.aload_n 1, 1) := by decide +kernel
theorem dRuler_init_6 : decode cRuler_init 6 = .ok (.putfield 9, 3) := by decide +kernel
theorem dRuler_init_9 : decode cRuler_init 9 = .ok (.return_, 1) := by decide +kernel
theorem dRuler_measure_0 : decode cRuler_measure 0 = .ok (.aload_n 0, 1) := by decide +kernel
theorem dRuler_measure_1 : decode cRuler_measure 1 = .ok (.iload_n 1, 1) := by decide +kernel
theorem dRuler_measure_2 : decode cRuler_measure 2 = .ok (.putfield 15, 3) := by decide +kernel
theorem dRuler_measure_5 : decode cRuler_measure 5 = .ok (.aload_n 0, 1) := by decide +kernel
theorem dRuler_measure_6 : decode cRuler_measure 6 = .ok (.iload_n 3, 1) := by decide +kernel
theorem dRuler_measure_7 : decode cRuler_measure 7 = .ok (.aload_n 0, 1) := by decide +kernel
theorem dRuler_measure_8 : decode cRuler_measure 8 = .ok (.getfield 9, 3) := by decide +kernel
theorem dRuler_measure_11 : decode cRuler_measure 11 = .ok (.getfield 19, 3) := by decide +kernel
theorem dRuler_measure_14 : decode cRuler_measure 14 = .ok (.iload_n 2, 1) := by decide +kernel
theorem dRuler_measure_15 : decode cRuler_measure 15 = .ok (.iaload, 1) := by decide +kernel
theorem dRuler_measure_16 : decode cRuler_measure 16 = .ok (.aload_n 0, 1) := by decide +kernel
theorem dRuler_measure_17 : decode cRuler_measure 17 = .ok (.getfield 9, 3) := by decide +kernel
theorem dRuler_measure_20 : decode cRuler_measure 20 = .ok (.getfield 19, 3) := by decide +kernel
theorem dRuler_measure_23 : decode cRuler_measure 23 = .ok (.iload_n 1, 1) := by decide +kernel
theorem dRuler_measure_24 : decode cRuler_measure 24 = .ok (.iaload, 1) := by decide +kernel
theorem dRuler_measure_25 : decode cRuler_measure 25 = .ok (.isub, 1) := by decide +kernel
theorem dRuler_measure_26 : decode cRuler_measure 26 = .ok (.isub, 1) := by decide +kernel
theorem dRuler_measure_27 : decode cRuler_measure 27 = .ok (.aload_n 0, 1) := by decide +kernel
theorem dRuler_measure_28 : decode cRuler_measure 28 = .ok (.getfield 9, 3) := by decide +kernel
theorem dRuler_measure_31 : decode cRuler_measure 31 = .ok (.iload_n 2, 1) := by decide +kernel
theorem dRuler_measure_32 : decode cRuler_measure 32 = .ok (.invokevirtual 25, 3) := by decide +kernel
theorem dRuler_measure_35 : decode cRuler_measure 35 = .ok (.isub, 1) := by decide +kernel
theorem dRuler_measure_36 : decode cRuler_measure 36 = .ok (.putfield 29, 3) := by decide +kernel
theorem dRuler_measure_39 : decode cRuler_measure 39 = .ok (.aload_n 0, 1) := by decide +kernel
theorem dRuler_measure_40 : decode cRuler_measure 40 = .ok (.aload_n 0, 1) := by decide +kernel
theorem dRuler_measure_41 : decode cRuler_measure 41 = .ok (.getfield 9, 3) := by decide +kernel
theorem dRuler_measure_44 : decode cRuler_measure 44 = .ok (.getfield 32, 3) := by decide +kernel
theorem dRuler_measure_47 : decode cRuler_measure 47 = .ok (.iload_n 2, 1) := by decide +kernel
theorem dRuler_measure_48 : decode cRuler_measure 48 = .ok (.iaload, 1) := by decide +kernel
theorem dRuler_measure_49 : decode cRuler_measure 49 = .ok (.aload_n 0, 1) := by decide +kernel
theorem dRuler_measure_50 : decode cRuler_measure 50 = .ok (.getfield 9, 3) := by decide +kernel
theorem dRuler_measure_53 : decode cRuler_measure 53 = .ok (.getfield 32, 3) := by decide +kernel
theorem dRuler_measure_56 : decode cRuler_measure 56 = .ok (.iload_n 1, 1) := by decide +kernel
theorem dRuler_measure_57 : decode cRuler_measure 57 = .ok (.iaload, 1) := by decide +kernel
theorem dRuler_measure_58 : decode cRuler_measure 58 = .ok (.isub, 1) := by decide +kernel
theorem dRuler_measure_59 : decode cRuler_measure 59 = .ok (.putfield 35, 3) := by decide +kernel
theorem dRuler_measure_62 : decode cRuler_measure 62 = .ok (.aload_n 0, 1) := by decide +kernel
theorem dRuler_measure_63 : decode cRuler_measure 63 = .ok (.aload_n 0, 1) := by decide +kernel
theorem dRuler_measure_64 : decode cRuler_measure 64 = .ok (.getfield 9, 3) := by decide +kernel
theorem dRuler_measure_67 : decode cRuler_measure 67 = .ok (.getfield 38, 3) := by decide +kernel
theorem dRuler_measure_70 : decode cRuler_measure 70 = .ok (.iload_n 2, 1) := by decide +kernel
theorem dRuler_measure_71 : decode cRuler_measure 71 = .ok (.iaload, 1) := by decide +kernel
theorem dRuler_measure_72 : decode cRuler_measure 72 = .ok (.aload_n 0, 1) := by decide +kernel
theorem dRuler_measure_73 : decode cRuler_measure 73 = .ok (.getfield 9, 3) := by decide +kernel
theorem dRuler_measure_76 : decode cRuler_measure 76 = .ok (.getfield 38, 3) := by decide +kernel
theorem dRuler_measure_79 : decode cRuler_measure 79 = .ok (.iload_n 1, 1) := by decide +kernel
theorem dRuler_measure_80 : decode cRuler_measure 80 = .ok (.iaload, 1) := by decide +kernel
theorem dRuler_measure_81 : decode cRuler_measure 81 = .ok (.isub, 1) := by decide +kernel
theorem dRuler_measure_82 : decode cRuler_measure 82 = .ok (.putfield 41, 3) := by decide +kernel
theorem dRuler_measure_85 : decode cRuler_measure 85 = .ok (.aload_n 0, 1) := by decide +kernel
theorem dRuler_measure_86 : decode cRuler_measure 86 = .ok (.aload_n 0, 1) := by decide +kernel
theorem dRuler_measure_87 : decode cRuler_measure 87 = .ok (.getfield 9, 3) := by decide +kernel
theorem dRuler_measure_90 : decode cRuler_measure 90 = .ok (.getfield 44, 3) := by decide +kernel
theorem dRuler_measure_93 : decode cRuler_measure 93 = .ok (.iload_n 2, 1) := by decide +kernel
theorem dRuler_measure_94 : decode cRuler_measure 94 = .ok (.iaload, 1) := by decide +kernel
theorem dRuler_measure_95 : decode cRuler_measure 95 = .ok (.aload_n 0, 1) := by decide +kernel
theorem dRuler_measure_96 : decode cRuler_measure 96 = .ok (.getfield 9, 3) := by decide +kernel
theorem dRuler_measure_99 : decode cRuler_measure 99 = .ok (.getfield 44, 3) := by decide +kernel
theorem dRuler_measure_102 : decode cRuler_measure 102 = .ok (.iload_n 1, 1) := by decide +kernel
theorem dRuler_measure_103 : decode cRuler_measure 103 = .ok (.iaload, 1) := by decide +kernel
theorem dRuler_measure_104 : decode cRuler_measure 104 = .ok (.isub, 1) := by decide +kernel
theorem dRuler_measure_105 : decode cRuler_measure 105 = .ok (.putfield 47, 3) := by decide +kernel
theorem dRuler_measure_108 : decode cRuler_measure 108 = .ok (.return_, 1) := by decide +kernel
theorem dRuler_isTooLong_0 : decode cRuler_isTooLong 0 = .ok (.aload_n 0, 1) := by decide +kernel
theorem dRuler_isTooLong_1 : decode cRuler_isTooLong 1 = .ok (.getfield 29, 3) := by decide +kernel
theorem dRuler_isTooLong_4 : decode cRuler_isTooLong 4 = .ok (.ineg, 1) := by decide +kernel
theorem dRuler_isTooLong_5 : decode cRuler_isTooLong 5 = .ok (.aload_n 0, 1) := by decide +kernel
theorem dRuler_isTooLong_6 : decode cRuler_isTooLong 6 = .ok (.getfield 41, 3) := by decide +kernel
theorem dRuler_isTooLong_9 : decode cRuler_isTooLong 9 = .ok (.if_icmp .le 7, 3) := by decide +kernel
theorem dRuler_isTooLong_12 : decode cRuler_isTooLong 12 = .ok (.iconst 1, 1) := by decide +kernel
theorem dRuler_isTooLong_13 : decode cRuler_isTooLong 13 = .ok (.goto 4, 3) := by decide +kernel
theorem dRuler_isTooLong_16 : decode cRuler_isTooLong 16 = .ok (.iconst 0, 1) := by decide +kernel
theorem dRuler_isTooLong_17 : decode cRuler_isTooLong 17 = .ok (.ireturn, 1) := by decide +kernel
theorem dRuler_badness_0 : decode cRuler_badness 0 = .ok (.aload_n 0, 1) := by decide +kernel
theorem dRuler_badness_1 : decode cRuler_badness 1 = .ok (.getfield 29, 3) := by decide +kernel
theorem dRuler_badness_4 : decode cRuler_badness 4 = .ok (.ifCond .eq 17, 3) := by decide +kernel
theorem dRuler_badness_7 : decode cRuler_badness 7 = .ok (.aload_n 0, 1) := by decide +kernel
theorem dRuler_badness_8 : decode cRuler_badness 8 = .ok (.getfield 29, 3) := by decide +kernel
theorem dRuler_badness_11 : decode cRuler_badness 11 = .ok (.ifCond .le 12, 3) := by decide +kernel
theorem dRuler_badness_14 : decode cRuler_badness 14 = .ok (.aload_n 0, 1) := by decide +kernel
theorem dRuler_badness_15 : decode cRuler_badness 15 = .ok (.getfield 47, 3) := by decide +kernel
theorem dRuler_badness_18 : decode cRuler_badness 18 = .ok (.ifCond .le 5, 3) := by decide +kernel
theorem dRuler_badness_21 : decode cRuler_badness 21 = .ok (.iconst 0, 1) := by decide +kernel
theorem dRuler_badness_22 : decode cRuler_badness 22 = .ok (.ireturn, 1) := by decide +kernel
theorem dRuler_badness_23 : decode cRuler_badness 23 = .ok (.aload_n 0, 1) := by decide +kernel
theorem dRuler_badness_24 : decode cRuler_badness 24 = .ok (.getfield 29, 3) := by decide +kernel
theorem dRuler_badness_27 : decode cRuler_badness 27 = .ok (.ifCond .le 17, 3) := by decide +kernel
theorem dRuler_badness_30 : decode cRuler_badness 30 = .ok (.aload_n 0, 1) := by decide +kernel
theorem dRuler_badness_31 : decode cRuler_badness 31 = .ok (.getfield 29, 3) := by decide +kernel
theorem dRuler_badness_34 : decode cRuler_badness 34 = .ok (.aload_n 0, 1) := by decide +kernel
theorem dRuler_badness_35 : decode cRuler_badness 35 = .ok (.getfield 35, 3) := by decide +kernel
theorem dRuler_badness_38 : decode cRuler_badness 38 = .ok (.iload_n 1, 1) := by decide +kernel
theorem dRuler_badness_39 : decode cRuler_badness 39 = .ok (.iadd, 1) := by decide +kernel
theorem dRuler_badness_40 : decode cRuler_badness 40 = .ok (.invokestatic 50, 3) := by decide +kernel
theorem dRuler_badness_43 : decode cRuler_badness 43 = .ok (.ireturn, 1) := by decide +kernel
theorem dRuler_badness_44 : decode cRuler_badness 44 = .ok (.aload_n 0, 1) := by decide +kernel
theorem dRuler_badness_45 : decode cRuler_badness 45 = .ok (.invokevirtual 54, 3) := by decide +kernel
theorem dRuler_badness_48 : decode cRuler_badness 48 = .ok (.ifCond .eq 9, 3) := by decide +kernel
theorem dRuler_badness_51 : decode cRuler_badness 51 = .ok (.sipush 10000, 3) := by decide +kernel
theorem dRuler_badness_54 : decode cRuler_badness 54 = .ok (.goto 15, 3) := by decide +kernel
theorem dRuler_badness_57 : decode cRuler_badness 57 = .ok (.aload_n 0, 1) := by decide +kernel
theorem dRuler_badness_58 : decode cRuler_badness 58 = .ok (.getfield 29, 3) := by decide +kernel
theorem dRuler_badness_61 : decode cRuler_badness 61 = .ok (.ineg, 1) := by decide +kernel
theorem dRuler_badness_62 : decode cRuler_badness 62 = .ok (.aload_n 0, 1) := by decide +kernel
theorem dRuler_badness_63 : decode cRuler_badness 63 = .ok (.getfield 41, 3) := by decide +kernel
theorem dRuler_badness_66 : decode cRuler_badness 66 = .ok (.invokestatic 50, 3) := by decide +kernel
theorem dRuler_badness_69 : decode cRuler_badness 69 = .ok (.ireturn, 1) := by decide +kernel
theorem dRuler_fitness_0 : decode cRuler_fitness 0 = .ok (.aload_n 0, 1) := by decide +kernel
theorem dRuler_fitness_1 : decode cRuler_fitness 1 = .ok (.getfield 29, 3) := by decide +kernel
theorem dRuler_fitness_4 : decode cRuler_fitness 4 = .ok (.ifCond .ge 15, 3) := by decide +kernel
theorem dRuler_fitness_7 : decode cRuler_fitness 7 = .ok (.iload_n 1, 1) := by decide +kernel
theorem dRuler_fitness_8 : decode cRuler_fitness 8 = .ok (.bipush 12, 2) := by decide +kernel
theorem dRuler_fitness_10 : decode cRuler_fitness 10 = .ok (.if_icmp .le 7, 3) := by decide +kernel
theorem dRuler_fitness_13 : decode cRuler_fitness 13 = .ok (.iconst 3, 1) := by decide +kernel
theorem dRuler_fitness_14 : decode cRuler_fitness 14 = .ok (.goto 4, 3) := by decide +kernel
theorem dRuler_fitness_17 : decode cRuler_fitness 17 = .ok (.iconst 2, 1) := by decide +kernel
theorem dRuler_fitness_18 : decode cRuler_fitness 18 = .ok (.ireturn, 1) := by decide +kernel
theorem dRuler_fitness_19 : decode cRuler_fitness 19 = .ok (.iload_n 1, 1) := by decide +kernel
theorem dRuler_fitness_20 : decode cRuler_fitness 20 = .ok (.bipush 12, 2) := by decide +kernel
theorem dRuler_fitness_22 : decode cRuler_fitness 22 = .ok (.if_icmp .gt 5, 3) := by decide +kernel
theorem dRuler_fitness_25 : decode cRuler_fitness 25 = .ok (.iconst 2, 1) := by decide +kernel
theorem dRuler_fitness_26 : decode cRuler_fitness 26 = .ok (.ireturn, 1) := by decide +kernel
theorem dRuler_fitness_27 : decode cRuler_fitness 27 = .ok (.iload_n 1, 1) := by decide +kernel
theorem dRuler_fitness_28 : decode cRuler_fitness 28 = .ok (.bipush 99, 2) := by decide +kernel
theorem dRuler_fitness_30 : decode cRuler_fitness 30 = .ok (.if_icmp .gt 7, 3) := by decide +kernel
theorem dRuler_fitness_33 : decode cRuler_fitness 33 = .ok (.iconst 1, 1) := by decide +kernel
theorem dRuler_fitness_34 : decode cRuler_fitness 34 = .ok (.goto 4, 3) := by decide +kernel
theorem dRuler_fitness_37 : decode cRuler_fitness 37 = .ok (.iconst 0, 1) := by decide +kernel
theorem dRuler_fitness_38 : decode cRuler_fitness 38 = .ok (.ireturn, 1) := by decide +kernel
theorem dRuler_placeOf_0 : decode cRuler_placeOf 0 = .ok (.aload_n 0, 1) := by decide +kernel
theorem dRuler_placeOf_1 : decode cRuler_placeOf 1 = .ok (.getfield 9, 3) := by decide +kernel
theorem dRuler_placeOf_4 : decode cRuler_placeOf 4 = .ok (.getfield 19, 3) := by decide +kernel
theorem dRuler_placeOf_7 : decode cRuler_placeOf 7 = .ok (.iload_n 1, 1) := by decide +kernel
theorem dRuler_placeOf_8 : decode cRuler_placeOf 8 = .ok (.iaload, 1) := by decide +kernel
theorem dRuler_placeOf_9 : decode cRuler_placeOf 9 = .ok (.aload_n 0, 1) := by decide +kernel
theorem dRuler_placeOf_10 : decode cRuler_placeOf 10 = .ok (.getfield 9, 3) := by decide +kernel
theorem dRuler_placeOf_13 : decode cRuler_placeOf 13 = .ok (.getfield 19, 3) := by decide +kernel
theorem dRuler_placeOf_16 : decode cRuler_placeOf 16 = .ok (.aload_n 0, 1) := by decide +kernel
theorem dRuler_placeOf_17 : decode cRuler_placeOf 17 = .ok (.getfield 15, 3) := by decide +kernel
theorem dRuler_placeOf_20 : decode cRuler_placeOf 20 = .ok (.iaload, 1) := by decide +kernel
theorem dRuler_placeOf_21 : decode cRuler_placeOf 21 = .ok (.isub, 1) := by decide +kernel
theorem dRuler_placeOf_22 : decode cRuler_placeOf 22 = .ok (.aload_n 0, 1) := by decide +kernel
theorem dRuler_placeOf_23 : decode cRuler_placeOf 23 = .ok (.iload_n 1, 1) := by decide +kernel
theorem dRuler_placeOf_24 : decode cRuler_placeOf 24 = .ok (.invokevirtual 58, 3) := by decide +kernel
theorem dRuler_placeOf_27 : decode cRuler_placeOf 27 = .ok (.iadd, 1) := by decide +kernel
theorem dRuler_placeOf_28 : decode cRuler_placeOf 28 = .ok (.ireturn, 1) := by decide +kernel
theorem dRuler_partBefore_0 : decode cRuler_partBefore 0 = .ok (.aload_n 0, 1) := by decide +kernel
theorem dRuler_partBefore_1 : decode cRuler_partBefore 1 = .ok (.getfield 29, 3) := by decide +kernel
theorem dRuler_partBefore_4 : decode cRuler_partBefore 4 = .ok (.ifCond .le 44, 3) := by decide +kernel
theorem dRuler_partBefore_7 : decode cRuler_partBefore 7 = .ok (.aload_n 0, 1) := by decide +kernel
theorem dRuler_partBefore_8 : decode cRuler_partBefore 8 = .ok (.getfield 47, 3) := by decide +kernel
theorem dRuler_partBefore_11 : decode cRuler_partBefore 11 = .ok (.ifCond .le 37, 3) := by decide +kernel
theorem dRuler_partBefore_14 : decode cRuler_partBefore 14 = .ok (.aload_n 0, 1) := by decide +kernel
theorem dRuler_partBefore_15 : decode cRuler_partBefore 15 = .ok (.getfield 29, 3) := by decide +kernel
theorem dRuler_partBefore_18 : decode cRuler_partBefore 18 = .ok (.aload_n 0, 1) := by decide +kernel
theorem dRuler_partBefore_19 : decode cRuler_partBefore 19 = .ok (.getfield 9, 3) := by decide +kernel
theorem dRuler_partBefore_22 : decode cRuler_partBefore 22 = .ok (.getfield 44, 3) := by decide +kernel
theorem dRuler_partBefore_25 : decode cRuler_partBefore 25 = .ok (.iload_n 1, 1) := by decide +kernel
theorem dRuler_partBefore_26 : decode cRuler_partBefore 26 = .ok (.iaload, 1) := by decide +kernel
theorem dRuler_partBefore_27 : decode cRuler_partBefore 27 = .ok (.aload_n 0, 1) := by decide +kernel
theorem dRuler_partBefore_28 : decode cRuler_partBefore 28 = .ok (.getfield 9, 3) := by decide +kernel
theorem dRuler_partBefore_31 : decode cRuler_partBefore 31 = .ok (.getfield 44, 3) := by decide +kernel
theorem dRuler_partBefore_34 : decode cRuler_partBefore 34 = .ok (.aload_n 0, 1) := by decide +kernel
theorem dRuler_partBefore_35 : decode cRuler_partBefore 35 = .ok (.getfield 15, 3) := by decide +kernel
theorem dRuler_partBefore_38 : decode cRuler_partBefore 38 = .ok (.iaload, 1) := by decide +kernel
theorem dRuler_partBefore_39 : decode cRuler_partBefore 39 = .ok (.isub, 1) := by decide +kernel
theorem dRuler_partBefore_40 : decode cRuler_partBefore 40 = .ok (.aload_n 0, 1) := by decide +kernel
theorem dRuler_partBefore_41 : decode cRuler_partBefore 41 = .ok (.getfield 47, 3) := by decide +kernel
theorem dRuler_partBefore_44 : decode cRuler_partBefore 44 = .ok (.invokestatic 61, 3) := by decide +kernel
theorem dRuler_partBefore_47 : decode cRuler_partBefore 47 = .ok (.ireturn, 1) := by decide +kernel
theorem dRuler_partBefore_48 : decode cRuler_partBefore 48 = .ok (.aload_n 0, 1) := by decide +kernel
theorem dRuler_partBefore_49 : decode cRuler_partBefore 49 = .ok (.getfield 29, 3) := by decide +kernel
theorem dRuler_partBefore_52 : decode cRuler_partBefore 52 = .ok (.ifCond .le 37, 3) := by decide +kernel
theorem dRuler_partBefore_55 : decode cRuler_partBefore 55 = .ok (.aload_n 0, 1) := by decide +kernel
theorem dRuler_partBefore_56 : decode cRuler_partBefore 56 = .ok (.getfield 29, 3) := by decide +kernel
theorem dRuler_partBefore_59 : decode cRuler_partBefore 59 = .ok (.aload_n 0, 1) := by decide +kernel
theorem dRuler_partBefore_60 : decode cRuler_partBefore 60 = .ok (.getfield 9, 3) := by decide +kernel
theorem dRuler_partBefore_63 : decode cRuler_partBefore 63 = .ok (.getfield 32, 3) := by decide +kernel
theorem dRuler_partBefore_66 : decode cRuler_partBefore 66 = .ok (.iload_n 1, 1) := by decide +kernel
theorem dRuler_partBefore_67 : decode cRuler_partBefore 67 = .ok (.iaload, 1) := by decide +kernel
theorem dRuler_partBefore_68 : decode cRuler_partBefore 68 = .ok (.aload_n 0, 1) := by decide +kernel
theorem dRuler_partBefore_69 : decode cRuler_partBefore 69 = .ok (.getfield 9, 3) := by decide +kernel
theorem dRuler_partBefore_72 : decode cRuler_partBefore 72 = .ok (.getfield 32, 3) := by decide +kernel
theorem dRuler_partBefore_75 : decode cRuler_partBefore 75 = .ok (.aload_n 0, 1) := by decide +kernel
theorem dRuler_partBefore_76 : decode cRuler_partBefore 76 = .ok (.getfield 15, 3) := by decide +kernel
theorem dRuler_partBefore_79 : decode cRuler_partBefore 79 = .ok (.iaload, 1) := by decide +kernel
theorem dRuler_partBefore_80 : decode cRuler_partBefore 80 = .ok (.isub, 1) := by decide +kernel
theorem dRuler_partBefore_81 : decode cRuler_partBefore 81 = .ok (.aload_n 0, 1) := by decide +kernel
theorem dRuler_partBefore_82 : decode cRuler_partBefore 82 = .ok (.getfield 35, 3) := by decide +kernel
theorem dRuler_partBefore_85 : decode cRuler_partBefore 85 = .ok (.invokestatic 61, 3) := by decide +kernel
theorem dRuler_partBefore_88 : decode cRuler_partBefore 88 = .ok (.ireturn, 1) := by decide +kernel
theorem dRuler_partBefore_89 : decode cRuler_partBefore 89 = .ok (.aload_n 0, 1) := by decide +kernel
theorem dRuler_partBefore_90 : decode cRuler_partBefore 90 = .ok (.getfield 29, 3) := by decide +kernel
theorem dRuler_partBefore_93 : decode cRuler_partBefore 93 = .ok (.ineg, 1) := by decide +kernel
theorem dRuler_partBefore_94 : decode cRuler_partBefore 94 = .ok (.aload_n 0, 1) := by decide +kernel
theorem dRuler_partBefore_95 : decode cRuler_partBefore 95 = .ok (.getfield 41, 3) := by decide +kernel
theorem dRuler_partBefore_98 : decode cRuler_partBefore 98 = .ok (.invokestatic 65, 3) := by decide +kernel
theorem dRuler_partBefore_101 : decode cRuler_partBefore 101 = .ok (.aload_n 0, 1) := by decide +kernel
theorem dRuler_partBefore_102 : decode cRuler_partBefore 102 = .ok (.getfield 9, 3) := by decide +kernel
theorem dRuler_partBefore_105 : decode cRuler_partBefore 105 = .ok (.getfield 38, 3) := by decide +kernel
theorem dRuler_partBefore_108 : decode cRuler_partBefore 108 = .ok (.iload_n 1, 1) := by decide +kernel
theorem dRuler_partBefore_109 : decode cRuler_partBefore 109 = .ok (.iaload, 1) := by decide +kernel
theorem dRuler_partBefore_110 : decode cRuler_partBefore 110 = .ok (.aload_n 0, 1) := by decide +kernel
theorem dRuler_partBefore_111 : decode cRuler_partBefore 111 = .ok (.getfield 9, 3) := by decide +kernel
theorem dRuler_partBefore_114 : decode cRuler_partBefore 114 = .ok (.getfield 38, 3) := by decide +kernel
theorem dRuler_partBefore_117 : decode cRuler_partBefore 117 = .ok (.aload_n 0, 1) := by decide +kernel
theorem dRuler_partBefore_118 : decode cRuler_partBefore 118 = .ok (.getfield 15, 3) := by decide +kernel
theorem dRuler_partBefore_121 : decode cRuler_partBefore 121 = .ok (.iaload, 1) := by decide +kernel
theorem dRuler_partBefore_122 : decode cRuler_partBefore 122 = .ok (.isub, 1) := by decide +kernel
theorem dRuler_partBefore_123 : decode cRuler_partBefore 123 = .ok (.aload_n 0, 1) := by decide +kernel
theorem dRuler_partBefore_124 : decode cRuler_partBefore 124 = .ok (.getfield 41, 3) := by decide +kernel
theorem dRuler_partBefore_127 : decode cRuler_partBefore 127 = .ok (.invokestatic 61, 3) := by decide +kernel
theorem dRuler_partBefore_130 : decode cRuler_partBefore 130 = .ok (.ineg, 1) := by decide +kernel
theorem dRuler_partBefore_131 : decode cRuler_partBefore 131 = .ok (.ireturn, 1) := by decide +kernel
theorem dRuler_share_0 : decode cRuler_share 0 = .ok (.iload_n 2, 1) := by decide +kernel
theorem dRuler_share_1 : decode cRuler_share 1 = .ok (.ifCond .gt 7, 3) := by decide +kernel
theorem dRuler_share_4 : decode cRuler_share 4 = .ok (.iconst 0, 1) := by decide +kernel
theorem dRuler_share_5 : decode cRuler_share 5 = .ok (.goto 12, 3) := by decide +kernel
theorem dRuler_share_8 : decode cRuler_share 8 = .ok (.iload_n 0, 1) := by decide +kernel
theorem dRuler_share_9 : decode cRuler_share 9 = .ok (.i2l, 1) := by decide +kernel
theorem dRuler_share_10 : decode cRuler_share 10 = .ok (.iload_n 1, 1) := by decide +kernel
theorem dRuler_share_11 : decode cRuler_share 11 = .ok (.i2l, 1) := by decide +kernel
theorem dRuler_share_12 : decode cRuler_share 12 = .ok (.lmul, 1) := by decide +kernel
theorem dRuler_share_13 : decode cRuler_share 13 = .ok (.iload_n 2, 1) := by decide +kernel
theorem dRuler_share_14 : decode cRuler_share 14 = .ok (.i2l, 1) := by decide +kernel
theorem dRuler_share_15 : decode cRuler_share 15 = .ok (.ldiv, 1) := by decide +kernel
theorem dRuler_share_16 : decode cRuler_share 16 = .ok (.l2i, 1) := by decide +kernel
theorem dRuler_share_17 : decode cRuler_share 17 = .ok (.ireturn, 1) := by decide +kernel
theorem dRuler_badnessOf_0 : decode cRuler_badnessOf 0 = .ok (.iload_n 1, 1) := by decide +kernel
theorem dRuler_badnessOf_1 : decode cRuler_badnessOf 1 = .ok (.ifCond .gt 7, 3) := by decide +kernel
theorem dRuler_badnessOf_4 : decode cRuler_badnessOf 4 = .ok (.sipush 10000, 3) := by decide +kernel
theorem dRuler_badnessOf_7 : decode cRuler_badnessOf 7 = .ok (.ireturn, 1) := by decide +kernel
theorem dRuler_badnessOf_8 : decode cRuler_badnessOf 8 = .ok (.iload_n 0, 1) := by decide +kernel
theorem dRuler_badnessOf_9 : decode cRuler_badnessOf 9 = .ok (.i2l, 1) := by decide +kernel
theorem dRuler_badnessOf_10 : decode cRuler_badnessOf 10 = .ok (.ldc2_w 70, 3) := by decide +kernel
theorem dRuler_badnessOf_13 : decode cRuler_badnessOf 13 = .ok (.lmul, 1) := by decide +kernel
theorem dRuler_badnessOf_14 : decode cRuler_badnessOf 14 = .ok (.iload_n 1, 1) := by decide +kernel
theorem dRuler_badnessOf_15 : decode cRuler_badnessOf 15 = .ok (.i2l, 1) := by decide +kernel
theorem dRuler_badnessOf_16 : decode cRuler_badnessOf 16 = .ok (.ldiv, 1) := by decide +kernel
theorem dRuler_badnessOf_17 : decode cRuler_badnessOf 17 = .ok (.lstore_n 2, 1) := by decide +kernel
theorem dRuler_badnessOf_18 : decode cRuler_badnessOf 18 = .ok (.lload_n 2, 1) := by decide +kernel
theorem dRuler_badnessOf_19 : decode cRuler_badnessOf 19 = .ok (.ldc2_w 72, 3) := by decide +kernel
theorem dRuler_badnessOf_22 : decode cRuler_badnessOf 22 = .ok (.lcmp, 1) := by decide +kernel
theorem dRuler_badnessOf_23 : decode cRuler_badnessOf 23 = .ok (.ifCond .le 9, 3) := by decide +kernel
theorem dRuler_badnessOf_26 : decode cRuler_badnessOf 26 = .ok (.sipush 10000, 3) := by decide +kernel
theorem dRuler_badnessOf_29 : decode cRuler_badnessOf 29 = .ok (.goto 17, 3) := by decide +kernel
theorem dRuler_badnessOf_32 : decode cRuler_badnessOf 32 = .ok (.lload_n 2, 1) := by decide +kernel
theorem dRuler_badnessOf_33 : decode cRuler_badnessOf 33 = .ok (.lload_n 2, 1) := by decide +kernel
theorem dRuler_badnessOf_34 : decode cRuler_badnessOf 34 = .ok (.lmul, 1) := by decide +kernel
theorem dRuler_badnessOf_35 : decode cRuler_badnessOf 35 = .ok (.lload_n 2, 1) := by decide +kernel
theorem dRuler_badnessOf_36 : decode cRuler_badnessOf 36 = .ok (.lmul, 1) := by decide +kernel
theorem dRuler_badnessOf_37 : decode cRuler_badnessOf 37 = .ok (.ldc2_w 74, 3) := by decide +kernel
theorem dRuler_badnessOf_40 : decode cRuler_badnessOf 40 = .ok (.ladd, 1) := by decide +kernel
theorem dRuler_badnessOf_41 : decode cRuler_badnessOf 41 = .ok (.ldc2_w 76, 3) := by decide +kernel
theorem dRuler_badnessOf_44 : decode cRuler_badnessOf 44 = .ok (.ldiv, 1) := by decide +kernel
theorem dRuler_badnessOf_45 : decode cRuler_badnessOf 45 = .ok (.l2i, 1) := by decide +kernel
theorem dRuler_badnessOf_46 : decode cRuler_badnessOf 46 = .ok (.ireturn, 1) := by decide +kernel
