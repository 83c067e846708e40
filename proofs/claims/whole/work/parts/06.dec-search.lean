abbrev cSearch_init : ByteArray := prog_6_method_1_code
abbrev ySearch_init : MethodName := ⟨"OptimalLines$Search", "<init>", "(LOptimalLines$Breaks;LOptimalLines$Ruler;[I[I)V"⟩
abbrev wsSearch_init : List Cond := Cond.code ySearch_init cSearch_init 5 none :: om_W
abbrev cSearch_run : ByteArray := prog_6_method_2_code
abbrev ySearch_run : MethodName := ⟨"OptimalLines$Search", "run", "(II)V"⟩
abbrev wsSearch_run : List Cond := Cond.code ySearch_run cSearch_run 6 none :: om_W
abbrev cSearch_linesToTake : ByteArray := prog_6_method_3_code
abbrev ySearch_linesToTake : MethodName := ⟨"OptimalLines$Search", "linesToTake", "(I)I"⟩
abbrev wsSearch_linesToTake : List Cond := Cond.code ySearch_linesToTake cSearch_linesToTake 6 (some .int) :: om_W
abbrev cSearch_writeWay : ByteArray := prog_6_method_4_code
abbrev ySearch_writeWay : MethodName := ⟨"OptimalLines$Search", "writeWay", "(ILOptimalLines$Layout;)V"⟩
abbrev wsSearch_writeWay : List Cond := Cond.code ySearch_writeWay cSearch_writeWay 8 none :: om_W
abbrev cSearch_forget : ByteArray := prog_6_method_5_code
abbrev ySearch_forget : MethodName := ⟨"OptimalLines$Search", "forget", "([J)V"⟩
abbrev wsSearch_forget : List Cond := Cond.code ySearch_forget cSearch_forget 3 none :: om_W
abbrev cSearch_isNearer : ByteArray := prog_6_method_6_code
abbrev ySearch_isNearer : MethodName := ⟨"OptimalLines$Search", "isNearer", "(III)Z"⟩
abbrev wsSearch_isNearer : List Cond := Cond.code ySearch_isNearer cSearch_isNearer 5 (some .boolean) :: om_W
abbrev cSearch_findEntries : ByteArray := prog_6_method_7_code
abbrev ySearch_findEntries : MethodName := ⟨"OptimalLines$Search", "findEntries", "(II)Z"⟩
abbrev wsSearch_findEntries : List Cond := Cond.code ySearch_findEntries cSearch_findEntries 5 (some .boolean) :: om_W
abbrev cSearch_offerEntries : ByteArray := prog_6_method_8_code
abbrev ySearch_offerEntries : MethodName := ⟨"OptimalLines$Search", "offerEntries", "(III)V"⟩
abbrev wsSearch_offerEntries : List Cond := Cond.code ySearch_offerEntries cSearch_offerEntries 8 none :: om_W
abbrev cSearch_comesEarlier : ByteArray := prog_6_method_9_code
abbrev ySearch_comesEarlier : MethodName := ⟨"OptimalLines$Search", "comesEarlier", "(IIII)Z"⟩
abbrev wsSearch_comesEarlier : List Cond := Cond.code ySearch_comesEarlier cSearch_comesEarlier 5 (some .boolean) :: om_W
abbrev cSearch_addLinesFrom : ByteArray := prog_6_method_10_code
abbrev ySearch_addLinesFrom : MethodName := ⟨"OptimalLines$Search", "addLinesFrom", "(II)V"⟩
abbrev wsSearch_addLinesFrom : List Cond := Cond.code ySearch_addLinesFrom cSearch_addLinesFrom 7 none :: om_W
abbrev cSearch_offerLine : ByteArray := prog_6_method_11_code
abbrev ySearch_offerLine : MethodName := ⟨"OptimalLines$Search", "offerLine", "(III)V"⟩
abbrev wsSearch_offerLine : List Cond := Cond.code ySearch_offerLine cSearch_offerLine 9 none :: om_W
abbrev cSearch_demeritsAlone : ByteArray := prog_6_method_12_code
abbrev ySearch_demeritsAlone : MethodName := ⟨"OptimalLines$Search", "demeritsAlone", "(II)J"⟩
abbrev wsSearch_demeritsAlone : List Cond := Cond.code ySearch_demeritsAlone cSearch_demeritsAlone 7 (some .long) :: om_W
abbrev cSearch_demeritsOfFlags : ByteArray := prog_6_method_13_code
abbrev ySearch_demeritsOfFlags : MethodName := ⟨"OptimalLines$Search", "demeritsOfFlags", "(II)I"⟩
abbrev wsSearch_demeritsOfFlags : List Cond := Cond.code ySearch_demeritsOfFlags cSearch_demeritsOfFlags 3 (some .int) :: om_W
abbrev cSearch_noteEnd : ByteArray := prog_6_method_14_code
abbrev ySearch_noteEnd : MethodName := ⟨"OptimalLines$Search", "noteEnd", "(I)V"⟩
abbrev wsSearch_noteEnd : List Cond := Cond.code ySearch_noteEnd cSearch_noteEnd 6 none :: om_W
theorem dSearch_init_0 : decode cSearch_init 0 = .ok (.aload_n 0, 1) := by decide +kernel
theorem dSearch_init_1 : decode cSearch_init 1 = .ok (.invokespecial 5, 3) := by decide +kernel
theorem dSearch_init_4 : decode cSearch_init 4 = .ok (.aload_n 0, 1) := by decide +kernel
theorem dSearch_init_5 : decode cSearch_init 5 = .ok (.new 11, 3) := by decide +kernel
theorem dSearch_init_8 : decode cSearch_init 8 = .ok (.dup, 1) := by decide +kernel
theorem dSearch_init_9 : decode cSearch_init 9 = .ok (.invokespecial 13, 3) := by decide +kernel
theorem dSearch_init_12 : decode cSearch_init 12 = .ok (.putfield 14, 3) := by decide +kernel
theorem dSearch_init_15 : decode cSearch_init 15 = .ok (.aload_n 0, 1) := by decide +kernel
theorem dSearch_init_16 : decode cSearch_init 16 = .ok (.sipush 1608, 3) := by decide +kernel
theorem dSearch_init_19 : decode cSearch_init 19 = .ok (.newarray .long, 2) := by decide +kernel
theorem dSearch_init_21 : decode cSearch_init 21 = .ok (.putfield 22, 3) := by decide +kernel
theorem dSearch_init_24 : decode cSearch_init 24 = .ok (.aload_n 0, 1) := by decide +kernel
theorem dSearch_init_25 : decode cSearch_init 25 = .ok (.sipush 1608, 3) := by decide +kernel
theorem dSearch_init_28 : decode cSearch_init 28 = .ok (.newarray .long, 2) := by decide +kernel
theorem dSearch_init_30 : decode cSearch_init 30 = .ok (.putfield 26, 3) := by decide +kernel
theorem dSearch_init_33 : decode cSearch_init 33 = .ok (.aload_n 0, 1) := by decide +kernel
theorem dSearch_init_34 : decode cSearch_init 34 = .ok (.iconst 4, 1) := by decide +kernel
theorem dSearch_init_35 : decode cSearch_init 35 = .ok (.newarray .long, 2) := by decide +kernel
theorem dSearch_init_37 : decode cSearch_init 37 = .ok (.putfield 29, 3) := by decide +kernel
theorem dSearch_init_40 : decode cSearch_init 40 = .ok (.aload_n 0, 1) := by decide +kernel
theorem dSearch_init_41 : decode cSearch_init 41 = .ok (.iconst 4, 1) := by decide +kernel
theorem dSearch_init_42 : decode cSearch_init 42 = .ok (.newarray .int, 2) := by decide +kernel
theorem dSearch_init_44 : decode cSearch_init 44 = .ok (.putfield 32, 3) := by decide +kernel
theorem dSearch_init_47 : decode cSearch_init 47 = .ok (.aload_n 0, 1) := by decide +kernel
theorem dSearch_init_48 : decode cSearch_init 48 = .ok (.bipush 41, 2) := by decide +kernel
theorem dSearch_init_50 : decode cSearch_init 50 = .ok (.newarray .long, 2) := by decide +kernel
theorem dSearch_init_52 : decode cSearch_init 52 = .ok (.putfield 36, 3) := by decide +kernel
theorem dSearch_init_55 : decode cSearch_init 55 = .ok (.aload_n 0, 1) := by decide +kernel
theorem dSearch_init_56 : decode cSearch_init 56 = .ok (.bipush 41, 2) := by decide +kernel
theorem dSearch_init_58 : decode cSearch_init 58 = .ok (.newarray .int, 2) := by decide +kernel
theorem dSearch_init_60 : decode cSearch_init 60 = .ok (.putfield 39, 3) := by decide +kernel
theorem dSearch_init_63 : decode cSearch_init 63 = .ok (.aload_n 0, 1) := by decide +kernel
theorem dSearch_init_64 : decode cSearch_init 64 = .ok (.aload_n 1, 1) := by decide +kernel
theorem dSearch_init_65 : decode cSearch_init 65 = .ok (.putfield 42, 3) := by decide +kernel
theorem dSearch_init_68 : decode cSearch_init 68 = .ok (.aload_n 0, 1) := by decide +kernel
theorem dSearch_init_69 : decode cSearch_init 69 = .ok (.aload_n 2, 1) := by decide +kernel
theorem dSearch_init_70 : decode cSearch_init 70 = .ok (.putfield 46, 3) := by decide +kernel
theorem dSearch_init_73 : decode cSearch_init 73 = .ok (.aload_n 0, 1) := by decide +kernel
theorem dSearch_init_74 : decode cSearch_init 74 = .ok (.aload_n 3, 1) := by decide +kernel
theorem dSearch_init_75 : decode cSearch_init 75 = .ok (.putfield 50, 3) := by decide +kernel
theorem dSearch_init_78 : decode cSearch_init 78 = .ok (.aload_n 0, 1) := by decide +kernel
theorem dSearch_init_79 : decode cSearch_init 79 = .ok (.aload 4, 2) := by decide +kernel
theorem dSearch_init_81 : decode cSearch_init 81 = .ok (.putfield 53, 3) := by decide +kernel
theorem dSearch_init_84 : decode cSearch_init 84 = .ok (.return_, 1) := by decide +kernel
theorem dSearch_run_0 : decode cSearch_run 0 = .ok (.aload_n 0, 1) := by decide +kernel
theorem dSearch_run_1 : decode cSearch_run 1 = .ok (.iload_n 1, 1) := by decide +kernel
theorem dSearch_run_2 : decode cSearch_run 2 = .ok (.putfield 56, 3) := by decide +kernel
theorem dSearch_run_5 : decode cSearch_run 5 = .ok (.aload_n 0, 1) := by decide +kernel
theorem dSearch_run_6 : decode cSearch_run 6 = .ok (.iload_n 2, 1) := by decide +kernel
theorem dSearch_run_7 : decode cSearch_run 7 = .ok (.putfield 60, 3) := by decide +kernel
theorem dSearch_run_10 : decode cSearch_run 10 = .ok (.aload_n 0, 1) := by decide +kernel
theorem dSearch_run_11 : decode cSearch_run 11 = .ok (.getfield 36, 3) := by decide +kernel
theorem dSearch_run_14 : decode cSearch_run 14 = .ok (.ldc2_w 63, 3) := by decide +kernel
theorem dSearch_run_17 : decode cSearch_run 17 = .ok (.invokestatic 65, 3) := by decide +kernel
theorem dSearch_run_20 : decode cSearch_run 20 = .ok (.aload_n 0, 1) := by decide +kernel
theorem dSearch_run_21 : decode cSearch_run 21 = .ok (.aload_n 0, 1) := by decide +kernel
theorem dSearch_run_22 : decode cSearch_run 22 = .ok (.getfield 22, 3) := by decide +kernel
theorem dSearch_run_25 : decode cSearch_run 25 = .ok (.invokevirtual 71, 3) := by decide +kernel
theorem dSearch_run_28 : decode cSearch_run 28 = .ok (.aload_n 0, 1) := by decide +kernel
theorem dSearch_run_29 : decode cSearch_run 29 = .ok (.getfield 22, 3) := by decide +kernel
theorem dSearch_run_32 : decode cSearch_run 32 = .ok (.iconst 2, 1) := by decide +kernel
theorem dSearch_run_33 : decode cSearch_run 33 = .ok (.lconst 0, 1) := by decide +kernel
theorem dSearch_run_34 : decode cSearch_run 34 = .ok (.lastore, 1) := by decide +kernel
theorem dSearch_run_35 : decode cSearch_run 35 = .ok (.aload_n 0, 1) := by decide +kernel
theorem dSearch_run_36 : decode cSearch_run 36 = .ok (.getfield 56, 3) := by decide +kernel
theorem dSearch_run_39 : decode cSearch_run 39 = .ok (.ifCond .lt 7, 3) := by decide +kernel
theorem dSearch_run_42 : decode cSearch_run 42 = .ok (.iconst 1, 1) := by decide +kernel
theorem dSearch_run_43 : decode cSearch_run 43 = .ok (.goto 4, 3) := by decide +kernel
theorem dSearch_run_46 : decode cSearch_run 46 = .ok (.iconst 0, 1) := by decide +kernel
theorem dSearch_run_47 : decode cSearch_run 47 = .ok (.istore_n 3, 1) := by decide +kernel
theorem dSearch_run_48 : decode cSearch_run 48 = .ok (.iconst 0, 1) := by decide +kernel
theorem dSearch_run_49 : decode cSearch_run 49 = .ok (.istore 4, 2) := by decide +kernel
theorem dSearch_run_51 : decode cSearch_run 51 = .ok (.iload 4, 2) := by decide +kernel
theorem dSearch_run_53 : decode cSearch_run 53 = .ok (.bipush 40, 2) := by decide +kernel
theorem dSearch_run_55 : decode cSearch_run 55 = .ok (.if_icmp .ge 91, 3) := by decide +kernel
theorem dSearch_run_58 : decode cSearch_run 58 = .ok (.iload_n 3, 1) := by decide +kernel
theorem dSearch_run_59 : decode cSearch_run 59 = .ok (.ifCond .eq 87, 3) := by decide +kernel
theorem dSearch_run_62 : decode cSearch_run 62 = .ok (.aload_n 0, 1) := by decide +kernel
theorem dSearch_run_63 : decode cSearch_run 63 = .ok (.aload_n 0, 1) := by decide +kernel
theorem dSearch_run_64 : decode cSearch_run 64 = .ok (.getfield 26, 3) := by decide +kernel
theorem dSearch_run_67 : decode cSearch_run 67 = .ok (.invokevirtual 71, 3) := by decide +kernel
theorem dSearch_run_70 : decode cSearch_run 70 = .ok (.iconst 0, 1) := by decide +kernel
theorem dSearch_run_71 : decode cSearch_run 71 = .ok (.istore_n 3, 1) := by decide +kernel
theorem dSearch_run_72 : decode cSearch_run 72 = .ok (.iconst 0, 1) := by decide +kernel
theorem dSearch_run_73 : decode cSearch_run 73 = .ok (.istore 5, 2) := by decide +kernel
theorem dSearch_run_75 : decode cSearch_run 75 = .ok (.iload 5, 2) := by decide +kernel
theorem dSearch_run_77 : decode cSearch_run 77 = .ok (.aload_n 0, 1) := by decide +kernel
theorem dSearch_run_78 : decode cSearch_run 78 = .ok (.getfield 42, 3) := by decide +kernel
theorem dSearch_run_81 : decode cSearch_run 81 = .ok (.getfield 75, 3) := by decide +kernel
theorem dSearch_run_84 : decode cSearch_run 84 = .ok (.if_icmp .ge 30, 3) := by decide +kernel
theorem dSearch_run_87 : decode cSearch_run 87 = .ok (.aload_n 0, 1) := by decide +kernel
theorem dSearch_run_88 : decode cSearch_run 88 = .ok (.iload 4, 2) := by decide +kernel
theorem dSearch_run_90 : decode cSearch_run 90 = .ok (.iload 5, 2) := by decide +kernel
theorem dSearch_run_92 : decode cSearch_run 92 = .ok (.invokevirtual 78, 3) := by decide +kernel
theorem dSearch_run_95 : decode cSearch_run 95 = .ok (.ifCond .eq 13, 3) := by decide +kernel
theorem dSearch_run_98 : decode cSearch_run 98 = .ok (.iconst 1, 1) := by decide +kernel
theorem dSearch_run_99 : decode cSearch_run 99 = .ok (.istore_n 3, 1) := by decide +kernel
theorem dSearch_run_100 : decode cSearch_run 100 = .ok (.aload_n 0, 1) := by decide +kernel
theorem dSearch_run_101 : decode cSearch_run 101 = .ok (.iload 4, 2) := by decide +kernel
theorem dSearch_run_103 : decode cSearch_run 103 = .ok (.iload 5, 2) := by decide +kernel
theorem dSearch_run_105 : decode cSearch_run 105 = .ok (.invokevirtual 82, 3) := by decide +kernel
theorem dSearch_run_108 : decode cSearch_run 108 = .ok (.iinc 5 1, 3) := by decide +kernel
theorem dSearch_run_111 : decode cSearch_run 111 = .ok (.goto (-36), 3) := by decide +kernel
theorem dSearch_run_114 : decode cSearch_run 114 = .ok (.aload_n 0, 1) := by decide +kernel
theorem dSearch_run_115 : decode cSearch_run 115 = .ok (.iload 4, 2) := by decide +kernel
theorem dSearch_run_117 : decode cSearch_run 117 = .ok (.invokevirtual 86, 3) := by decide +kernel
theorem dSearch_run_120 : decode cSearch_run 120 = .ok (.aload_n 0, 1) := by decide +kernel
theorem dSearch_run_121 : decode cSearch_run 121 = .ok (.getfield 22, 3) := by decide +kernel
theorem dSearch_run_124 : decode cSearch_run 124 = .ok (.astore 5, 2) := by decide +kernel
theorem dSearch_run_126 : decode cSearch_run 126 = .ok (.aload_n 0, 1) := by decide +kernel
theorem dSearch_run_127 : decode cSearch_run 127 = .ok (.aload_n 0, 1) := by decide +kernel
theorem dSearch_run_128 : decode cSearch_run 128 = .ok (.getfield 26, 3) := by decide +kernel
theorem dSearch_run_131 : decode cSearch_run 131 = .ok (.putfield 22, 3) := by decide +kernel
theorem dSearch_run_134 : decode cSearch_run 134 = .ok (.aload_n 0, 1) := by decide +kernel
theorem dSearch_run_135 : decode cSearch_run 135 = .ok (.aload 5, 2) := by decide +kernel
theorem dSearch_run_137 : decode cSearch_run 137 = .ok (.putfield 26, 3) := by decide +kernel
theorem dSearch_run_140 : decode cSearch_run 140 = .ok (.iinc 4 1, 3) := by decide +kernel
theorem dSearch_run_143 : decode cSearch_run 143 = .ok (.goto (-92), 3) := by decide +kernel
theorem dSearch_run_146 : decode cSearch_run 146 = .ok (.return_, 1) := by decide +kernel
theorem dSearch_linesToTake_0 : decode cSearch_linesToTake 0 = .ok (.iconst 0, 1) := by decide +kernel
theorem dSearch_linesToTake_1 : decode cSearch_linesToTake 1 = .ok (.istore_n 2, 1) := by decide +kernel
theorem dSearch_linesToTake_2 : decode cSearch_linesToTake 2 = .ok (.iconst 1, 1) := by decide +kernel
theorem dSearch_linesToTake_3 : decode cSearch_linesToTake 3 = .ok (.istore_n 3, 1) := by decide +kernel
theorem dSearch_linesToTake_4 : decode cSearch_linesToTake 4 = .ok (.iload_n 3, 1) := by decide +kernel
theorem dSearch_linesToTake_5 : decode cSearch_linesToTake 5 = .ok (.bipush 40, 2) := by decide +kernel
theorem dSearch_linesToTake_7 : decode cSearch_linesToTake 7 = .ok (.if_icmp .gt 44, 3) := by decide +kernel
theorem dSearch_linesToTake_10 : decode cSearch_linesToTake 10 = .ok (.aload_n 0, 1) := by decide +kernel
theorem dSearch_linesToTake_11 : decode cSearch_linesToTake 11 = .ok (.getfield 36, 3) := by decide +kernel
theorem dSearch_linesToTake_14 : decode cSearch_linesToTake 14 = .ok (.iload_n 3, 1) := by decide +kernel
theorem dSearch_linesToTake_15 : decode cSearch_linesToTake 15 = .ok (.laload, 1) := by decide +kernel
theorem dSearch_linesToTake_16 : decode cSearch_linesToTake 16 = .ok (.ldc2_w 63, 3) := by decide +kernel
theorem dSearch_linesToTake_19 : decode cSearch_linesToTake 19 = .ok (.lcmp, 1) := by decide +kernel
theorem dSearch_linesToTake_20 : decode cSearch_linesToTake 20 = .ok (.ifCond .eq 25, 3) := by decide +kernel
theorem dSearch_linesToTake_23 : decode cSearch_linesToTake 23 = .ok (.iload_n 2, 1) := by decide +kernel
theorem dSearch_linesToTake_24 : decode cSearch_linesToTake 24 = .ok (.ifCond .eq 19, 3) := by decide +kernel
theorem dSearch_linesToTake_27 : decode cSearch_linesToTake 27 = .ok (.aload_n 0, 1) := by decide +kernel
theorem dSearch_linesToTake_28 : decode cSearch_linesToTake 28 = .ok (.getfield 36, 3) := by decide +kernel
theorem dSearch_linesToTake_31 : decode cSearch_linesToTake 31 = .ok (.iload_n 3, 1) := by decide +kernel
theorem dSearch_linesToTake_32 : decode cSearch_linesToTake 32 = .ok (.laload, 1) := by decide +kernel
theorem dSearch_linesToTake_33 : decode cSearch_linesToTake 33 = .ok (.aload_n 0, 1) := by decide +kernel
theorem dSearch_linesToTake_34 : decode cSearch_linesToTake 34 = .ok (.getfield 36, 3) := by decide +kernel
theorem dSearch_linesToTake_37 : decode cSearch_linesToTake 37 = .ok (.iload_n 2, 1) := by decide +kernel
theorem dSearch_linesToTake_38 : decode cSearch_linesToTake 38 = .ok (.laload, 1) := by decide +kernel
theorem dSearch_linesToTake_39 : decode cSearch_linesToTake 39 = .ok (.lcmp, 1) := by decide +kernel
theorem dSearch_linesToTake_40 : decode cSearch_linesToTake 40 = .ok (.ifCond .ge 5, 3) := by decide +kernel
theorem dSearch_linesToTake_43 : decode cSearch_linesToTake 43 = .ok (.iload_n 3, 1) := by decide +kernel
theorem dSearch_linesToTake_44 : decode cSearch_linesToTake 44 = .ok (.istore_n 2, 1) := by decide +kernel
theorem dSearch_linesToTake_45 : decode cSearch_linesToTake 45 = .ok (.iinc 3 1, 3) := by decide +kernel
theorem dSearch_linesToTake_48 : decode cSearch_linesToTake 48 = .ok (.goto (-44), 3) := by decide +kernel
theorem dSearch_linesToTake_51 : decode cSearch_linesToTake 51 = .ok (.iload_n 2, 1) := by decide +kernel
theorem dSearch_linesToTake_52 : decode cSearch_linesToTake 52 = .ok (.iload_n 1, 1) := by decide +kernel
theorem dSearch_linesToTake_53 : decode cSearch_linesToTake 53 = .ok (.iadd, 1) := by decide +kernel
theorem dSearch_linesToTake_54 : decode cSearch_linesToTake 54 = .ok (.istore_n 3, 1) := by decide +kernel
theorem dSearch_linesToTake_55 : decode cSearch_linesToTake 55 = .ok (.iload_n 2, 1) := by decide +kernel
theorem dSearch_linesToTake_56 : decode cSearch_linesToTake 56 = .ok (.istore 4, 2) := by decide +kernel
theorem dSearch_linesToTake_58 : decode cSearch_linesToTake 58 = .ok (.bipush 40, 2) := by decide +kernel
theorem dSearch_linesToTake_60 : decode cSearch_linesToTake 60 = .ok (.istore 5, 2) := by decide +kernel
theorem dSearch_linesToTake_62 : decode cSearch_linesToTake 62 = .ok (.iload 5, 2) := by decide +kernel
theorem dSearch_linesToTake_64 : decode cSearch_linesToTake 64 = .ok (.iconst 1, 1) := by decide +kernel
theorem dSearch_linesToTake_65 : decode cSearch_linesToTake 65 = .ok (.if_icmp .lt 42, 3) := by decide +kernel
theorem dSearch_linesToTake_68 : decode cSearch_linesToTake 68 = .ok (.iload_n 2, 1) := by decide +kernel
theorem dSearch_linesToTake_69 : decode cSearch_linesToTake 69 = .ok (.ifCond .eq 32, 3) := by decide +kernel
theorem dSearch_linesToTake_72 : decode cSearch_linesToTake 72 = .ok (.aload_n 0, 1) := by decide +kernel
theorem dSearch_linesToTake_73 : decode cSearch_linesToTake 73 = .ok (.getfield 36, 3) := by decide +kernel
theorem dSearch_linesToTake_76 : decode cSearch_linesToTake 76 = .ok (.iload 5, 2) := by decide +kernel
theorem dSearch_linesToTake_78 : decode cSearch_linesToTake 78 = .ok (.laload, 1) := by decide +kernel
theorem dSearch_linesToTake_79 : decode cSearch_linesToTake 79 = .ok (.ldc2_w 63, 3) := by decide +kernel
theorem dSearch_linesToTake_82 : decode cSearch_linesToTake 82 = .ok (.lcmp, 1) := by decide +kernel
theorem dSearch_linesToTake_83 : decode cSearch_linesToTake 83 = .ok (.ifCond .eq 18, 3) := by decide +kernel
theorem dSearch_linesToTake_86 : decode cSearch_linesToTake 86 = .ok (.iload 5, 2) := by decide +kernel
theorem dSearch_linesToTake_88 : decode cSearch_linesToTake 88 = .ok (.iload 4, 2) := by decide +kernel
theorem dSearch_linesToTake_90 : decode cSearch_linesToTake 90 = .ok (.iload_n 3, 1) := by decide +kernel
theorem dSearch_linesToTake_91 : decode cSearch_linesToTake 91 = .ok (.invokestatic 90, 3) := by decide +kernel
theorem dSearch_linesToTake_94 : decode cSearch_linesToTake 94 = .ok (.ifCond .eq 7, 3) := by decide +kernel
theorem dSearch_linesToTake_97 : decode cSearch_linesToTake 97 = .ok (.iload 5, 2) := by decide +kernel
theorem dSearch_linesToTake_99 : decode cSearch_linesToTake 99 = .ok (.istore 4, 2) := by decide +kernel
theorem dSearch_linesToTake_101 : decode cSearch_linesToTake 101 = .ok (.iinc 5 (-1), 3) := by decide +kernel
theorem dSearch_linesToTake_104 : decode cSearch_linesToTake 104 = .ok (.goto (-42), 3) := by decide +kernel
theorem dSearch_linesToTake_107 : decode cSearch_linesToTake 107 = .ok (.iload 4, 2) := by decide +kernel
theorem dSearch_linesToTake_109 : decode cSearch_linesToTake 109 = .ok (.ireturn, 1) := by decide +kernel
theorem dSearch_writeWay_0 : decode cSearch_writeWay 0 = .ok (.aload_n 2, 1) := by decide +kernel
theorem dSearch_writeWay_1 : decode cSearch_writeWay 1 = .ok (.iload_n 1, 1) := by decide +kernel
theorem dSearch_writeWay_2 : decode cSearch_writeWay 2 = .ok (.putfield 94, 3) := by decide +kernel
theorem dSearch_writeWay_5 : decode cSearch_writeWay 5 = .ok (.aload_n 2, 1) := by decide +kernel
theorem dSearch_writeWay_6 : decode cSearch_writeWay 6 = .ok (.aload_n 0, 1) := by decide +kernel
theorem dSearch_writeWay_7 : decode cSearch_writeWay 7 = .ok (.getfield 36, 3) := by decide +kernel
theorem dSearch_writeWay_10 : decode cSearch_writeWay 10 = .ok (.iload_n 1, 1) := by decide +kernel
theorem dSearch_writeWay_11 : decode cSearch_writeWay 11 = .ok (.laload, 1) := by decide +kernel
theorem dSearch_writeWay_12 : decode cSearch_writeWay 12 = .ok (.putfield 99, 3) := by decide +kernel
theorem dSearch_writeWay_15 : decode cSearch_writeWay 15 = .ok (.aload_n 0, 1) := by decide +kernel
theorem dSearch_writeWay_16 : decode cSearch_writeWay 16 = .ok (.getfield 42, 3) := by decide +kernel
theorem dSearch_writeWay_19 : decode cSearch_writeWay 19 = .ok (.getfield 75, 3) := by decide +kernel
theorem dSearch_writeWay_22 : decode cSearch_writeWay 22 = .ok (.istore_n 3, 1) := by decide +kernel
theorem dSearch_writeWay_23 : decode cSearch_writeWay 23 = .ok (.aload_n 0, 1) := by decide +kernel
theorem dSearch_writeWay_24 : decode cSearch_writeWay 24 = .ok (.getfield 39, 3) := by decide +kernel
theorem dSearch_writeWay_27 : decode cSearch_writeWay 27 = .ok (.iload_n 1, 1) := by decide +kernel
theorem dSearch_writeWay_28 : decode cSearch_writeWay 28 = .ok (.iaload, 1) := by decide +kernel
theorem dSearch_writeWay_29 : decode cSearch_writeWay 29 = .ok (.istore 4, 2) := by decide +kernel
theorem dSearch_writeWay_31 : decode cSearch_writeWay 31 = .ok (.iload_n 1, 1) := by decide +kernel
theorem dSearch_writeWay_32 : decode cSearch_writeWay 32 = .ok (.iconst 1, 1) := by decide +kernel
theorem dSearch_writeWay_33 : decode cSearch_writeWay 33 = .ok (.isub, 1) := by decide +kernel
theorem dSearch_writeWay_34 : decode cSearch_writeWay 34 = .ok (.istore 5, 2) := by decide +kernel
theorem dSearch_writeWay_36 : decode cSearch_writeWay 36 = .ok (.iload 5, 2) := by decide +kernel
theorem dSearch_writeWay_38 : decode cSearch_writeWay 38 = .ok (.ifCond .lt 71, 3) := by decide +kernel
theorem dSearch_writeWay_41 : decode cSearch_writeWay 41 = .ok (.aload_n 0, 1) := by decide +kernel
theorem dSearch_writeWay_42 : decode cSearch_writeWay 42 = .ok (.getfield 14, 3) := by decide +kernel
theorem dSearch_writeWay_45 : decode cSearch_writeWay 45 = .ok (.iload 5, 2) := by decide +kernel
theorem dSearch_writeWay_47 : decode cSearch_writeWay 47 = .ok (.iload_n 3, 1) := by decide +kernel
theorem dSearch_writeWay_48 : decode cSearch_writeWay 48 = .ok (.iload 4, 2) := by decide +kernel
theorem dSearch_writeWay_50 : decode cSearch_writeWay 50 = .ok (.invokevirtual 103, 3) := by decide +kernel
theorem dSearch_writeWay_53 : decode cSearch_writeWay 53 = .ok (.istore 6, 2) := by decide +kernel
theorem dSearch_writeWay_55 : decode cSearch_writeWay 55 = .ok (.iload 6, 2) := by decide +kernel
theorem dSearch_writeWay_57 : decode cSearch_writeWay 57 = .ok (.iconst 4, 1) := by decide +kernel
theorem dSearch_writeWay_58 : decode cSearch_writeWay 58 = .ok (.idiv, 1) := by decide +kernel
theorem dSearch_writeWay_59 : decode cSearch_writeWay 59 = .ok (.istore 7, 2) := by decide +kernel
theorem dSearch_writeWay_61 : decode cSearch_writeWay 61 = .ok (.aload_n 2, 1) := by decide +kernel
theorem dSearch_writeWay_62 : decode cSearch_writeWay 62 = .ok (.getfield 107, 3) := by decide +kernel
theorem dSearch_writeWay_65 : decode cSearch_writeWay 65 = .ok (.iload 5, 2) := by decide +kernel
theorem dSearch_writeWay_67 : decode cSearch_writeWay 67 = .ok (.aload_n 0, 1) := by decide +kernel
theorem dSearch_writeWay_68 : decode cSearch_writeWay 68 = .ok (.getfield 42, 3) := by decide +kernel
theorem dSearch_writeWay_71 : decode cSearch_writeWay 71 = .ok (.iload 7, 2) := by decide +kernel
theorem dSearch_writeWay_73 : decode cSearch_writeWay 73 = .ok (.iload_n 3, 1) := by decide +kernel
theorem dSearch_writeWay_74 : decode cSearch_writeWay 74 = .ok (.invokevirtual 110, 3) := by decide +kernel
theorem dSearch_writeWay_77 : decode cSearch_writeWay 77 = .ok (.iastore, 1) := by decide +kernel
theorem dSearch_writeWay_78 : decode cSearch_writeWay 78 = .ok (.aload_n 2, 1) := by decide +kernel
theorem dSearch_writeWay_79 : decode cSearch_writeWay 79 = .ok (.getfield 114, 3) := by decide +kernel
theorem dSearch_writeWay_82 : decode cSearch_writeWay 82 = .ok (.iload 5, 2) := by decide +kernel
theorem dSearch_writeWay_84 : decode cSearch_writeWay 84 = .ok (.aload_n 0, 1) := by decide +kernel
theorem dSearch_writeWay_85 : decode cSearch_writeWay 85 = .ok (.getfield 42, 3) := by decide +kernel
theorem dSearch_writeWay_88 : decode cSearch_writeWay 88 = .ok (.getfield 117, 3) := by decide +kernel
theorem dSearch_writeWay_91 : decode cSearch_writeWay 91 = .ok (.iload_n 3, 1) := by decide +kernel
theorem dSearch_writeWay_92 : decode cSearch_writeWay 92 = .ok (.iaload, 1) := by decide +kernel
theorem dSearch_writeWay_93 : decode cSearch_writeWay 93 = .ok (.iastore, 1) := by decide +kernel
theorem dSearch_writeWay_94 : decode cSearch_writeWay 94 = .ok (.iload 7, 2) := by decide +kernel
theorem dSearch_writeWay_96 : decode cSearch_writeWay 96 = .ok (.istore_n 3, 1) := by decide +kernel
theorem dSearch_writeWay_97 : decode cSearch_writeWay 97 = .ok (.iload 6, 2) := by decide +kernel
theorem dSearch_writeWay_99 : decode cSearch_writeWay 99 = .ok (.iconst 4, 1) := by decide +kernel
theorem dSearch_writeWay_100 : decode cSearch_writeWay 100 = .ok (.irem, 1) := by decide +kernel
theorem dSearch_writeWay_101 : decode cSearch_writeWay 101 = .ok (.istore 4, 2) := by decide +kernel
theorem dSearch_writeWay_103 : decode cSearch_writeWay 103 = .ok (.iinc 5 (-1), 3) := by decide +kernel
theorem dSearch_writeWay_106 : decode cSearch_writeWay 106 = .ok (.goto (-70), 3) := by decide +kernel
theorem dSearch_writeWay_109 : decode cSearch_writeWay 109 = .ok (.return_, 1) := by decide +kernel
theorem dSearch_forget_0 : decode cSearch_forget 0 = .ok (.iconst 0, 1) := by decide +kernel
theorem dSearch_forget_1 : decode cSearch_forget 1 = .ok (.istore_n 2, 1) := by decide +kernel
theorem dSearch_forget_2 : decode cSearch_forget 2 = .ok (.iload_n 2, 1) := by decide +kernel
theorem dSearch_forget_3 : decode cSearch_forget 3 = .ok (.aload_n 0, 1) := by decide +kernel
theorem dSearch_forget_4 : decode cSearch_forget 4 = .ok (.getfield 42, 3) := by decide +kernel
theorem dSearch_forget_7 : decode cSearch_forget 7 = .ok (.getfield 75, 3) := by decide +kernel
theorem dSearch_forget_10 : decode cSearch_forget 10 = .ok (.iconst 1, 1) := by decide +kernel
theorem dSearch_forget_11 : decode cSearch_forget 11 = .ok (.iadd, 1) := by decide +kernel
theorem dSearch_forget_12 : decode cSearch_forget 12 = .ok (.iconst 4, 1) := by decide +kernel
theorem dSearch_forget_13 : decode cSearch_forget 13 = .ok (.imul, 1) := by decide +kernel
theorem dSearch_forget_14 : decode cSearch_forget 14 = .ok (.if_icmp .ge 15, 3) := by decide +kernel
theorem dSearch_forget_17 : decode cSearch_forget 17 = .ok (.aload_n 1, 1) := by decide +kernel
theorem dSearch_forget_18 : decode cSearch_forget 18 = .ok (.iload_n 2, 1) := by decide +kernel
theorem dSearch_forget_19 : decode cSearch_forget 19 = .ok (.ldc2_w 63, 3) := by decide +kernel
theorem dSearch_forget_22 : decode cSearch_forget 22 = .ok (.lastore, 1) := by decide +kernel
theorem dSearch_forget_23 : decode cSearch_forget 23 = .ok (.iinc 2 1, 3) := by decide +kernel
theorem dSearch_forget_26 : decode cSearch_forget 26 = .ok (.goto (-24), 3) := by decide +kernel
theorem dSearch_forget_29 : decode cSearch_forget 29 = .ok (.return_, 1) := by decide +kernel
theorem dSearch_isNearer_0 : decode cSearch_isNearer 0 = .ok (.iload_n 0, 1) := by decide +kernel
theorem dSearch_isNearer_1 : decode cSearch_isNearer 1 = .ok (.iload_n 2, 1) := by decide +kernel
theorem dSearch_isNearer_2 : decode cSearch_isNearer 2 = .ok (.isub, 1) := by decide +kernel
theorem dSearch_isNearer_3 : decode cSearch_isNearer 3 = .ok (.invokestatic 120, 3) := by decide +kernel
theorem dSearch_isNearer_6 : decode cSearch_isNearer 6 = .ok (.istore_n 3, 1) := by decide +kernel
theorem dSearch_isNearer_7 : decode cSearch_isNearer 7 = .ok (.iload_n 1, 1) := by decide +kernel
theorem dSearch_isNearer_8 : decode cSearch_isNearer 8 = .ok (.iload_n 2, 1) := by decide +kernel
theorem dSearch_isNearer_9 : decode cSearch_isNearer 9 = .ok (.isub, 1) := by decide +kernel
theorem dSearch_isNearer_10 : decode cSearch_isNearer 10 = .ok (.invokestatic 120, 3) := by decide +kernel
theorem dSearch_isNearer_13 : decode cSearch_isNearer 13 = .ok (.istore 4, 2) := by decide +kernel
theorem dSearch_isNearer_15 : decode cSearch_isNearer 15 = .ok (.iload_n 3, 1) := by decide +kernel
theorem dSearch_isNearer_16 : decode cSearch_isNearer 16 = .ok (.iload 4, 2) := by decide +kernel
theorem dSearch_isNearer_18 : decode cSearch_isNearer 18 = .ok (.if_icmp .lt 14, 3) := by decide +kernel
theorem dSearch_isNearer_21 : decode cSearch_isNearer 21 = .ok (.iload_n 3, 1) := by decide +kernel
theorem dSearch_isNearer_22 : decode cSearch_isNearer 22 = .ok (.iload 4, 2) := by decide +kernel
theorem dSearch_isNearer_24 : decode cSearch_isNearer 24 = .ok (.if_icmp .ne 12, 3) := by decide +kernel
theorem dSearch_isNearer_27 : decode cSearch_isNearer 27 = .ok (.iload_n 0, 1) := by decide +kernel
theorem dSearch_isNearer_28 : decode cSearch_isNearer 28 = .ok (.iload_n 1, 1) := by decide +kernel
theorem dSearch_isNearer_29 : decode cSearch_isNearer 29 = .ok (.if_icmp .ge 7, 3) := by decide +kernel
theorem dSearch_isNearer_32 : decode cSearch_isNearer 32 = .ok (.iconst 1, 1) := by decide +kernel
theorem dSearch_isNearer_33 : decode cSearch_isNearer 33 = .ok (.goto 4, 3) := by decide +kernel
theorem dSearch_isNearer_36 : decode cSearch_isNearer 36 = .ok (.iconst 0, 1) := by decide +kernel
theorem dSearch_isNearer_37 : decode cSearch_isNearer 37 = .ok (.ireturn, 1) := by decide +kernel
theorem dSearch_findEntries_0 : decode cSearch_findEntries 0 = .ok (.iconst 0, 1) := by decide +kernel
theorem dSearch_findEntries_1 : decode cSearch_findEntries 1 = .ok (.istore_n 3, 1) := by decide +kernel
theorem dSearch_findEntries_2 : decode cSearch_findEntries 2 = .ok (.iconst 0, 1) := by decide +kernel
theorem dSearch_findEntries_3 : decode cSearch_findEntries 3 = .ok (.istore 4, 2) := by decide +kernel
theorem dSearch_findEntries_5 : decode cSearch_findEntries 5 = .ok (.iload 4, 2) := by decide +kernel
theorem dSearch_findEntries_7 : decode cSearch_findEntries 7 = .ok (.iconst 4, 1) := by decide +kernel
theorem dSearch_findEntries_8 : decode cSearch_findEntries 8 = .ok (.if_icmp .ge 51, 3) := by decide +kernel
theorem dSearch_findEntries_11 : decode cSearch_findEntries 11 = .ok (.aload_n 0, 1) := by decide +kernel
theorem dSearch_findEntries_12 : decode cSearch_findEntries 12 = .ok (.getfield 22, 3) := by decide +kernel
theorem dSearch_findEntries_15 : decode cSearch_findEntries 15 = .ok (.iload_n 2, 1) := by decide +kernel
theorem dSearch_findEntries_16 : decode cSearch_findEntries 16 = .ok (.iconst 4, 1) := by decide +kernel
theorem dSearch_findEntries_17 : decode cSearch_findEntries 17 = .ok (.imul, 1) := by decide +kernel
theorem dSearch_findEntries_18 : decode cSearch_findEntries 18 = .ok (.iload 4, 2) := by decide +kernel
theorem dSearch_findEntries_20 : decode cSearch_findEntries 20 = .ok (.iadd, 1) := by decide +kernel
theorem dSearch_findEntries_21 : decode cSearch_findEntries 21 = .ok (.laload, 1) := by decide +kernel
theorem dSearch_findEntries_22 : decode cSearch_findEntries 22 = .ok (.ldc2_w 63, 3) := by decide +kernel
theorem dSearch_findEntries_25 : decode cSearch_findEntries 25 = .ok (.lcmp, 1) := by decide +kernel
theorem dSearch_findEntries_26 : decode cSearch_findEntries 26 = .ok (.ifCond .eq 27, 3) := by decide +kernel
theorem dSearch_findEntries_29 : decode cSearch_findEntries 29 = .ok (.iload_n 3, 1) := by decide +kernel
theorem dSearch_findEntries_30 : decode cSearch_findEntries 30 = .ok (.ifCond .ne 13, 3) := by decide +kernel
theorem dSearch_findEntries_33 : decode cSearch_findEntries 33 = .ok (.aload_n 0, 1) := by decide +kernel
theorem dSearch_findEntries_34 : decode cSearch_findEntries 34 = .ok (.getfield 29, 3) := by decide +kernel
theorem dSearch_findEntries_37 : decode cSearch_findEntries 37 = .ok (.ldc2_w 63, 3) := by decide +kernel
theorem dSearch_findEntries_40 : decode cSearch_findEntries 40 = .ok (.invokestatic 65, 3) := by decide +kernel
theorem dSearch_findEntries_43 : decode cSearch_findEntries 43 = .ok (.iconst 1, 1) := by decide +kernel
theorem dSearch_findEntries_44 : decode cSearch_findEntries 44 = .ok (.istore_n 3, 1) := by decide +kernel
theorem dSearch_findEntries_45 : decode cSearch_findEntries 45 = .ok (.aload_n 0, 1) := by decide +kernel
theorem dSearch_findEntries_46 : decode cSearch_findEntries 46 = .ok (.iload_n 1, 1) := by decide +kernel
theorem dSearch_findEntries_47 : decode cSearch_findEntries 47 = .ok (.iload_n 2, 1) := by decide +kernel
theorem dSearch_findEntries_48 : decode cSearch_findEntries 48 = .ok (.iload 4, 2) := by decide +kernel
theorem dSearch_findEntries_50 : decode cSearch_findEntries 50 = .ok (.invokevirtual 126, 3) := by decide +kernel
theorem dSearch_findEntries_53 : decode cSearch_findEntries 53 = .ok (.iinc 4 1, 3) := by decide +kernel
theorem dSearch_findEntries_56 : decode cSearch_findEntries 56 = .ok (.goto (-51), 3) := by decide +kernel
theorem dSearch_findEntries_59 : decode cSearch_findEntries 59 = .ok (.iload_n 3, 1) := by decide +kernel
theorem dSearch_findEntries_60 : decode cSearch_findEntries 60 = .ok (.ireturn, 1) := by decide +kernel
theorem dSearch_offerEntries_0 : decode cSearch_offerEntries 0 = .ok (.iconst 0, 1) := by decide +kernel
theorem dSearch_offerEntries_1 : decode cSearch_offerEntries 1 = .ok (.istore 4, 2) := by decide +kernel
theorem dSearch_offerEntries_3 : decode cSearch_offerEntries 3 = .ok (.iload 4, 2) := by decide +kernel
theorem dSearch_offerEntries_5 : decode cSearch_offerEntries 5 = .ok (.iconst 4, 1) := by decide +kernel
theorem dSearch_offerEntries_6 : decode cSearch_offerEntries 6 = .ok (.if_icmp .ge 118, 3) := by decide +kernel
theorem dSearch_offerEntries_9 : decode cSearch_offerEntries 9 = .ok (.iload 4, 2) := by decide +kernel
theorem dSearch_offerEntries_11 : decode cSearch_offerEntries 11 = .ok (.iload_n 3, 1) := by decide +kernel
theorem dSearch_offerEntries_12 : decode cSearch_offerEntries 12 = .ok (.isub, 1) := by decide +kernel
theorem dSearch_offerEntries_13 : decode cSearch_offerEntries 13 = .ok (.invokestatic 120, 3) := by decide +kernel
theorem dSearch_offerEntries_16 : decode cSearch_offerEntries 16 = .ok (.iconst 1, 1) := by decide +kernel
theorem dSearch_offerEntries_17 : decode cSearch_offerEntries 17 = .ok (.if_icmp .gt 7, 3) := by decide +kernel
theorem dSearch_offerEntries_20 : decode cSearch_offerEntries 20 = .ok (.iconst 1, 1) := by decide +kernel
theorem dSearch_offerEntries_21 : decode cSearch_offerEntries 21 = .ok (.goto 4, 3) := by decide +kernel
theorem dSearch_offerEntries_24 : decode cSearch_offerEntries 24 = .ok (.iconst 0, 1) := by decide +kernel
theorem dSearch_offerEntries_25 : decode cSearch_offerEntries 25 = .ok (.istore 5, 2) := by decide +kernel
theorem dSearch_offerEntries_27 : decode cSearch_offerEntries 27 = .ok (.aload_n 0, 1) := by decide +kernel
theorem dSearch_offerEntries_28 : decode cSearch_offerEntries 28 = .ok (.getfield 22, 3) := by decide +kernel
theorem dSearch_offerEntries_31 : decode cSearch_offerEntries 31 = .ok (.iload_n 2, 1) := by decide +kernel
theorem dSearch_offerEntries_32 : decode cSearch_offerEntries 32 = .ok (.iconst 4, 1) := by decide +kernel
theorem dSearch_offerEntries_33 : decode cSearch_offerEntries 33 = .ok (.imul, 1) := by decide +kernel
theorem dSearch_offerEntries_34 : decode cSearch_offerEntries 34 = .ok (.iload_n 3, 1) := by decide +kernel
theorem dSearch_offerEntries_35 : decode cSearch_offerEntries 35 = .ok (.iadd, 1) := by decide +kernel
theorem dSearch_offerEntries_36 : decode cSearch_offerEntries 36 = .ok (.laload, 1) := by decide +kernel
theorem dSearch_offerEntries_37 : decode cSearch_offerEntries 37 = .ok (.iload 5, 2) := by decide +kernel
theorem dSearch_offerEntries_39 : decode cSearch_offerEntries 39 = .ok (.ifCond .eq 7, 3) := by decide +kernel
theorem dSearch_offerEntries_42 : decode cSearch_offerEntries 42 = .ok (.iconst 0, 1) := by decide +kernel
theorem dSearch_offerEntries_43 : decode cSearch_offerEntries 43 = .ok (.goto 9, 3) := by decide +kernel
theorem dSearch_offerEntries_46 : decode cSearch_offerEntries 46 = .ok (.aload_n 0, 1) := by decide +kernel
theorem dSearch_offerEntries_47 : decode cSearch_offerEntries 47 = .ok (.getfield 53, 3) := by decide +kernel
theorem dSearch_offerEntries_50 : decode cSearch_offerEntries 50 = .ok (.iconst 3, 1) := by decide +kernel
theorem dSearch_offerEntries_51 : decode cSearch_offerEntries 51 = .ok (.iaload, 1) := by decide +kernel
theorem dSearch_offerEntries_52 : decode cSearch_offerEntries 52 = .ok (.i2l, 1) := by decide +kernel
theorem dSearch_offerEntries_53 : decode cSearch_offerEntries 53 = .ok (.ladd, 1) := by decide +kernel
theorem dSearch_offerEntries_54 : decode cSearch_offerEntries 54 = .ok (.lstore 6, 2) := by decide +kernel
theorem dSearch_offerEntries_56 : decode cSearch_offerEntries 56 = .ok (.lload 6, 2) := by decide +kernel
theorem dSearch_offerEntries_58 : decode cSearch_offerEntries 58 = .ok (.aload_n 0, 1) := by decide +kernel
theorem dSearch_offerEntries_59 : decode cSearch_offerEntries 59 = .ok (.getfield 29, 3) := by decide +kernel
theorem dSearch_offerEntries_62 : decode cSearch_offerEntries 62 = .ok (.iload 4, 2) := by decide +kernel
theorem dSearch_offerEntries_64 : decode cSearch_offerEntries 64 = .ok (.laload, 1) := by decide +kernel
theorem dSearch_offerEntries_65 : decode cSearch_offerEntries 65 = .ok (.lcmp, 1) := by decide +kernel
theorem dSearch_offerEntries_66 : decode cSearch_offerEntries 66 = .ok (.ifCond .lt 35, 3) := by decide +kernel
theorem dSearch_offerEntries_69 : decode cSearch_offerEntries 69 = .ok (.lload 6, 2) := by decide +kernel
theorem dSearch_offerEntries_71 : decode cSearch_offerEntries 71 = .ok (.aload_n 0, 1) := by decide +kernel
theorem dSearch_offerEntries_72 : decode cSearch_offerEntries 72 = .ok (.getfield 29, 3) := by decide +kernel
theorem dSearch_offerEntries_75 : decode cSearch_offerEntries 75 = .ok (.iload 4, 2) := by decide +kernel
theorem dSearch_offerEntries_77 : decode cSearch_offerEntries 77 = .ok (.laload, 1) := by decide +kernel
theorem dSearch_offerEntries_78 : decode cSearch_offerEntries 78 = .ok (.lcmp, 1) := by decide +kernel
theorem dSearch_offerEntries_79 : decode cSearch_offerEntries 79 = .ok (.ifCond .ne 39, 3) := by decide +kernel
theorem dSearch_offerEntries_82 : decode cSearch_offerEntries 82 = .ok (.aload_n 0, 1) := by decide +kernel
theorem dSearch_offerEntries_83 : decode cSearch_offerEntries 83 = .ok (.iload_n 1, 1) := by decide +kernel
theorem dSearch_offerEntries_84 : decode cSearch_offerEntries 84 = .ok (.iconst 1, 1) := by decide +kernel
theorem dSearch_offerEntries_85 : decode cSearch_offerEntries 85 = .ok (.isub, 1) := by decide +kernel
theorem dSearch_offerEntries_86 : decode cSearch_offerEntries 86 = .ok (.iload_n 2, 1) := by decide +kernel
theorem dSearch_offerEntries_87 : decode cSearch_offerEntries 87 = .ok (.iload_n 3, 1) := by decide +kernel
theorem dSearch_offerEntries_88 : decode cSearch_offerEntries 88 = .ok (.aload_n 0, 1) := by decide +kernel
theorem dSearch_offerEntries_89 : decode cSearch_offerEntries 89 = .ok (.getfield 32, 3) := by decide +kernel
theorem dSearch_offerEntries_92 : decode cSearch_offerEntries 92 = .ok (.iload 4, 2) := by decide +kernel
theorem dSearch_offerEntries_94 : decode cSearch_offerEntries 94 = .ok (.iaload, 1) := by decide +kernel
theorem dSearch_offerEntries_95 : decode cSearch_offerEntries 95 = .ok (.invokevirtual 130, 3) := by decide +kernel
theorem dSearch_offerEntries_98 : decode cSearch_offerEntries 98 = .ok (.ifCond .eq 20, 3) := by decide +kernel
theorem dSearch_offerEntries_101 : decode cSearch_offerEntries 101 = .ok (.aload_n 0, 1) := by decide +kernel
theorem dSearch_offerEntries_102 : decode cSearch_offerEntries 102 = .ok (.getfield 29, 3) := by decide +kernel
theorem dSearch_offerEntries_105 : decode cSearch_offerEntries 105 = .ok (.iload 4, 2) := by decide +kernel
theorem dSearch_offerEntries_107 : decode cSearch_offerEntries 107 = .ok (.lload 6, 2) := by decide +kernel
theorem dSearch_offerEntries_109 : decode cSearch_offerEntries 109 = .ok (.lastore, 1) := by decide +kernel
theorem dSearch_offerEntries_110 : decode cSearch_offerEntries 110 = .ok (.aload_n 0, 1) := by decide +kernel
theorem dSearch_offerEntries_111 : decode cSearch_offerEntries 111 = .ok (.getfield 32, 3) := by decide +kernel
theorem dSearch_offerEntries_114 : decode cSearch_offerEntries 114 = .ok (.iload 4, 2) := by decide +kernel
theorem dSearch_offerEntries_116 : decode cSearch_offerEntries 116 = .ok (.iload_n 3, 1) := by decide +kernel
theorem dSearch_offerEntries_117 : decode cSearch_offerEntries 117 = .ok (.iastore, 1) := by decide +kernel
theorem dSearch_offerEntries_118 : decode cSearch_offerEntries 118 = .ok (.iinc 4 1, 3) := by decide +kernel
theorem dSearch_offerEntries_121 : decode cSearch_offerEntries 121 = .ok (.goto (-118), 3) := by decide +kernel
theorem dSearch_offerEntries_124 : decode cSearch_offerEntries 124 = .ok (.return_, 1) := by decide +kernel
theorem dSearch_comesEarlier_0 : decode cSearch_comesEarlier 0 = .ok (.iload_n 1, 1) := by decide +kernel
theorem dSearch_comesEarlier_1 : decode cSearch_comesEarlier 1 = .ok (.ifCond .lt 31, 3) := by decide +kernel
theorem dSearch_comesEarlier_4 : decode cSearch_comesEarlier 4 = .ok (.aload_n 0, 1) := by decide +kernel
theorem dSearch_comesEarlier_5 : decode cSearch_comesEarlier 5 = .ok (.getfield 14, 3) := by decide +kernel
theorem dSearch_comesEarlier_8 : decode cSearch_comesEarlier 8 = .ok (.iload_n 1, 1) := by decide +kernel
theorem dSearch_comesEarlier_9 : decode cSearch_comesEarlier 9 = .ok (.iload_n 2, 1) := by decide +kernel
theorem dSearch_comesEarlier_10 : decode cSearch_comesEarlier 10 = .ok (.iload_n 3, 1) := by decide +kernel
theorem dSearch_comesEarlier_11 : decode cSearch_comesEarlier 11 = .ok (.invokevirtual 103, 3) := by decide +kernel
theorem dSearch_comesEarlier_14 : decode cSearch_comesEarlier 14 = .ok (.aload_n 0, 1) := by decide +kernel
theorem dSearch_comesEarlier_15 : decode cSearch_comesEarlier 15 = .ok (.getfield 14, 3) := by decide +kernel
theorem dSearch_comesEarlier_18 : decode cSearch_comesEarlier 18 = .ok (.iload_n 1, 1) := by decide +kernel
theorem dSearch_comesEarlier_19 : decode cSearch_comesEarlier 19 = .ok (.iload_n 2, 1) := by decide +kernel
theorem dSearch_comesEarlier_20 : decode cSearch_comesEarlier 20 = .ok (.iload 4, 2) := by decide +kernel
theorem dSearch_comesEarlier_22 : decode cSearch_comesEarlier 22 = .ok (.invokevirtual 103, 3) := by decide +kernel
theorem dSearch_comesEarlier_25 : decode cSearch_comesEarlier 25 = .ok (.if_icmp .ge 7, 3) := by decide +kernel
theorem dSearch_comesEarlier_28 : decode cSearch_comesEarlier 28 = .ok (.iconst 1, 1) := by decide +kernel
theorem dSearch_comesEarlier_29 : decode cSearch_comesEarlier 29 = .ok (.goto 4, 3) := by decide +kernel
theorem dSearch_comesEarlier_32 : decode cSearch_comesEarlier 32 = .ok (.iconst 0, 1) := by decide +kernel
theorem dSearch_comesEarlier_33 : decode cSearch_comesEarlier 33 = .ok (.ireturn, 1) := by decide +kernel
theorem dSearch_addLinesFrom_0 : decode cSearch_addLinesFrom 0 = .ok (.aload_n 0, 1) := by decide +kernel
theorem dSearch_addLinesFrom_1 : decode cSearch_addLinesFrom 1 = .ok (.getfield 50, 3) := by decide +kernel
theorem dSearch_addLinesFrom_4 : decode cSearch_addLinesFrom 4 = .ok (.iload_n 1, 1) := by decide +kernel
theorem dSearch_addLinesFrom_5 : decode cSearch_addLinesFrom 5 = .ok (.iaload, 1) := by decide +kernel
theorem dSearch_addLinesFrom_6 : decode cSearch_addLinesFrom 6 = .ok (.istore_n 3, 1) := by decide +kernel
theorem dSearch_addLinesFrom_7 : decode cSearch_addLinesFrom 7 = .ok (.iload_n 2, 1) := by decide +kernel
theorem dSearch_addLinesFrom_8 : decode cSearch_addLinesFrom 8 = .ok (.iconst 1, 1) := by decide +kernel
theorem dSearch_addLinesFrom_9 : decode cSearch_addLinesFrom 9 = .ok (.iadd, 1) := by decide +kernel
theorem dSearch_addLinesFrom_10 : decode cSearch_addLinesFrom 10 = .ok (.istore 4, 2) := by decide +kernel
theorem dSearch_addLinesFrom_12 : decode cSearch_addLinesFrom 12 = .ok (.iload 4, 2) := by decide +kernel
theorem dSearch_addLinesFrom_14 : decode cSearch_addLinesFrom 14 = .ok (.aload_n 0, 1) := by decide +kernel
theorem dSearch_addLinesFrom_15 : decode cSearch_addLinesFrom 15 = .ok (.getfield 42, 3) := by decide +kernel
theorem dSearch_addLinesFrom_18 : decode cSearch_addLinesFrom 18 = .ok (.getfield 134, 3) := by decide +kernel
theorem dSearch_addLinesFrom_21 : decode cSearch_addLinesFrom 21 = .ok (.iload_n 2, 1) := by decide +kernel
theorem dSearch_addLinesFrom_22 : decode cSearch_addLinesFrom 22 = .ok (.iaload, 1) := by decide +kernel
theorem dSearch_addLinesFrom_23 : decode cSearch_addLinesFrom 23 = .ok (.if_icmp .gt 88, 3) := by decide +kernel
theorem dSearch_addLinesFrom_26 : decode cSearch_addLinesFrom 26 = .ok (.aload_n 0, 1) := by decide +kernel
theorem dSearch_addLinesFrom_27 : decode cSearch_addLinesFrom 27 = .ok (.getfield 42, 3) := by decide +kernel
theorem dSearch_addLinesFrom_30 : decode cSearch_addLinesFrom 30 = .ok (.iload_n 2, 1) := by decide +kernel
theorem dSearch_addLinesFrom_31 : decode cSearch_addLinesFrom 31 = .ok (.iload 4, 2) := by decide +kernel
theorem dSearch_addLinesFrom_33 : decode cSearch_addLinesFrom 33 = .ok (.invokevirtual 110, 3) := by decide +kernel
theorem dSearch_addLinesFrom_36 : decode cSearch_addLinesFrom 36 = .ok (.istore 5, 2) := by decide +kernel
theorem dSearch_addLinesFrom_38 : decode cSearch_addLinesFrom 38 = .ok (.aload_n 0, 1) := by decide +kernel
theorem dSearch_addLinesFrom_39 : decode cSearch_addLinesFrom 39 = .ok (.getfield 42, 3) := by decide +kernel
theorem dSearch_addLinesFrom_42 : decode cSearch_addLinesFrom 42 = .ok (.getfield 117, 3) := by decide +kernel
theorem dSearch_addLinesFrom_45 : decode cSearch_addLinesFrom 45 = .ok (.iload 4, 2) := by decide +kernel
theorem dSearch_addLinesFrom_47 : decode cSearch_addLinesFrom 47 = .ok (.iaload, 1) := by decide +kernel
theorem dSearch_addLinesFrom_48 : decode cSearch_addLinesFrom 48 = .ok (.istore 6, 2) := by decide +kernel
theorem dSearch_addLinesFrom_50 : decode cSearch_addLinesFrom 50 = .ok (.iload 5, 2) := by decide +kernel
theorem dSearch_addLinesFrom_52 : decode cSearch_addLinesFrom 52 = .ok (.iload 6, 2) := by decide +kernel
theorem dSearch_addLinesFrom_54 : decode cSearch_addLinesFrom 54 = .ok (.if_icmp .ge 21, 3) := by decide +kernel
theorem dSearch_addLinesFrom_57 : decode cSearch_addLinesFrom 57 = .ok (.aload_n 0, 1) := by decide +kernel
theorem dSearch_addLinesFrom_58 : decode cSearch_addLinesFrom 58 = .ok (.getfield 42, 3) := by decide +kernel
theorem dSearch_addLinesFrom_61 : decode cSearch_addLinesFrom 61 = .ok (.iload 4, 2) := by decide +kernel
theorem dSearch_addLinesFrom_63 : decode cSearch_addLinesFrom 63 = .ok (.iload 5, 2) := by decide +kernel
theorem dSearch_addLinesFrom_65 : decode cSearch_addLinesFrom 65 = .ok (.iload_n 3, 1) := by decide +kernel
theorem dSearch_addLinesFrom_66 : decode cSearch_addLinesFrom 66 = .ok (.invokevirtual 137, 3) := by decide +kernel
theorem dSearch_addLinesFrom_69 : decode cSearch_addLinesFrom 69 = .ok (.ifCond .eq 6, 3) := by decide +kernel
theorem dSearch_addLinesFrom_72 : decode cSearch_addLinesFrom 72 = .ok (.goto 39, 3) := by decide +kernel
theorem dSearch_addLinesFrom_75 : decode cSearch_addLinesFrom 75 = .ok (.aload_n 0, 1) := by decide +kernel
theorem dSearch_addLinesFrom_76 : decode cSearch_addLinesFrom 76 = .ok (.getfield 46, 3) := by decide +kernel
theorem dSearch_addLinesFrom_79 : decode cSearch_addLinesFrom 79 = .ok (.iload 5, 2) := by decide +kernel
theorem dSearch_addLinesFrom_81 : decode cSearch_addLinesFrom 81 = .ok (.iload 6, 2) := by decide +kernel
theorem dSearch_addLinesFrom_83 : decode cSearch_addLinesFrom 83 = .ok (.iload_n 3, 1) := by decide +kernel
theorem dSearch_addLinesFrom_84 : decode cSearch_addLinesFrom 84 = .ok (.invokevirtual 140, 3) := by decide +kernel
theorem dSearch_addLinesFrom_87 : decode cSearch_addLinesFrom 87 = .ok (.aload_n 0, 1) := by decide +kernel
theorem dSearch_addLinesFrom_88 : decode cSearch_addLinesFrom 88 = .ok (.getfield 46, 3) := by decide +kernel
theorem dSearch_addLinesFrom_91 : decode cSearch_addLinesFrom 91 = .ok (.invokevirtual 145, 3) := by decide +kernel
theorem dSearch_addLinesFrom_94 : decode cSearch_addLinesFrom 94 = .ok (.ifCond .ne 11, 3) := by decide +kernel
theorem dSearch_addLinesFrom_97 : decode cSearch_addLinesFrom 97 = .ok (.aload_n 0, 1) := by decide +kernel
theorem dSearch_addLinesFrom_98 : decode cSearch_addLinesFrom 98 = .ok (.iload_n 1, 1) := by decide +kernel
theorem dSearch_addLinesFrom_99 : decode cSearch_addLinesFrom 99 = .ok (.iload_n 2, 1) := by decide +kernel
theorem dSearch_addLinesFrom_100 : decode cSearch_addLinesFrom 100 = .ok (.iload 4, 2) := by decide +kernel
theorem dSearch_addLinesFrom_102 : decode cSearch_addLinesFrom 102 = .ok (.invokevirtual 149, 3) := by decide +kernel
theorem dSearch_addLinesFrom_105 : decode cSearch_addLinesFrom 105 = .ok (.iinc 4 1, 3) := by decide +kernel
theorem dSearch_addLinesFrom_108 : decode cSearch_addLinesFrom 108 = .ok (.goto (-96), 3) := by decide +kernel
theorem dSearch_addLinesFrom_111 : decode cSearch_addLinesFrom 111 = .ok (.return_, 1) := by decide +kernel
theorem dSearch_offerLine_0 : decode cSearch_offerLine 0 = .ok (.aload_n 0, 1) := by decide +kernel
theorem dSearch_offerLine_1 : decode cSearch_offerLine 1 = .ok (.getfield 46, 3) := by decide +kernel
theorem dSearch_offerLine_4 : decode cSearch_offerLine 4 = .ok (.aload_n 0, 1) := by decide +kernel
theorem dSearch_offerLine_5 : decode cSearch_offerLine 5 = .ok (.getfield 60, 3) := by decide +kernel
theorem dSearch_offerLine_8 : decode cSearch_offerLine 8 = .ok (.invokevirtual 152, 3) := by decide +kernel
theorem dSearch_offerLine_11 : decode cSearch_offerLine 11 = .ok (.istore 4, 2) := by decide +kernel
theorem dSearch_offerLine_13 : decode cSearch_offerLine 13 = .ok (.iload 4, 2) := by decide +kernel
theorem dSearch_offerLine_15 : decode cSearch_offerLine 15 = .ok (.aload_n 0, 1) := by decide +kernel
theorem dSearch_offerLine_16 : decode cSearch_offerLine 16 = .ok (.getfield 56, 3) := by decide +kernel
theorem dSearch_offerLine_19 : decode cSearch_offerLine 19 = .ok (.if_icmp .le 4, 3) := by decide +kernel
theorem dSearch_offerLine_22 : decode cSearch_offerLine 22 = .ok (.return_, 1) := by decide +kernel
theorem dSearch_offerLine_23 : decode cSearch_offerLine 23 = .ok (.aload_n 0, 1) := by decide +kernel
theorem dSearch_offerLine_24 : decode cSearch_offerLine 24 = .ok (.getfield 46, 3) := by decide +kernel
theorem dSearch_offerLine_27 : decode cSearch_offerLine 27 = .ok (.iload 4, 2) := by decide +kernel
theorem dSearch_offerLine_29 : decode cSearch_offerLine 29 = .ok (.invokevirtual 155, 3) := by decide +kernel
theorem dSearch_offerLine_32 : decode cSearch_offerLine 32 = .ok (.istore 5, 2) := by decide +kernel
theorem dSearch_offerLine_34 : decode cSearch_offerLine 34 = .ok (.aload_n 0, 1) := by decide +kernel
theorem dSearch_offerLine_35 : decode cSearch_offerLine 35 = .ok (.getfield 29, 3) := by decide +kernel
theorem dSearch_offerLine_38 : decode cSearch_offerLine 38 = .ok (.iload 5, 2) := by decide +kernel
theorem dSearch_offerLine_40 : decode cSearch_offerLine 40 = .ok (.laload, 1) := by decide +kernel
theorem dSearch_offerLine_41 : decode cSearch_offerLine 41 = .ok (.aload_n 0, 1) := by decide +kernel
theorem dSearch_offerLine_42 : decode cSearch_offerLine 42 = .ok (.iload 4, 2) := by decide +kernel
theorem dSearch_offerLine_44 : decode cSearch_offerLine 44 = .ok (.aload_n 0, 1) := by decide +kernel
theorem dSearch_offerLine_45 : decode cSearch_offerLine 45 = .ok (.getfield 42, 3) := by decide +kernel
theorem dSearch_offerLine_48 : decode cSearch_offerLine 48 = .ok (.getfield 158, 3) := by decide +kernel
theorem dSearch_offerLine_51 : decode cSearch_offerLine 51 = .ok (.aload_n 0, 1) := by decide +kernel
theorem dSearch_offerLine_52 : decode cSearch_offerLine 52 = .ok (.getfield 42, 3) := by decide +kernel
theorem dSearch_offerLine_55 : decode cSearch_offerLine 55 = .ok (.getfield 117, 3) := by decide +kernel
theorem dSearch_offerLine_58 : decode cSearch_offerLine 58 = .ok (.iload_n 3, 1) := by decide +kernel
theorem dSearch_offerLine_59 : decode cSearch_offerLine 59 = .ok (.iaload, 1) := by decide +kernel
theorem dSearch_offerLine_60 : decode cSearch_offerLine 60 = .ok (.invokevirtual 162, 3) := by decide +kernel
theorem dSearch_offerLine_63 : decode cSearch_offerLine 63 = .ok (.invokevirtual 167, 3) := by decide +kernel
theorem dSearch_offerLine_66 : decode cSearch_offerLine 66 = .ok (.ladd, 1) := by decide +kernel
theorem dSearch_offerLine_67 : decode cSearch_offerLine 67 = .ok (.aload_n 0, 1) := by decide +kernel
theorem dSearch_offerLine_68 : decode cSearch_offerLine 68 = .ok (.iload_n 2, 1) := by decide +kernel
theorem dSearch_offerLine_69 : decode cSearch_offerLine 69 = .ok (.iload_n 3, 1) := by decide +kernel
theorem dSearch_offerLine_70 : decode cSearch_offerLine 70 = .ok (.invokevirtual 171, 3) := by decide +kernel
theorem dSearch_offerLine_73 : decode cSearch_offerLine 73 = .ok (.i2l, 1) := by decide +kernel
theorem dSearch_offerLine_74 : decode cSearch_offerLine 74 = .ok (.ladd, 1) := by decide +kernel
theorem dSearch_offerLine_75 : decode cSearch_offerLine 75 = .ok (.lstore 6, 2) := by decide +kernel
theorem dSearch_offerLine_77 : decode cSearch_offerLine 77 = .ok (.iload_n 3, 1) := by decide +kernel
theorem dSearch_offerLine_78 : decode cSearch_offerLine 78 = .ok (.iconst 4, 1) := by decide +kernel
theorem dSearch_offerLine_79 : decode cSearch_offerLine 79 = .ok (.imul, 1) := by decide +kernel
theorem dSearch_offerLine_80 : decode cSearch_offerLine 80 = .ok (.iload 5, 2) := by decide +kernel
theorem dSearch_offerLine_82 : decode cSearch_offerLine 82 = .ok (.iadd, 1) := by decide +kernel
theorem dSearch_offerLine_83 : decode cSearch_offerLine 83 = .ok (.istore 8, 2) := by decide +kernel
theorem dSearch_offerLine_85 : decode cSearch_offerLine 85 = .ok (.lload 6, 2) := by decide +kernel
theorem dSearch_offerLine_87 : decode cSearch_offerLine 87 = .ok (.aload_n 0, 1) := by decide +kernel
theorem dSearch_offerLine_88 : decode cSearch_offerLine 88 = .ok (.getfield 26, 3) := by decide +kernel
theorem dSearch_offerLine_91 : decode cSearch_offerLine 91 = .ok (.iload 8, 2) := by decide +kernel
theorem dSearch_offerLine_93 : decode cSearch_offerLine 93 = .ok (.laload, 1) := by decide +kernel
theorem dSearch_offerLine_94 : decode cSearch_offerLine 94 = .ok (.lcmp, 1) := by decide +kernel
theorem dSearch_offerLine_95 : decode cSearch_offerLine 95 = .ok (.ifCond .ge 34, 3) := by decide +kernel
theorem dSearch_offerLine_98 : decode cSearch_offerLine 98 = .ok (.aload_n 0, 1) := by decide +kernel
theorem dSearch_offerLine_99 : decode cSearch_offerLine 99 = .ok (.getfield 26, 3) := by decide +kernel
theorem dSearch_offerLine_102 : decode cSearch_offerLine 102 = .ok (.iload 8, 2) := by decide +kernel
theorem dSearch_offerLine_104 : decode cSearch_offerLine 104 = .ok (.lload 6, 2) := by decide +kernel
theorem dSearch_offerLine_106 : decode cSearch_offerLine 106 = .ok (.lastore, 1) := by decide +kernel
theorem dSearch_offerLine_107 : decode cSearch_offerLine 107 = .ok (.aload_n 0, 1) := by decide +kernel
theorem dSearch_offerLine_108 : decode cSearch_offerLine 108 = .ok (.getfield 14, 3) := by decide +kernel
theorem dSearch_offerLine_111 : decode cSearch_offerLine 111 = .ok (.iload_n 1, 1) := by decide +kernel
theorem dSearch_offerLine_112 : decode cSearch_offerLine 112 = .ok (.iload_n 3, 1) := by decide +kernel
theorem dSearch_offerLine_113 : decode cSearch_offerLine 113 = .ok (.iload 5, 2) := by decide +kernel
theorem dSearch_offerLine_115 : decode cSearch_offerLine 115 = .ok (.iload_n 2, 1) := by decide +kernel
theorem dSearch_offerLine_116 : decode cSearch_offerLine 116 = .ok (.iconst 4, 1) := by decide +kernel
theorem dSearch_offerLine_117 : decode cSearch_offerLine 117 = .ok (.imul, 1) := by decide +kernel
theorem dSearch_offerLine_118 : decode cSearch_offerLine 118 = .ok (.aload_n 0, 1) := by decide +kernel
theorem dSearch_offerLine_119 : decode cSearch_offerLine 119 = .ok (.getfield 32, 3) := by decide +kernel
theorem dSearch_offerLine_122 : decode cSearch_offerLine 122 = .ok (.iload 5, 2) := by decide +kernel
theorem dSearch_offerLine_124 : decode cSearch_offerLine 124 = .ok (.iaload, 1) := by decide +kernel
theorem dSearch_offerLine_125 : decode cSearch_offerLine 125 = .ok (.iadd, 1) := by decide +kernel
theorem dSearch_offerLine_126 : decode cSearch_offerLine 126 = .ok (.invokevirtual 174, 3) := by decide +kernel
theorem dSearch_offerLine_129 : decode cSearch_offerLine 129 = .ok (.return_, 1) := by decide +kernel
theorem dSearch_demeritsAlone_0 : decode cSearch_demeritsAlone 0 = .ok (.aload_n 0, 1) := by decide +kernel
theorem dSearch_demeritsAlone_1 : decode cSearch_demeritsAlone 1 = .ok (.getfield 53, 3) := by decide +kernel
theorem dSearch_demeritsAlone_4 : decode cSearch_demeritsAlone 4 = .ok (.iconst 0, 1) := by decide +kernel
theorem dSearch_demeritsAlone_5 : decode cSearch_demeritsAlone 5 = .ok (.iaload, 1) := by decide +kernel
theorem dSearch_demeritsAlone_6 : decode cSearch_demeritsAlone 6 = .ok (.iload_n 1, 1) := by decide +kernel
theorem dSearch_demeritsAlone_7 : decode cSearch_demeritsAlone 7 = .ok (.iadd, 1) := by decide +kernel
theorem dSearch_demeritsAlone_8 : decode cSearch_demeritsAlone 8 = .ok (.i2l, 1) := by decide +kernel
theorem dSearch_demeritsAlone_9 : decode cSearch_demeritsAlone 9 = .ok (.lstore_n 3, 1) := by decide +kernel
theorem dSearch_demeritsAlone_10 : decode cSearch_demeritsAlone 10 = .ok (.iload_n 2, 1) := by decide +kernel
theorem dSearch_demeritsAlone_11 : decode cSearch_demeritsAlone 11 = .ok (.i2l, 1) := by decide +kernel
theorem dSearch_demeritsAlone_12 : decode cSearch_demeritsAlone 12 = .ok (.iload_n 2, 1) := by decide +kernel
theorem dSearch_demeritsAlone_13 : decode cSearch_demeritsAlone 13 = .ok (.i2l, 1) := by decide +kernel
theorem dSearch_demeritsAlone_14 : decode cSearch_demeritsAlone 14 = .ok (.lmul, 1) := by decide +kernel
theorem dSearch_demeritsAlone_15 : decode cSearch_demeritsAlone 15 = .ok (.lstore 5, 2) := by decide +kernel
theorem dSearch_demeritsAlone_17 : decode cSearch_demeritsAlone 17 = .ok (.iload_n 2, 1) := by decide +kernel
theorem dSearch_demeritsAlone_18 : decode cSearch_demeritsAlone 18 = .ok (.ifCond .lt 10, 3) := by decide +kernel
theorem dSearch_demeritsAlone_21 : decode cSearch_demeritsAlone 21 = .ok (.lload_n 3, 1) := by decide +kernel
theorem dSearch_demeritsAlone_22 : decode cSearch_demeritsAlone 22 = .ok (.lload_n 3, 1) := by decide +kernel
theorem dSearch_demeritsAlone_23 : decode cSearch_demeritsAlone 23 = .ok (.lmul, 1) := by decide +kernel
theorem dSearch_demeritsAlone_24 : decode cSearch_demeritsAlone 24 = .ok (.lload 5, 2) := by decide +kernel
theorem dSearch_demeritsAlone_26 : decode cSearch_demeritsAlone 26 = .ok (.ladd, 1) := by decide +kernel
theorem dSearch_demeritsAlone_27 : decode cSearch_demeritsAlone 27 = .ok (.lreturn, 1) := by decide +kernel
theorem dSearch_demeritsAlone_28 : decode cSearch_demeritsAlone 28 = .ok (.iload_n 2, 1) := by decide +kernel
theorem dSearch_demeritsAlone_29 : decode cSearch_demeritsAlone 29 = .ok (.sipush (-10000), 3) := by decide +kernel
theorem dSearch_demeritsAlone_32 : decode cSearch_demeritsAlone 32 = .ok (.if_icmp .le 12, 3) := by decide +kernel
theorem dSearch_demeritsAlone_35 : decode cSearch_demeritsAlone 35 = .ok (.lload_n 3, 1) := by decide +kernel
theorem dSearch_demeritsAlone_36 : decode cSearch_demeritsAlone 36 = .ok (.lload_n 3, 1) := by decide +kernel
theorem dSearch_demeritsAlone_37 : decode cSearch_demeritsAlone 37 = .ok (.lmul, 1) := by decide +kernel
theorem dSearch_demeritsAlone_38 : decode cSearch_demeritsAlone 38 = .ok (.lload 5, 2) := by decide +kernel
theorem dSearch_demeritsAlone_40 : decode cSearch_demeritsAlone 40 = .ok (.lsub, 1) := by decide +kernel
theorem dSearch_demeritsAlone_41 : decode cSearch_demeritsAlone 41 = .ok (.goto 6, 3) := by decide +kernel
theorem dSearch_demeritsAlone_44 : decode cSearch_demeritsAlone 44 = .ok (.lload_n 3, 1) := by decide +kernel
theorem dSearch_demeritsAlone_45 : decode cSearch_demeritsAlone 45 = .ok (.lload_n 3, 1) := by decide +kernel
theorem dSearch_demeritsAlone_46 : decode cSearch_demeritsAlone 46 = .ok (.lmul, 1) := by decide +kernel
theorem dSearch_demeritsAlone_47 : decode cSearch_demeritsAlone 47 = .ok (.lreturn, 1) := by decide +kernel
theorem dSearch_demeritsOfFlags_0 : decode cSearch_demeritsOfFlags 0 = .ok (.aload_n 0, 1) := by decide +kernel
theorem dSearch_demeritsOfFlags_1 : decode cSearch_demeritsOfFlags 1 = .ok (.getfield 42, 3) := by decide +kernel
theorem dSearch_demeritsOfFlags_4 : decode cSearch_demeritsOfFlags 4 = .ok (.getfield 158, 3) := by decide +kernel
theorem dSearch_demeritsOfFlags_7 : decode cSearch_demeritsOfFlags 7 = .ok (.aload_n 0, 1) := by decide +kernel
theorem dSearch_demeritsOfFlags_8 : decode cSearch_demeritsOfFlags 8 = .ok (.getfield 42, 3) := by decide +kernel
theorem dSearch_demeritsOfFlags_11 : decode cSearch_demeritsOfFlags 11 = .ok (.getfield 117, 3) := by decide +kernel
theorem dSearch_demeritsOfFlags_14 : decode cSearch_demeritsOfFlags 14 = .ok (.iload_n 1, 1) := by decide +kernel
theorem dSearch_demeritsOfFlags_15 : decode cSearch_demeritsOfFlags 15 = .ok (.iaload, 1) := by decide +kernel
theorem dSearch_demeritsOfFlags_16 : decode cSearch_demeritsOfFlags 16 = .ok (.invokevirtual 178, 3) := by decide +kernel
theorem dSearch_demeritsOfFlags_19 : decode cSearch_demeritsOfFlags 19 = .ok (.ifCond .ne 5, 3) := by decide +kernel
theorem dSearch_demeritsOfFlags_22 : decode cSearch_demeritsOfFlags 22 = .ok (.iconst 0, 1) := by decide +kernel
theorem dSearch_demeritsOfFlags_23 : decode cSearch_demeritsOfFlags 23 = .ok (.ireturn, 1) := by decide +kernel
theorem dSearch_demeritsOfFlags_24 : decode cSearch_demeritsOfFlags 24 = .ok (.iload_n 2, 1) := by decide +kernel
theorem dSearch_demeritsOfFlags_25 : decode cSearch_demeritsOfFlags 25 = .ok (.aload_n 0, 1) := by decide +kernel
theorem dSearch_demeritsOfFlags_26 : decode cSearch_demeritsOfFlags 26 = .ok (.getfield 42, 3) := by decide +kernel
theorem dSearch_demeritsOfFlags_29 : decode cSearch_demeritsOfFlags 29 = .ok (.getfield 75, 3) := by decide +kernel
theorem dSearch_demeritsOfFlags_32 : decode cSearch_demeritsOfFlags 32 = .ok (.if_icmp .ne 10, 3) := by decide +kernel
theorem dSearch_demeritsOfFlags_35 : decode cSearch_demeritsOfFlags 35 = .ok (.aload_n 0, 1) := by decide +kernel
theorem dSearch_demeritsOfFlags_36 : decode cSearch_demeritsOfFlags 36 = .ok (.getfield 53, 3) := by decide +kernel
theorem dSearch_demeritsOfFlags_39 : decode cSearch_demeritsOfFlags 39 = .ok (.iconst 2, 1) := by decide +kernel
theorem dSearch_demeritsOfFlags_40 : decode cSearch_demeritsOfFlags 40 = .ok (.iaload, 1) := by decide +kernel
theorem dSearch_demeritsOfFlags_41 : decode cSearch_demeritsOfFlags 41 = .ok (.ireturn, 1) := by decide +kernel
theorem dSearch_demeritsOfFlags_42 : decode cSearch_demeritsOfFlags 42 = .ok (.aload_n 0, 1) := by decide +kernel
theorem dSearch_demeritsOfFlags_43 : decode cSearch_demeritsOfFlags 43 = .ok (.getfield 42, 3) := by decide +kernel
theorem dSearch_demeritsOfFlags_46 : decode cSearch_demeritsOfFlags 46 = .ok (.getfield 158, 3) := by decide +kernel
theorem dSearch_demeritsOfFlags_49 : decode cSearch_demeritsOfFlags 49 = .ok (.aload_n 0, 1) := by decide +kernel
theorem dSearch_demeritsOfFlags_50 : decode cSearch_demeritsOfFlags 50 = .ok (.getfield 42, 3) := by decide +kernel
theorem dSearch_demeritsOfFlags_53 : decode cSearch_demeritsOfFlags 53 = .ok (.getfield 117, 3) := by decide +kernel
theorem dSearch_demeritsOfFlags_56 : decode cSearch_demeritsOfFlags 56 = .ok (.iload_n 2, 1) := by decide +kernel
theorem dSearch_demeritsOfFlags_57 : decode cSearch_demeritsOfFlags 57 = .ok (.iaload, 1) := by decide +kernel
theorem dSearch_demeritsOfFlags_58 : decode cSearch_demeritsOfFlags 58 = .ok (.invokevirtual 178, 3) := by decide +kernel
theorem dSearch_demeritsOfFlags_61 : decode cSearch_demeritsOfFlags 61 = .ok (.ifCond .eq 12, 3) := by decide +kernel
theorem dSearch_demeritsOfFlags_64 : decode cSearch_demeritsOfFlags 64 = .ok (.aload_n 0, 1) := by decide +kernel
theorem dSearch_demeritsOfFlags_65 : decode cSearch_demeritsOfFlags 65 = .ok (.getfield 53, 3) := by decide +kernel
theorem dSearch_demeritsOfFlags_68 : decode cSearch_demeritsOfFlags 68 = .ok (.iconst 1, 1) := by decide +kernel
theorem dSearch_demeritsOfFlags_69 : decode cSearch_demeritsOfFlags 69 = .ok (.iaload, 1) := by decide +kernel
theorem dSearch_demeritsOfFlags_70 : decode cSearch_demeritsOfFlags 70 = .ok (.goto 4, 3) := by decide +kernel
theorem dSearch_demeritsOfFlags_73 : decode cSearch_demeritsOfFlags 73 = .ok (.iconst 0, 1) := by decide +kernel
theorem dSearch_demeritsOfFlags_74 : decode cSearch_demeritsOfFlags 74 = .ok (.ireturn, 1) := by decide +kernel
theorem dSearch_noteEnd_0 : decode cSearch_noteEnd 0 = .ok (.iload_n 1, 1) := by decide +kernel
theorem dSearch_noteEnd_1 : decode cSearch_noteEnd 1 = .ok (.iconst 1, 1) := by decide +kernel
theorem dSearch_noteEnd_2 : decode cSearch_noteEnd 2 = .ok (.iadd, 1) := by decide +kernel
theorem dSearch_noteEnd_3 : decode cSearch_noteEnd 3 = .ok (.istore_n 2, 1) := by decide +kernel
theorem dSearch_noteEnd_4 : decode cSearch_noteEnd 4 = .ok (.iconst 0, 1) := by decide +kernel
theorem dSearch_noteEnd_5 : decode cSearch_noteEnd 5 = .ok (.istore_n 3, 1) := by decide +kernel
theorem dSearch_noteEnd_6 : decode cSearch_noteEnd 6 = .ok (.iload_n 3, 1) := by decide +kernel
theorem dSearch_noteEnd_7 : decode cSearch_noteEnd 7 = .ok (.iconst 4, 1) := by decide +kernel
theorem dSearch_noteEnd_8 : decode cSearch_noteEnd 8 = .ok (.if_icmp .ge 97, 3) := by decide +kernel
theorem dSearch_noteEnd_11 : decode cSearch_noteEnd 11 = .ok (.aload_n 0, 1) := by decide +kernel
theorem dSearch_noteEnd_12 : decode cSearch_noteEnd 12 = .ok (.getfield 26, 3) := by decide +kernel
theorem dSearch_noteEnd_15 : decode cSearch_noteEnd 15 = .ok (.aload_n 0, 1) := by decide +kernel
theorem dSearch_noteEnd_16 : decode cSearch_noteEnd 16 = .ok (.getfield 42, 3) := by decide +kernel
theorem dSearch_noteEnd_19 : decode cSearch_noteEnd 19 = .ok (.getfield 75, 3) := by decide +kernel
theorem dSearch_noteEnd_22 : decode cSearch_noteEnd 22 = .ok (.iconst 4, 1) := by decide +kernel
theorem dSearch_noteEnd_23 : decode cSearch_noteEnd 23 = .ok (.imul, 1) := by decide +kernel
theorem dSearch_noteEnd_24 : decode cSearch_noteEnd 24 = .ok (.iload_n 3, 1) := by decide +kernel
theorem dSearch_noteEnd_25 : decode cSearch_noteEnd 25 = .ok (.iadd, 1) := by decide +kernel
theorem dSearch_noteEnd_26 : decode cSearch_noteEnd 26 = .ok (.laload, 1) := by decide +kernel
theorem dSearch_noteEnd_27 : decode cSearch_noteEnd 27 = .ok (.lstore 4, 2) := by decide +kernel
theorem dSearch_noteEnd_29 : decode cSearch_noteEnd 29 = .ok (.lload 4, 2) := by decide +kernel
theorem dSearch_noteEnd_31 : decode cSearch_noteEnd 31 = .ok (.aload_n 0, 1) := by decide +kernel
theorem dSearch_noteEnd_32 : decode cSearch_noteEnd 32 = .ok (.getfield 36, 3) := by decide +kernel
theorem dSearch_noteEnd_35 : decode cSearch_noteEnd 35 = .ok (.iload_n 2, 1) := by decide +kernel
theorem dSearch_noteEnd_36 : decode cSearch_noteEnd 36 = .ok (.laload, 1) := by decide +kernel
theorem dSearch_noteEnd_37 : decode cSearch_noteEnd 37 = .ok (.lcmp, 1) := by decide +kernel
theorem dSearch_noteEnd_38 : decode cSearch_noteEnd 38 = .ok (.ifCond .lt 46, 3) := by decide +kernel
theorem dSearch_noteEnd_41 : decode cSearch_noteEnd 41 = .ok (.lload 4, 2) := by decide +kernel
theorem dSearch_noteEnd_43 : decode cSearch_noteEnd 43 = .ok (.ldc2_w 63, 3) := by decide +kernel
theorem dSearch_noteEnd_46 : decode cSearch_noteEnd 46 = .ok (.lcmp, 1) := by decide +kernel
theorem dSearch_noteEnd_47 : decode cSearch_noteEnd 47 = .ok (.ifCond .eq 52, 3) := by decide +kernel
theorem dSearch_noteEnd_50 : decode cSearch_noteEnd 50 = .ok (.lload 4, 2) := by decide +kernel
theorem dSearch_noteEnd_52 : decode cSearch_noteEnd 52 = .ok (.aload_n 0, 1) := by decide +kernel
theorem dSearch_noteEnd_53 : decode cSearch_noteEnd 53 = .ok (.getfield 36, 3) := by decide +kernel
theorem dSearch_noteEnd_56 : decode cSearch_noteEnd 56 = .ok (.iload_n 2, 1) := by decide +kernel
theorem dSearch_noteEnd_57 : decode cSearch_noteEnd 57 = .ok (.laload, 1) := by decide +kernel
theorem dSearch_noteEnd_58 : decode cSearch_noteEnd 58 = .ok (.lcmp, 1) := by decide +kernel
theorem dSearch_noteEnd_59 : decode cSearch_noteEnd 59 = .ok (.ifCond .ne 40, 3) := by decide +kernel
theorem dSearch_noteEnd_62 : decode cSearch_noteEnd 62 = .ok (.aload_n 0, 1) := by decide +kernel
theorem dSearch_noteEnd_63 : decode cSearch_noteEnd 63 = .ok (.iload_n 1, 1) := by decide +kernel
theorem dSearch_noteEnd_64 : decode cSearch_noteEnd 64 = .ok (.aload_n 0, 1) := by decide +kernel
theorem dSearch_noteEnd_65 : decode cSearch_noteEnd 65 = .ok (.getfield 42, 3) := by decide +kernel
theorem dSearch_noteEnd_68 : decode cSearch_noteEnd 68 = .ok (.getfield 75, 3) := by decide +kernel
theorem dSearch_noteEnd_71 : decode cSearch_noteEnd 71 = .ok (.iload_n 3, 1) := by decide +kernel
theorem dSearch_noteEnd_72 : decode cSearch_noteEnd 72 = .ok (.aload_n 0, 1) := by decide +kernel
theorem dSearch_noteEnd_73 : decode cSearch_noteEnd 73 = .ok (.getfield 39, 3) := by decide +kernel
theorem dSearch_noteEnd_76 : decode cSearch_noteEnd 76 = .ok (.iload_n 2, 1) := by decide +kernel
theorem dSearch_noteEnd_77 : decode cSearch_noteEnd 77 = .ok (.iaload, 1) := by decide +kernel
theorem dSearch_noteEnd_78 : decode cSearch_noteEnd 78 = .ok (.invokevirtual 130, 3) := by decide +kernel
theorem dSearch_noteEnd_81 : decode cSearch_noteEnd 81 = .ok (.ifCond .eq 18, 3) := by decide +kernel
theorem dSearch_noteEnd_84 : decode cSearch_noteEnd 84 = .ok (.aload_n 0, 1) := by decide +kernel
theorem dSearch_noteEnd_85 : decode cSearch_noteEnd 85 = .ok (.getfield 36, 3) := by decide +kernel
theorem dSearch_noteEnd_88 : decode cSearch_noteEnd 88 = .ok (.iload_n 2, 1) := by decide +kernel
theorem dSearch_noteEnd_89 : decode cSearch_noteEnd 89 = .ok (.lload 4, 2) := by decide +kernel
theorem dSearch_noteEnd_91 : decode cSearch_noteEnd 91 = .ok (.lastore, 1) := by decide +kernel
theorem dSearch_noteEnd_92 : decode cSearch_noteEnd 92 = .ok (.aload_n 0, 1) := by decide +kernel
theorem dSearch_noteEnd_93 : decode cSearch_noteEnd 93 = .ok (.getfield 39, 3) := by decide +kernel
theorem dSearch_noteEnd_96 : decode cSearch_noteEnd 96 = .ok (.iload_n 2, 1) := by decide +kernel
theorem dSearch_noteEnd_97 : decode cSearch_noteEnd 97 = .ok (.iload_n 3, 1) := by decide +kernel
theorem dSearch_noteEnd_98 : decode cSearch_noteEnd 98 = .ok (.iastore, 1) := by decide +kernel
theorem dSearch_noteEnd_99 : decode cSearch_noteEnd 99 = .ok (.iinc 3 1, 3) := by decide +kernel
theorem dSearch_noteEnd_102 : decode cSearch_noteEnd 102 = .ok (.goto (-96), 3) := by decide +kernel
theorem dSearch_noteEnd_105 : decode cSearch_noteEnd 105 = .ok (.return_, 1) := by decide +kernel
