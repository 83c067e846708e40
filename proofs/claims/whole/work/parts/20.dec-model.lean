abbrev cMd_init : ByteArray := prog_9_method_1_code
abbrev yMd_init : MethodName := ⟨"OptimalLinesModel", "<init>", "()V"⟩
abbrev wsMd_init : List Cond := Cond.code yMd_init cMd_init 2 none :: om_W
abbrev cMd_thrown : ByteArray := prog_9_method_2_code
abbrev yMd_thrown : MethodName := ⟨"OptimalLinesModel", "thrown", "()I"⟩
abbrev wsMd_thrown : List Cond := Cond.code yMd_thrown cMd_thrown 1 (some .int) :: om_W
abbrev cMd_refused : ByteArray := prog_9_method_3_code
abbrev yMd_refused : MethodName := ⟨"OptimalLinesModel", "refused", "(I)Z"⟩
abbrev wsMd_refused : List Cond := Cond.code yMd_refused cMd_refused 2 (some .boolean) :: om_W
abbrev cMd_isIn : ByteArray := prog_9_method_4_code
abbrev yMd_isIn : MethodName := ⟨"OptimalLinesModel", "isIn", "(III)Z"⟩
abbrev wsMd_isIn : List Cond := Cond.code yMd_isIn cMd_isIn 3 (some .boolean) :: om_W
abbrev cMd_add : ByteArray := prog_9_method_5_code
abbrev yMd_add : MethodName := ⟨"OptimalLinesModel", "add", "(II)I"⟩
abbrev wsMd_add : List Cond := Cond.code yMd_add cMd_add 3 (some .int) :: om_W
abbrev cMd_box : ByteArray := prog_9_method_6_code
abbrev yMd_box : MethodName := ⟨"OptimalLinesModel", "box", "(I)I"⟩
abbrev wsMd_box : List Cond := Cond.code yMd_box cMd_box 2 (some .int) :: om_W
abbrev cMd_glue : ByteArray := prog_9_method_7_code
abbrev yMd_glue : MethodName := ⟨"OptimalLinesModel", "glue", "(IIII)I"⟩
abbrev wsMd_glue : List Cond := Cond.code yMd_glue cMd_glue 7 (some .int) :: om_W
abbrev cMd_penalty : ByteArray := prog_9_method_8_code
abbrev yMd_penalty : MethodName := ⟨"OptimalLinesModel", "penalty", "(IIZ)I"⟩
abbrev wsMd_penalty : List Cond := Cond.code yMd_penalty cMd_penalty 5 (some .int) :: om_W
abbrev cMd_clear : ByteArray := prog_9_method_9_code
abbrev yMd_clear : MethodName := ⟨"OptimalLinesModel", "clear", "()I"⟩
abbrev wsMd_clear : List Cond := Cond.code yMd_clear cMd_clear 2 (some .int) :: om_W
abbrev cMd_width : ByteArray := prog_9_method_10_code
abbrev yMd_width : MethodName := ⟨"OptimalLinesModel", "width", "(II)V"⟩
abbrev wsMd_width : List Cond := Cond.code yMd_width cMd_width 4 none :: om_W
abbrev cMd_isSetting : ByteArray := prog_9_method_11_code
abbrev yMd_isSetting : MethodName := ⟨"OptimalLinesModel", "isSetting", "(II)Z"⟩
abbrev wsMd_isSetting : List Cond := Cond.code yMd_isSetting cMd_isSetting 2 (some .boolean) :: om_W
abbrev cMd_setting : ByteArray := prog_9_method_12_code
abbrev yMd_setting : MethodName := ⟨"OptimalLinesModel", "setting", "(II)I"⟩
abbrev wsMd_setting : List Cond := Cond.code yMd_setting cMd_setting 4 (some .int) :: om_W
abbrev cMd_isBreak : ByteArray := prog_9_method_13_code
abbrev yMd_isBreak : MethodName := ⟨"OptimalLinesModel", "isBreak", "(I)Z"⟩
abbrev wsMd_isBreak : List Cond := Cond.code yMd_isBreak cMd_isBreak 2 (some .boolean) :: om_W
abbrev cMd_costOf : ByteArray := prog_9_method_14_code
abbrev yMd_costOf : MethodName := ⟨"OptimalLinesModel", "costOf", "(I)I"⟩
abbrev wsMd_costOf : List Cond := Cond.code yMd_costOf cMd_costOf 2 (some .int) :: om_W
abbrev cMd_isForced : ByteArray := prog_9_method_15_code
abbrev yMd_isForced : MethodName := ⟨"OptimalLinesModel", "isForced", "(I)Z"⟩
abbrev wsMd_isForced : List Cond := Cond.code yMd_isForced cMd_isForced 2 (some .boolean) :: om_W
abbrev cMd_isFlagged : ByteArray := prog_9_method_16_code
abbrev yMd_isFlagged : MethodName := ⟨"OptimalLinesModel", "isFlagged", "(I)Z"⟩
abbrev wsMd_isFlagged : List Cond := Cond.code yMd_isFlagged cMd_isFlagged 2 (some .boolean) :: om_W
abbrev cMd_firstOf : ByteArray := prog_9_method_17_code
abbrev yMd_firstOf : MethodName := ⟨"OptimalLinesModel", "firstOf", "(II)I"⟩
abbrev wsMd_firstOf : List Cond := Cond.code yMd_firstOf cMd_firstOf 4 (some .int) :: om_W
abbrev cMd_measure : ByteArray := prog_9_method_18_code
abbrev yMd_measure : MethodName := ⟨"OptimalLinesModel", "measure", "(II)V"⟩
abbrev wsMd_measure : List Cond := Cond.code yMd_measure cMd_measure 4 none :: om_W
abbrev cMd_excess : ByteArray := prog_9_method_19_code
abbrev yMd_excess : MethodName := ⟨"OptimalLinesModel", "excess", "(I)J"⟩
abbrev wsMd_excess : List Cond := Cond.code yMd_excess cMd_excess 2 (some .long) :: om_W
abbrev cMd_isTooLong : ByteArray := prog_9_method_20_code
abbrev yMd_isTooLong : MethodName := ⟨"OptimalLinesModel", "isTooLong", "(I)Z"⟩
abbrev wsMd_isTooLong : List Cond := Cond.code yMd_isTooLong cMd_isTooLong 4 (some .boolean) :: om_W
abbrev cMd_badnessOf : ByteArray := prog_9_method_21_code
abbrev yMd_badnessOf : MethodName := ⟨"OptimalLinesModel", "badnessOf", "(JJ)I"⟩
abbrev wsMd_badnessOf : List Cond := Cond.code yMd_badnessOf cMd_badnessOf 6 (some .int) :: om_W
abbrev cMd_badness : ByteArray := prog_9_method_22_code
abbrev yMd_badness : MethodName := ⟨"OptimalLinesModel", "badness", "(I)I"⟩
abbrev wsMd_badness : List Cond := Cond.code yMd_badness cMd_badness 4 (some .int) :: om_W
abbrev cMd_fitness : ByteArray := prog_9_method_23_code
abbrev yMd_fitness : MethodName := ⟨"OptimalLinesModel", "fitness", "(I)I"⟩
abbrev wsMd_fitness : List Cond := Cond.code yMd_fitness cMd_fitness 3 (some .int) :: om_W
abbrev cMd_demerits4 : ByteArray := prog_9_method_24_code
abbrev yMd_demerits4 : MethodName := ⟨"OptimalLinesModel", "demerits", "(IIII)J"⟩
abbrev wsMd_demerits4 : List Cond := Cond.code yMd_demerits4 cMd_demerits4 10 (some .long) :: om_W
abbrev cMd_stateOf : ByteArray := prog_9_method_25_code
abbrev yMd_stateOf : MethodName := ⟨"OptimalLinesModel", "stateOf", "(III)I"⟩
abbrev wsMd_stateOf : List Cond := Cond.code yMd_stateOf cMd_stateOf 3 (some .int) :: om_W
abbrev cMd_breakOf : ByteArray := prog_9_method_26_code
abbrev yMd_breakOf : MethodName := ⟨"OptimalLinesModel", "breakOf", "(I)I"⟩
abbrev wsMd_breakOf : List Cond := Cond.code yMd_breakOf cMd_breakOf 1 (some .int) :: om_W
abbrev cMd_isBefore : ByteArray := prog_9_method_27_code
abbrev yMd_isBefore : MethodName := ⟨"OptimalLinesModel", "isBefore", "(II)Z"⟩
abbrev wsMd_isBefore : List Cond := Cond.code yMd_isBefore cMd_isBefore 5 (some .boolean) :: om_W
abbrev cMd_reach : ByteArray := prog_9_method_28_code
abbrev yMd_reach : MethodName := ⟨"OptimalLinesModel", "reach", "(IJI)V"⟩
abbrev wsMd_reach : List Cond := Cond.code yMd_reach cMd_reach 6 none :: om_W
abbrev cMd_tryLine : ByteArray := prog_9_method_29_code
abbrev yMd_tryLine : MethodName := ⟨"OptimalLinesModel", "tryLine", "(II)V"⟩
abbrev wsMd_tryLine : List Cond := Cond.code yMd_tryLine cMd_tryLine 6 none :: om_W
abbrev cMd_findWays : ByteArray := prog_9_method_30_code
abbrev yMd_findWays : MethodName := ⟨"OptimalLinesModel", "findWays", "()V"⟩
abbrev wsMd_findWays : List Cond := Cond.code yMd_findWays cMd_findWays 3 none :: om_W
abbrev cMd_bestWith : ByteArray := prog_9_method_31_code
abbrev yMd_bestWith : MethodName := ⟨"OptimalLinesModel", "bestWith", "(I)I"⟩
abbrev wsMd_bestWith : List Cond := Cond.code yMd_bestWith cMd_bestWith 6 (some .int) :: om_W
abbrev cMd_bestOfAll : ByteArray := prog_9_method_32_code
abbrev yMd_bestOfAll : MethodName := ⟨"OptimalLinesModel", "bestOfAll", "()I"⟩
abbrev wsMd_bestOfAll : List Cond := Cond.code yMd_bestOfAll cMd_bestOfAll 4 (some .int) :: om_W
abbrev cMd_far : ByteArray := prog_9_method_33_code
abbrev yMd_far : MethodName := ⟨"OptimalLinesModel", "far", "(II)I"⟩
abbrev wsMd_far : List Cond := Cond.code yMd_far cMd_far 2 (some .int) :: om_W
abbrev cMd_wanted : ByteArray := prog_9_method_34_code
abbrev yMd_wanted : MethodName := ⟨"OptimalLinesModel", "wanted", "(I)I"⟩
abbrev wsMd_wanted : List Cond := Cond.code yMd_wanted cMd_wanted 5 (some .int) :: om_W
abbrev cMd_linesOf : ByteArray := prog_9_method_35_code
abbrev yMd_linesOf : MethodName := ⟨"OptimalLinesModel", "linesOf", "(I)I"⟩
abbrev wsMd_linesOf : List Cond := Cond.code yMd_linesOf cMd_linesOf 1 (some .int) :: om_W
abbrev cMd_passes : ByteArray := prog_9_method_36_code
abbrev yMd_passes : MethodName := ⟨"OptimalLinesModel", "passes", "(IZII)Z"⟩
abbrev wsMd_passes : List Cond := Cond.code yMd_passes cMd_passes 8 (some .boolean) :: om_W
abbrev cMd_emergencyBreak : ByteArray := prog_9_method_37_code
abbrev yMd_emergencyBreak : MethodName := ⟨"OptimalLinesModel", "emergencyBreak", "(II)I"⟩
abbrev wsMd_emergencyBreak : List Cond := Cond.code yMd_emergencyBreak cMd_emergencyBreak 7 (some .int) :: om_W
abbrev cMd_emergency : ByteArray := prog_9_method_38_code
abbrev yMd_emergency : MethodName := ⟨"OptimalLinesModel", "emergency", "()V"⟩
abbrev wsMd_emergency : List Cond := Cond.code yMd_emergency cMd_emergency 2 none :: om_W
abbrev cMd_breakUp : ByteArray := prog_9_method_39_code
abbrev yMd_breakUp : MethodName := ⟨"OptimalLinesModel", "breakUp", "()I"⟩
abbrev wsMd_breakUp : List Cond := Cond.code yMd_breakUp cMd_breakUp 2 (some .int) :: om_W
abbrev cMd_isWrong : ByteArray := prog_9_method_40_code
abbrev yMd_isWrong : MethodName := ⟨"OptimalLinesModel", "isWrong", "(Z)Z"⟩
abbrev wsMd_isWrong : List Cond := Cond.code yMd_isWrong cMd_isWrong 2 (some .boolean) :: om_W
abbrev cMd_pass : ByteArray := prog_9_method_41_code
abbrev yMd_pass : MethodName := ⟨"OptimalLinesModel", "pass", "()I"⟩
abbrev wsMd_pass : List Cond := Cond.code yMd_pass cMd_pass 1 (some .int) :: om_W
abbrev cMd_demerits : ByteArray := prog_9_method_42_code
abbrev yMd_demerits : MethodName := ⟨"OptimalLinesModel", "demerits", "()J"⟩
abbrev wsMd_demerits : List Cond := Cond.code yMd_demerits cMd_demerits 1 (some .long) :: om_W
abbrev cMd_before : ByteArray := prog_9_method_43_code
abbrev yMd_before : MethodName := ⟨"OptimalLinesModel", "before", "(I)I"⟩
abbrev wsMd_before : List Cond := Cond.code yMd_before cMd_before 2 (some .int) :: om_W
abbrev cMd_line : ByteArray := prog_9_method_44_code
abbrev yMd_line : MethodName := ⟨"OptimalLinesModel", "line", "(II)I"⟩
abbrev wsMd_line : List Cond := Cond.code yMd_line cMd_line 4 (some .int) :: om_W
abbrev cMd_over : ByteArray := prog_9_method_45_code
abbrev yMd_over : MethodName := ⟨"OptimalLinesModel", "over", "()I"⟩
abbrev wsMd_over : List Cond := Cond.code yMd_over cMd_over 3 (some .int) :: om_W
abbrev cMd_find : ByteArray := prog_9_method_46_code
abbrev yMd_find : MethodName := ⟨"OptimalLinesModel", "find", "(I)I"⟩
abbrev wsMd_find : List Cond := Cond.code yMd_find cMd_find 4 (some .int) :: om_W
abbrev cMd_lineOf : ByteArray := prog_9_method_47_code
abbrev yMd_lineOf : MethodName := ⟨"OptimalLinesModel", "lineOf", "(I)I"⟩
abbrev wsMd_lineOf : List Cond := Cond.code yMd_lineOf cMd_lineOf 2 (some .int) :: om_W
abbrev cMd_part : ByteArray := prog_9_method_48_code
abbrev yMd_part : MethodName := ⟨"OptimalLinesModel", "part", "(IJ)J"⟩
abbrev wsMd_part : List Cond := Cond.code yMd_part cMd_part 6 (some .long) :: om_W
abbrev cMd_place : ByteArray := prog_9_method_49_code
abbrev yMd_place : MethodName := ⟨"OptimalLinesModel", "place", "(I)I"⟩
abbrev wsMd_place : List Cond := Cond.code yMd_place cMd_place 8 (some .int) :: om_W
theorem dMd_init_0 : decode cMd_init 0 = .ok (.aload_n 0, 1) := by decide +kernel
theorem dMd_init_1 : decode cMd_init 1 = .ok (.invokespecial 1, 3) := by decide +kernel
theorem dMd_init_4 : decode cMd_init 4 = .ok (.aload_n 0, 1) := by decide +kernel
theorem dMd_init_5 : decode cMd_init 5 = .ok (.sipush 400, 3) := by decide +kernel
theorem dMd_init_8 : decode cMd_init 8 = .ok (.newarray .int, 2) := by decide +kernel
theorem dMd_init_10 : decode cMd_init 10 = .ok (.putfield 7, 3) := by decide +kernel
theorem dMd_init_13 : decode cMd_init 13 = .ok (.aload_n 0, 1) := by decide +kernel
theorem dMd_init_14 : decode cMd_init 14 = .ok (.sipush 400, 3) := by decide +kernel
theorem dMd_init_17 : decode cMd_init 17 = .ok (.newarray .int, 2) := by decide +kernel
theorem dMd_init_19 : decode cMd_init 19 = .ok (.putfield 13, 3) := by decide +kernel
theorem dMd_init_22 : decode cMd_init 22 = .ok (.aload_n 0, 1) := by decide +kernel
theorem dMd_init_23 : decode cMd_init 23 = .ok (.sipush 400, 3) := by decide +kernel
theorem dMd_init_26 : decode cMd_init 26 = .ok (.newarray .int, 2) := by decide +kernel
theorem dMd_init_28 : decode cMd_init 28 = .ok (.putfield 16, 3) := by decide +kernel
theorem dMd_init_31 : decode cMd_init 31 = .ok (.aload_n 0, 1) := by decide +kernel
theorem dMd_init_32 : decode cMd_init 32 = .ok (.sipush 400, 3) := by decide +kernel
theorem dMd_init_35 : decode cMd_init 35 = .ok (.newarray .int, 2) := by decide +kernel
theorem dMd_init_37 : decode cMd_init 37 = .ok (.putfield 19, 3) := by decide +kernel
theorem dMd_init_40 : decode cMd_init 40 = .ok (.aload_n 0, 1) := by decide +kernel
theorem dMd_init_41 : decode cMd_init 41 = .ok (.sipush 400, 3) := by decide +kernel
theorem dMd_init_44 : decode cMd_init 44 = .ok (.newarray .int, 2) := by decide +kernel
theorem dMd_init_46 : decode cMd_init 46 = .ok (.putfield 22, 3) := by decide +kernel
theorem dMd_init_49 : decode cMd_init 49 = .ok (.aload_n 0, 1) := by decide +kernel
theorem dMd_init_50 : decode cMd_init 50 = .ok (.sipush 400, 3) := by decide +kernel
theorem dMd_init_53 : decode cMd_init 53 = .ok (.newarray .int, 2) := by decide +kernel
theorem dMd_init_55 : decode cMd_init 55 = .ok (.putfield 25, 3) := by decide +kernel
theorem dMd_init_58 : decode cMd_init 58 = .ok (.aload_n 0, 1) := by decide +kernel
theorem dMd_init_59 : decode cMd_init 59 = .ok (.sipush 400, 3) := by decide +kernel
theorem dMd_init_62 : decode cMd_init 62 = .ok (.newarray .boolean, 2) := by decide +kernel
theorem dMd_init_64 : decode cMd_init 64 = .ok (.putfield 28, 3) := by decide +kernel
theorem dMd_init_67 : decode cMd_init 67 = .ok (.aload_n 0, 1) := by decide +kernel
theorem dMd_init_68 : decode cMd_init 68 = .ok (.bipush 41, 2) := by decide +kernel
theorem dMd_init_70 : decode cMd_init 70 = .ok (.newarray .int, 2) := by decide +kernel
theorem dMd_init_72 : decode cMd_init 72 = .ok (.putfield 32, 3) := by decide +kernel
theorem dMd_init_75 : decode cMd_init 75 = .ok (.aload_n 0, 1) := by decide +kernel
theorem dMd_init_76 : decode cMd_init 76 = .ok (.bipush 8, 2) := by decide +kernel
theorem dMd_init_78 : decode cMd_init 78 = .ok (.newarray .int, 2) := by decide +kernel
theorem dMd_init_80 : decode cMd_init 80 = .ok (.putfield 35, 3) := by decide +kernel
theorem dMd_init_83 : decode cMd_init 83 = .ok (.aload_n 0, 1) := by decide +kernel
theorem dMd_init_84 : decode cMd_init 84 = .ok (.sipush 402, 3) := by decide +kernel
theorem dMd_init_87 : decode cMd_init 87 = .ok (.newarray .int, 2) := by decide +kernel
theorem dMd_init_89 : decode cMd_init 89 = .ok (.putfield 38, 3) := by decide +kernel
theorem dMd_init_92 : decode cMd_init 92 = .ok (.aload_n 0, 1) := by decide +kernel
theorem dMd_init_93 : decode cMd_init 93 = .ok (.ldc 41, 2) := by decide +kernel
theorem dMd_init_95 : decode cMd_init 95 = .ok (.newarray .boolean, 2) := by decide +kernel
theorem dMd_init_97 : decode cMd_init 97 = .ok (.putfield 42, 3) := by decide +kernel
theorem dMd_init_100 : decode cMd_init 100 = .ok (.aload_n 0, 1) := by decide +kernel
theorem dMd_init_101 : decode cMd_init 101 = .ok (.ldc 41, 2) := by decide +kernel
theorem dMd_init_103 : decode cMd_init 103 = .ok (.newarray .long, 2) := by decide +kernel
theorem dMd_init_105 : decode cMd_init 105 = .ok (.putfield 45, 3) := by decide +kernel
theorem dMd_init_108 : decode cMd_init 108 = .ok (.aload_n 0, 1) := by decide +kernel
theorem dMd_init_109 : decode cMd_init 109 = .ok (.ldc 41, 2) := by decide +kernel
theorem dMd_init_111 : decode cMd_init 111 = .ok (.newarray .int, 2) := by decide +kernel
theorem dMd_init_113 : decode cMd_init 113 = .ok (.putfield 49, 3) := by decide +kernel
theorem dMd_init_116 : decode cMd_init 116 = .ok (.iconst 0, 1) := by decide +kernel
theorem dMd_init_117 : decode cMd_init 117 = .ok (.istore_n 1, 1) := by decide +kernel
theorem dMd_init_118 : decode cMd_init 118 = .ok (.iload_n 1, 1) := by decide +kernel
theorem dMd_init_119 : decode cMd_init 119 = .ok (.bipush 41, 2) := by decide +kernel
theorem dMd_init_121 : decode cMd_init 121 = .ok (.if_icmp .ge 18, 3) := by decide +kernel
theorem dMd_init_124 : decode cMd_init 124 = .ok (.aload_n 0, 1) := by decide +kernel
theorem dMd_init_125 : decode cMd_init 125 = .ok (.getfield 32, 3) := by decide +kernel
theorem dMd_init_128 : decode cMd_init 128 = .ok (.iload_n 1, 1) := by decide +kernel
theorem dMd_init_129 : decode cMd_init 129 = .ok (.sipush 1000, 3) := by decide +kernel
theorem dMd_init_132 : decode cMd_init 132 = .ok (.iastore, 1) := by decide +kernel
theorem dMd_init_133 : decode cMd_init 133 = .ok (.iinc 1 1, 3) := by decide +kernel
theorem dMd_init_136 : decode cMd_init 136 = .ok (.goto (-18), 3) := by decide +kernel
theorem dMd_init_139 : decode cMd_init 139 = .ok (.aload_n 0, 1) := by decide +kernel
theorem dMd_init_140 : decode cMd_init 140 = .ok (.getfield 35, 3) := by decide +kernel
theorem dMd_init_143 : decode cMd_init 143 = .ok (.iconst 0, 1) := by decide +kernel
theorem dMd_init_144 : decode cMd_init 144 = .ok (.bipush 10, 2) := by decide +kernel
theorem dMd_init_146 : decode cMd_init 146 = .ok (.iastore, 1) := by decide +kernel
theorem dMd_init_147 : decode cMd_init 147 = .ok (.aload_n 0, 1) := by decide +kernel
theorem dMd_init_148 : decode cMd_init 148 = .ok (.getfield 35, 3) := by decide +kernel
theorem dMd_init_151 : decode cMd_init 151 = .ok (.iconst 1, 1) := by decide +kernel
theorem dMd_init_152 : decode cMd_init 152 = .ok (.sipush 10000, 3) := by decide +kernel
theorem dMd_init_155 : decode cMd_init 155 = .ok (.iastore, 1) := by decide +kernel
theorem dMd_init_156 : decode cMd_init 156 = .ok (.aload_n 0, 1) := by decide +kernel
theorem dMd_init_157 : decode cMd_init 157 = .ok (.getfield 35, 3) := by decide +kernel
theorem dMd_init_160 : decode cMd_init 160 = .ok (.iconst 2, 1) := by decide +kernel
theorem dMd_init_161 : decode cMd_init 161 = .ok (.sipush 5000, 3) := by decide +kernel
theorem dMd_init_164 : decode cMd_init 164 = .ok (.iastore, 1) := by decide +kernel
theorem dMd_init_165 : decode cMd_init 165 = .ok (.aload_n 0, 1) := by decide +kernel
theorem dMd_init_166 : decode cMd_init 166 = .ok (.getfield 35, 3) := by decide +kernel
theorem dMd_init_169 : decode cMd_init 169 = .ok (.iconst 3, 1) := by decide +kernel
theorem dMd_init_170 : decode cMd_init 170 = .ok (.sipush 10000, 3) := by decide +kernel
theorem dMd_init_173 : decode cMd_init 173 = .ok (.iastore, 1) := by decide +kernel
theorem dMd_init_174 : decode cMd_init 174 = .ok (.aload_n 0, 1) := by decide +kernel
theorem dMd_init_175 : decode cMd_init 175 = .ok (.getfield 35, 3) := by decide +kernel
theorem dMd_init_178 : decode cMd_init 178 = .ok (.iconst 4, 1) := by decide +kernel
theorem dMd_init_179 : decode cMd_init 179 = .ok (.bipush 100, 2) := by decide +kernel
theorem dMd_init_181 : decode cMd_init 181 = .ok (.iastore, 1) := by decide +kernel
theorem dMd_init_182 : decode cMd_init 182 = .ok (.aload_n 0, 1) := by decide +kernel
theorem dMd_init_183 : decode cMd_init 183 = .ok (.getfield 35, 3) := by decide +kernel
theorem dMd_init_186 : decode cMd_init 186 = .ok (.iconst 5, 1) := by decide +kernel
theorem dMd_init_187 : decode cMd_init 187 = .ok (.sipush 200, 3) := by decide +kernel
theorem dMd_init_190 : decode cMd_init 190 = .ok (.iastore, 1) := by decide +kernel
theorem dMd_init_191 : decode cMd_init 191 = .ok (.return_, 1) := by decide +kernel
theorem dMd_thrown_0 : decode cMd_thrown 0 = .ok (.aload_n 0, 1) := by decide +kernel
theorem dMd_thrown_1 : decode cMd_thrown 1 = .ok (.getfield 52, 3) := by decide +kernel
theorem dMd_thrown_4 : decode cMd_thrown 4 = .ok (.ireturn, 1) := by decide +kernel
theorem dMd_refused_0 : decode cMd_refused 0 = .ok (.aload_n 0, 1) := by decide +kernel
theorem dMd_refused_1 : decode cMd_refused 1 = .ok (.iload_n 1, 1) := by decide +kernel
theorem dMd_refused_2 : decode cMd_refused 2 = .ok (.putfield 52, 3) := by decide +kernel
theorem dMd_refused_5 : decode cMd_refused 5 = .ok (.iload_n 1, 1) := by decide +kernel
theorem dMd_refused_6 : decode cMd_refused 6 = .ok (.ifCond .le 7, 3) := by decide +kernel
theorem dMd_refused_9 : decode cMd_refused 9 = .ok (.iconst 1, 1) := by decide +kernel
theorem dMd_refused_10 : decode cMd_refused 10 = .ok (.goto 4, 3) := by decide +kernel
theorem dMd_refused_13 : decode cMd_refused 13 = .ok (.iconst 0, 1) := by decide +kernel
theorem dMd_refused_14 : decode cMd_refused 14 = .ok (.ireturn, 1) := by decide +kernel
theorem dMd_isIn_0 : decode cMd_isIn 0 = .ok (.iload_n 0, 1) := by decide +kernel
theorem dMd_isIn_1 : decode cMd_isIn 1 = .ok (.iload_n 1, 1) := by decide +kernel
theorem dMd_isIn_2 : decode cMd_isIn 2 = .ok (.if_icmp .lt 12, 3) := by decide +kernel
theorem dMd_isIn_5 : decode cMd_isIn 5 = .ok (.iload_n 0, 1) := by decide +kernel
theorem dMd_isIn_6 : decode cMd_isIn 6 = .ok (.iload_n 2, 1) := by decide +kernel
theorem dMd_isIn_7 : decode cMd_isIn 7 = .ok (.if_icmp .gt 7, 3) := by decide +kernel
theorem dMd_isIn_10 : decode cMd_isIn 10 = .ok (.iconst 1, 1) := by decide +kernel
theorem dMd_isIn_11 : decode cMd_isIn 11 = .ok (.goto 4, 3) := by decide +kernel
theorem dMd_isIn_14 : decode cMd_isIn 14 = .ok (.iconst 0, 1) := by decide +kernel
theorem dMd_isIn_15 : decode cMd_isIn 15 = .ok (.ireturn, 1) := by decide +kernel
theorem dMd_add_0 : decode cMd_add 0 = .ok (.aload_n 0, 1) := by decide +kernel
theorem dMd_add_1 : decode cMd_add 1 = .ok (.getfield 7, 3) := by decide +kernel
theorem dMd_add_4 : decode cMd_add 4 = .ok (.aload_n 0, 1) := by decide +kernel
theorem dMd_add_5 : decode cMd_add 5 = .ok (.getfield 56, 3) := by decide +kernel
theorem dMd_add_8 : decode cMd_add 8 = .ok (.iload_n 1, 1) := by decide +kernel
theorem dMd_add_9 : decode cMd_add 9 = .ok (.iastore, 1) := by decide +kernel
theorem dMd_add_10 : decode cMd_add 10 = .ok (.aload_n 0, 1) := by decide +kernel
theorem dMd_add_11 : decode cMd_add 11 = .ok (.getfield 13, 3) := by decide +kernel
theorem dMd_add_14 : decode cMd_add 14 = .ok (.aload_n 0, 1) := by decide +kernel
theorem dMd_add_15 : decode cMd_add 15 = .ok (.getfield 56, 3) := by decide +kernel
theorem dMd_add_18 : decode cMd_add 18 = .ok (.iload_n 2, 1) := by decide +kernel
theorem dMd_add_19 : decode cMd_add 19 = .ok (.iastore, 1) := by decide +kernel
theorem dMd_add_20 : decode cMd_add 20 = .ok (.aload_n 0, 1) := by decide +kernel
theorem dMd_add_21 : decode cMd_add 21 = .ok (.getfield 16, 3) := by decide +kernel
theorem dMd_add_24 : decode cMd_add 24 = .ok (.aload_n 0, 1) := by decide +kernel
theorem dMd_add_25 : decode cMd_add 25 = .ok (.getfield 56, 3) := by decide +kernel
theorem dMd_add_28 : decode cMd_add 28 = .ok (.iconst 0, 1) := by decide +kernel
theorem dMd_add_29 : decode cMd_add 29 = .ok (.iastore, 1) := by decide +kernel
theorem dMd_add_30 : decode cMd_add 30 = .ok (.aload_n 0, 1) := by decide +kernel
theorem dMd_add_31 : decode cMd_add 31 = .ok (.getfield 19, 3) := by decide +kernel
theorem dMd_add_34 : decode cMd_add 34 = .ok (.aload_n 0, 1) := by decide +kernel
theorem dMd_add_35 : decode cMd_add 35 = .ok (.getfield 56, 3) := by decide +kernel
theorem dMd_add_38 : decode cMd_add 38 = .ok (.iconst 0, 1) := by decide +kernel
theorem dMd_add_39 : decode cMd_add 39 = .ok (.iastore, 1) := by decide +kernel
theorem dMd_add_40 : decode cMd_add 40 = .ok (.aload_n 0, 1) := by decide +kernel
theorem dMd_add_41 : decode cMd_add 41 = .ok (.getfield 22, 3) := by decide +kernel
theorem dMd_add_44 : decode cMd_add 44 = .ok (.aload_n 0, 1) := by decide +kernel
theorem dMd_add_45 : decode cMd_add 45 = .ok (.getfield 56, 3) := by decide +kernel
theorem dMd_add_48 : decode cMd_add 48 = .ok (.iconst 0, 1) := by decide +kernel
theorem dMd_add_49 : decode cMd_add 49 = .ok (.iastore, 1) := by decide +kernel
theorem dMd_add_50 : decode cMd_add 50 = .ok (.aload_n 0, 1) := by decide +kernel
theorem dMd_add_51 : decode cMd_add 51 = .ok (.getfield 25, 3) := by decide +kernel
theorem dMd_add_54 : decode cMd_add 54 = .ok (.aload_n 0, 1) := by decide +kernel
theorem dMd_add_55 : decode cMd_add 55 = .ok (.getfield 56, 3) := by decide +kernel
theorem dMd_add_58 : decode cMd_add 58 = .ok (.iconst 0, 1) := by decide +kernel
theorem dMd_add_59 : decode cMd_add 59 = .ok (.iastore, 1) := by decide +kernel
theorem dMd_add_60 : decode cMd_add 60 = .ok (.aload_n 0, 1) := by decide +kernel
theorem dMd_add_61 : decode cMd_add 61 = .ok (.getfield 28, 3) := by decide +kernel
theorem dMd_add_64 : decode cMd_add 64 = .ok (.aload_n 0, 1) := by decide +kernel
theorem dMd_add_65 : decode cMd_add 65 = .ok (.getfield 56, 3) := by decide +kernel
theorem dMd_add_68 : decode cMd_add 68 = .ok (.iconst 0, 1) := by decide +kernel
theorem dMd_add_69 : decode cMd_add 69 = .ok (.bastore, 1) := by decide +kernel
theorem dMd_add_70 : decode cMd_add 70 = .ok (.aload_n 0, 1) := by decide +kernel
theorem dMd_add_71 : decode cMd_add 71 = .ok (.dup, 1) := by decide +kernel
theorem dMd_add_72 : decode cMd_add 72 = .ok (.getfield 56, 3) := by decide +kernel
theorem dMd_add_75 : decode cMd_add 75 = .ok (.iconst 1, 1) := by decide +kernel
theorem dMd_add_76 : decode cMd_add 76 = .ok (.iadd, 1) := by decide +kernel
theorem dMd_add_77 : decode cMd_add 77 = .ok (.putfield 56, 3) := by decide +kernel
theorem dMd_add_80 : decode cMd_add 80 = .ok (.aload_n 0, 1) := by decide +kernel
theorem dMd_add_81 : decode cMd_add 81 = .ok (.iconst 0, 1) := by decide +kernel
theorem dMd_add_82 : decode cMd_add 82 = .ok (.putfield 59, 3) := by decide +kernel
theorem dMd_add_85 : decode cMd_add 85 = .ok (.aload_n 0, 1) := by decide +kernel
theorem dMd_add_86 : decode cMd_add 86 = .ok (.getfield 56, 3) := by decide +kernel
theorem dMd_add_89 : decode cMd_add 89 = .ok (.iconst 1, 1) := by decide +kernel
theorem dMd_add_90 : decode cMd_add 90 = .ok (.isub, 1) := by decide +kernel
theorem dMd_add_91 : decode cMd_add 91 = .ok (.ireturn, 1) := by decide +kernel
theorem dMd_box_0 : decode cMd_box 0 = .ok (.aload_n 0, 1) := by decide +kernel
theorem dMd_box_1 : decode cMd_box 1 = .ok (.iload_n 1, 1) := by decide +kernel
theorem dMd_box_2 : decode cMd_box 2 = .ok (.iconst 0, 1) := by decide +kernel
theorem dMd_box_3 : decode cMd_box 3 = .ok (.ldc 63, 2) := by decide +kernel
theorem dMd_box_5 : decode cMd_box 5 = .ok (.invokestatic 64, 3) := by decide +kernel
theorem dMd_box_8 : decode cMd_box 8 = .ok (.ifCond .ne 7, 3) := by decide +kernel
theorem dMd_box_11 : decode cMd_box 11 = .ok (.iconst 1, 1) := by decide +kernel
theorem dMd_box_12 : decode cMd_box 12 = .ok (.goto 18, 3) := by decide +kernel
theorem dMd_box_15 : decode cMd_box 15 = .ok (.aload_n 0, 1) := by decide +kernel
theorem dMd_box_16 : decode cMd_box 16 = .ok (.getfield 56, 3) := by decide +kernel
theorem dMd_box_19 : decode cMd_box 19 = .ok (.sipush 400, 3) := by decide +kernel
theorem dMd_box_22 : decode cMd_box 22 = .ok (.if_icmp .ne 7, 3) := by decide +kernel
theorem dMd_box_25 : decode cMd_box 25 = .ok (.iconst 2, 1) := by decide +kernel
theorem dMd_box_26 : decode cMd_box 26 = .ok (.goto 4, 3) := by decide +kernel
theorem dMd_box_29 : decode cMd_box 29 = .ok (.iconst 0, 1) := by decide +kernel
theorem dMd_box_30 : decode cMd_box 30 = .ok (.invokevirtual 68, 3) := by decide +kernel
theorem dMd_box_33 : decode cMd_box 33 = .ok (.ifCond .eq 7, 3) := by decide +kernel
theorem dMd_box_36 : decode cMd_box 36 = .ok (.iconst 0, 1) := by decide +kernel
theorem dMd_box_37 : decode cMd_box 37 = .ok (.goto 9, 3) := by decide +kernel
theorem dMd_box_40 : decode cMd_box 40 = .ok (.aload_n 0, 1) := by decide +kernel
theorem dMd_box_41 : decode cMd_box 41 = .ok (.iconst 0, 1) := by decide +kernel
theorem dMd_box_42 : decode cMd_box 42 = .ok (.iload_n 1, 1) := by decide +kernel
theorem dMd_box_43 : decode cMd_box 43 = .ok (.invokevirtual 72, 3) := by decide +kernel
theorem dMd_box_46 : decode cMd_box 46 = .ok (.ireturn, 1) := by decide +kernel
theorem dMd_glue_0 : decode cMd_glue 0 = .ok (.iload_n 1, 1) := by decide +kernel
theorem dMd_glue_1 : decode cMd_glue 1 = .ok (.iconst 0, 1) := by decide +kernel
theorem dMd_glue_2 : decode cMd_glue 2 = .ok (.ldc 63, 2) := by decide +kernel
theorem dMd_glue_4 : decode cMd_glue 4 = .ok (.invokestatic 64, 3) := by decide +kernel
theorem dMd_glue_7 : decode cMd_glue 7 = .ok (.ifCond .eq 38, 3) := by decide +kernel
theorem dMd_glue_10 : decode cMd_glue 10 = .ok (.iload_n 2, 1) := by decide +kernel
theorem dMd_glue_11 : decode cMd_glue 11 = .ok (.iconst 0, 1) := by decide +kernel
theorem dMd_glue_12 : decode cMd_glue 12 = .ok (.ldc 63, 2) := by decide +kernel
theorem dMd_glue_14 : decode cMd_glue 14 = .ok (.invokestatic 64, 3) := by decide +kernel
theorem dMd_glue_17 : decode cMd_glue 17 = .ok (.ifCond .eq 28, 3) := by decide +kernel
theorem dMd_glue_20 : decode cMd_glue 20 = .ok (.iload_n 3, 1) := by decide +kernel
theorem dMd_glue_21 : decode cMd_glue 21 = .ok (.iconst 0, 1) := by decide +kernel
theorem dMd_glue_22 : decode cMd_glue 22 = .ok (.ldc 63, 2) := by decide +kernel
theorem dMd_glue_24 : decode cMd_glue 24 = .ok (.invokestatic 64, 3) := by decide +kernel
theorem dMd_glue_27 : decode cMd_glue 27 = .ok (.ifCond .eq 18, 3) := by decide +kernel
theorem dMd_glue_30 : decode cMd_glue 30 = .ok (.iload 4, 2) := by decide +kernel
theorem dMd_glue_32 : decode cMd_glue 32 = .ok (.iconst 0, 1) := by decide +kernel
theorem dMd_glue_33 : decode cMd_glue 33 = .ok (.bipush 100, 2) := by decide +kernel
theorem dMd_glue_35 : decode cMd_glue 35 = .ok (.invokestatic 64, 3) := by decide +kernel
theorem dMd_glue_38 : decode cMd_glue 38 = .ok (.ifCond .eq 7, 3) := by decide +kernel
theorem dMd_glue_41 : decode cMd_glue 41 = .ok (.iconst 1, 1) := by decide +kernel
theorem dMd_glue_42 : decode cMd_glue 42 = .ok (.goto 4, 3) := by decide +kernel
theorem dMd_glue_45 : decode cMd_glue 45 = .ok (.iconst 0, 1) := by decide +kernel
theorem dMd_glue_46 : decode cMd_glue 46 = .ok (.istore 5, 2) := by decide +kernel
theorem dMd_glue_48 : decode cMd_glue 48 = .ok (.aload_n 0, 1) := by decide +kernel
theorem dMd_glue_49 : decode cMd_glue 49 = .ok (.iload 5, 2) := by decide +kernel
theorem dMd_glue_51 : decode cMd_glue 51 = .ok (.ifCond .ne 7, 3) := by decide +kernel
theorem dMd_glue_54 : decode cMd_glue 54 = .ok (.iconst 1, 1) := by decide +kernel
theorem dMd_glue_55 : decode cMd_glue 55 = .ok (.goto 18, 3) := by decide +kernel
theorem dMd_glue_58 : decode cMd_glue 58 = .ok (.aload_n 0, 1) := by decide +kernel
theorem dMd_glue_59 : decode cMd_glue 59 = .ok (.getfield 56, 3) := by decide +kernel
theorem dMd_glue_62 : decode cMd_glue 62 = .ok (.sipush 400, 3) := by decide +kernel
theorem dMd_glue_65 : decode cMd_glue 65 = .ok (.if_icmp .ne 7, 3) := by decide +kernel
theorem dMd_glue_68 : decode cMd_glue 68 = .ok (.iconst 2, 1) := by decide +kernel
theorem dMd_glue_69 : decode cMd_glue 69 = .ok (.goto 4, 3) := by decide +kernel
theorem dMd_glue_72 : decode cMd_glue 72 = .ok (.iconst 0, 1) := by decide +kernel
theorem dMd_glue_73 : decode cMd_glue 73 = .ok (.invokevirtual 68, 3) := by decide +kernel
theorem dMd_glue_76 : decode cMd_glue 76 = .ok (.ifCond .eq 5, 3) := by decide +kernel
theorem dMd_glue_79 : decode cMd_glue 79 = .ok (.iconst 0, 1) := by decide +kernel
theorem dMd_glue_80 : decode cMd_glue 80 = .ok (.ireturn, 1) := by decide +kernel
theorem dMd_glue_81 : decode cMd_glue 81 = .ok (.aload_n 0, 1) := by decide +kernel
theorem dMd_glue_82 : decode cMd_glue 82 = .ok (.iconst 1, 1) := by decide +kernel
theorem dMd_glue_83 : decode cMd_glue 83 = .ok (.iload_n 1, 1) := by decide +kernel
theorem dMd_glue_84 : decode cMd_glue 84 = .ok (.invokevirtual 72, 3) := by decide +kernel
theorem dMd_glue_87 : decode cMd_glue 87 = .ok (.istore 6, 2) := by decide +kernel
theorem dMd_glue_89 : decode cMd_glue 89 = .ok (.aload_n 0, 1) := by decide +kernel
theorem dMd_glue_90 : decode cMd_glue 90 = .ok (.getfield 16, 3) := by decide +kernel
theorem dMd_glue_93 : decode cMd_glue 93 = .ok (.iload 6, 2) := by decide +kernel
theorem dMd_glue_95 : decode cMd_glue 95 = .ok (.iload_n 2, 1) := by decide +kernel
theorem dMd_glue_96 : decode cMd_glue 96 = .ok (.iastore, 1) := by decide +kernel
theorem dMd_glue_97 : decode cMd_glue 97 = .ok (.aload_n 0, 1) := by decide +kernel
theorem dMd_glue_98 : decode cMd_glue 98 = .ok (.getfield 19, 3) := by decide +kernel
theorem dMd_glue_101 : decode cMd_glue 101 = .ok (.iload 6, 2) := by decide +kernel
theorem dMd_glue_103 : decode cMd_glue 103 = .ok (.iload_n 3, 1) := by decide +kernel
theorem dMd_glue_104 : decode cMd_glue 104 = .ok (.iastore, 1) := by decide +kernel
theorem dMd_glue_105 : decode cMd_glue 105 = .ok (.aload_n 0, 1) := by decide +kernel
theorem dMd_glue_106 : decode cMd_glue 106 = .ok (.getfield 22, 3) := by decide +kernel
theorem dMd_glue_109 : decode cMd_glue 109 = .ok (.iload 6, 2) := by decide +kernel
theorem dMd_glue_111 : decode cMd_glue 111 = .ok (.iload 4, 2) := by decide +kernel
theorem dMd_glue_113 : decode cMd_glue 113 = .ok (.iastore, 1) := by decide +kernel
theorem dMd_glue_114 : decode cMd_glue 114 = .ok (.iload 6, 2) := by decide +kernel
theorem dMd_glue_116 : decode cMd_glue 116 = .ok (.ireturn, 1) := by decide +kernel
theorem dMd_penalty_0 : decode cMd_penalty 0 = .ok (.aload_n 0, 1) := by decide +kernel
theorem dMd_penalty_1 : decode cMd_penalty 1 = .ok (.iload_n 1, 1) := by decide +kernel
theorem dMd_penalty_2 : decode cMd_penalty 2 = .ok (.iconst 0, 1) := by decide +kernel
theorem dMd_penalty_3 : decode cMd_penalty 3 = .ok (.ldc 63, 2) := by decide +kernel
theorem dMd_penalty_5 : decode cMd_penalty 5 = .ok (.invokestatic 64, 3) := by decide +kernel
theorem dMd_penalty_8 : decode cMd_penalty 8 = .ok (.ifCond .eq 16, 3) := by decide +kernel
theorem dMd_penalty_11 : decode cMd_penalty 11 = .ok (.iload_n 2, 1) := by decide +kernel
theorem dMd_penalty_12 : decode cMd_penalty 12 = .ok (.sipush (-10000), 3) := by decide +kernel
theorem dMd_penalty_15 : decode cMd_penalty 15 = .ok (.sipush 10000, 3) := by decide +kernel
theorem dMd_penalty_18 : decode cMd_penalty 18 = .ok (.invokestatic 64, 3) := by decide +kernel
theorem dMd_penalty_21 : decode cMd_penalty 21 = .ok (.ifCond .ne 7, 3) := by decide +kernel
theorem dMd_penalty_24 : decode cMd_penalty 24 = .ok (.iconst 1, 1) := by decide +kernel
theorem dMd_penalty_25 : decode cMd_penalty 25 = .ok (.goto 18, 3) := by decide +kernel
theorem dMd_penalty_28 : decode cMd_penalty 28 = .ok (.aload_n 0, 1) := by decide +kernel
theorem dMd_penalty_29 : decode cMd_penalty 29 = .ok (.getfield 56, 3) := by decide +kernel
theorem dMd_penalty_32 : decode cMd_penalty 32 = .ok (.sipush 400, 3) := by decide +kernel
theorem dMd_penalty_35 : decode cMd_penalty 35 = .ok (.if_icmp .ne 7, 3) := by decide +kernel
theorem dMd_penalty_38 : decode cMd_penalty 38 = .ok (.iconst 2, 1) := by decide +kernel
theorem dMd_penalty_39 : decode cMd_penalty 39 = .ok (.goto 4, 3) := by decide +kernel
theorem dMd_penalty_42 : decode cMd_penalty 42 = .ok (.iconst 0, 1) := by decide +kernel
theorem dMd_penalty_43 : decode cMd_penalty 43 = .ok (.invokevirtual 68, 3) := by decide +kernel
theorem dMd_penalty_46 : decode cMd_penalty 46 = .ok (.ifCond .eq 5, 3) := by decide +kernel
theorem dMd_penalty_49 : decode cMd_penalty 49 = .ok (.iconst 0, 1) := by decide +kernel
theorem dMd_penalty_50 : decode cMd_penalty 50 = .ok (.ireturn, 1) := by decide +kernel
theorem dMd_penalty_51 : decode cMd_penalty 51 = .ok (.aload_n 0, 1) := by decide +kernel
theorem dMd_penalty_52 : decode cMd_penalty 52 = .ok (.iconst 2, 1) := by decide +kernel
theorem dMd_penalty_53 : decode cMd_penalty 53 = .ok (.iload_n 1, 1) := by decide +kernel
theorem dMd_penalty_54 : decode cMd_penalty 54 = .ok (.invokevirtual 72, 3) := by decide +kernel
theorem dMd_penalty_57 : decode cMd_penalty 57 = .ok (.istore 4, 2) := by decide +kernel
theorem dMd_penalty_59 : decode cMd_penalty 59 = .ok (.aload_n 0, 1) := by decide +kernel
theorem dMd_penalty_60 : decode cMd_penalty 60 = .ok (.getfield 25, 3) := by decide +kernel
theorem dMd_penalty_63 : decode cMd_penalty 63 = .ok (.iload 4, 2) := by decide +kernel
theorem dMd_penalty_65 : decode cMd_penalty 65 = .ok (.iload_n 2, 1) := by decide +kernel
theorem dMd_penalty_66 : decode cMd_penalty 66 = .ok (.iastore, 1) := by decide +kernel
theorem dMd_penalty_67 : decode cMd_penalty 67 = .ok (.aload_n 0, 1) := by decide +kernel
theorem dMd_penalty_68 : decode cMd_penalty 68 = .ok (.getfield 28, 3) := by decide +kernel
theorem dMd_penalty_71 : decode cMd_penalty 71 = .ok (.iload 4, 2) := by decide +kernel
theorem dMd_penalty_73 : decode cMd_penalty 73 = .ok (.iload_n 3, 1) := by decide +kernel
theorem dMd_penalty_74 : decode cMd_penalty 74 = .ok (.bastore, 1) := by decide +kernel
theorem dMd_penalty_75 : decode cMd_penalty 75 = .ok (.iload 4, 2) := by decide +kernel
theorem dMd_penalty_77 : decode cMd_penalty 77 = .ok (.ireturn, 1) := by decide +kernel
theorem dMd_clear_0 : decode cMd_clear 0 = .ok (.aload_n 0, 1) := by decide +kernel
theorem dMd_clear_1 : decode cMd_clear 1 = .ok (.iconst 0, 1) := by decide +kernel
theorem dMd_clear_2 : decode cMd_clear 2 = .ok (.putfield 52, 3) := by decide +kernel
theorem dMd_clear_5 : decode cMd_clear 5 = .ok (.aload_n 0, 1) := by decide +kernel
theorem dMd_clear_6 : decode cMd_clear 6 = .ok (.getfield 56, 3) := by decide +kernel
theorem dMd_clear_9 : decode cMd_clear 9 = .ok (.istore_n 1, 1) := by decide +kernel
theorem dMd_clear_10 : decode cMd_clear 10 = .ok (.aload_n 0, 1) := by decide +kernel
theorem dMd_clear_11 : decode cMd_clear 11 = .ok (.iconst 0, 1) := by decide +kernel
theorem dMd_clear_12 : decode cMd_clear 12 = .ok (.putfield 56, 3) := by decide +kernel
theorem dMd_clear_15 : decode cMd_clear 15 = .ok (.aload_n 0, 1) := by decide +kernel
theorem dMd_clear_16 : decode cMd_clear 16 = .ok (.iconst 0, 1) := by decide +kernel
theorem dMd_clear_17 : decode cMd_clear 17 = .ok (.putfield 59, 3) := by decide +kernel
theorem dMd_clear_20 : decode cMd_clear 20 = .ok (.iload_n 1, 1) := by decide +kernel
theorem dMd_clear_21 : decode cMd_clear 21 = .ok (.ireturn, 1) := by decide +kernel
theorem dMd_width_0 : decode cMd_width 0 = .ok (.aload_n 0, 1) := by decide +kernel
theorem dMd_width_1 : decode cMd_width 1 = .ok (.iload_n 1, 1) := by decide +kernel
theorem dMd_width_2 : decode cMd_width 2 = .ok (.iconst 0, 1) := by decide +kernel
theorem dMd_width_3 : decode cMd_width 3 = .ok (.bipush 40, 2) := by decide +kernel
theorem dMd_width_5 : decode cMd_width 5 = .ok (.invokestatic 64, 3) := by decide +kernel
theorem dMd_width_8 : decode cMd_width 8 = .ok (.ifCond .eq 13, 3) := by decide +kernel
theorem dMd_width_11 : decode cMd_width 11 = .ok (.iload_n 2, 1) := by decide +kernel
theorem dMd_width_12 : decode cMd_width 12 = .ok (.iconst 1, 1) := by decide +kernel
theorem dMd_width_13 : decode cMd_width 13 = .ok (.ldc 76, 2) := by decide +kernel
theorem dMd_width_15 : decode cMd_width 15 = .ok (.invokestatic 64, 3) := by decide +kernel
theorem dMd_width_18 : decode cMd_width 18 = .ok (.ifCond .ne 7, 3) := by decide +kernel
theorem dMd_width_21 : decode cMd_width 21 = .ok (.iconst 1, 1) := by decide +kernel
theorem dMd_width_22 : decode cMd_width 22 = .ok (.goto 4, 3) := by decide +kernel
theorem dMd_width_25 : decode cMd_width 25 = .ok (.iconst 0, 1) := by decide +kernel
theorem dMd_width_26 : decode cMd_width 26 = .ok (.invokevirtual 68, 3) := by decide +kernel
theorem dMd_width_29 : decode cMd_width 29 = .ok (.ifCond .ne 29, 3) := by decide +kernel
theorem dMd_width_32 : decode cMd_width 32 = .ok (.iload_n 1, 1) := by decide +kernel
theorem dMd_width_33 : decode cMd_width 33 = .ok (.istore_n 3, 1) := by decide +kernel
theorem dMd_width_34 : decode cMd_width 34 = .ok (.iload_n 3, 1) := by decide +kernel
theorem dMd_width_35 : decode cMd_width 35 = .ok (.bipush 41, 2) := by decide +kernel
theorem dMd_width_37 : decode cMd_width 37 = .ok (.if_icmp .ge 16, 3) := by decide +kernel
theorem dMd_width_40 : decode cMd_width 40 = .ok (.aload_n 0, 1) := by decide +kernel
theorem dMd_width_41 : decode cMd_width 41 = .ok (.getfield 32, 3) := by decide +kernel
theorem dMd_width_44 : decode cMd_width 44 = .ok (.iload_n 3, 1) := by decide +kernel
theorem dMd_width_45 : decode cMd_width 45 = .ok (.iload_n 2, 1) := by decide +kernel
theorem dMd_width_46 : decode cMd_width 46 = .ok (.iastore, 1) := by decide +kernel
theorem dMd_width_47 : decode cMd_width 47 = .ok (.iinc 3 1, 3) := by decide +kernel
theorem dMd_width_50 : decode cMd_width 50 = .ok (.goto (-16), 3) := by decide +kernel
theorem dMd_width_53 : decode cMd_width 53 = .ok (.aload_n 0, 1) := by decide +kernel
theorem dMd_width_54 : decode cMd_width 54 = .ok (.iconst 0, 1) := by decide +kernel
theorem dMd_width_55 : decode cMd_width 55 = .ok (.putfield 59, 3) := by decide +kernel
theorem dMd_width_58 : decode cMd_width 58 = .ok (.return_, 1) := by decide +kernel
theorem dMd_isSetting_0 : decode cMd_isSetting 0 = .ok (.iload_n 0, 1) := by decide +kernel
theorem dMd_isSetting_1 : decode cMd_isSetting 1 = .ok (.tableswitch 90 0 7 #[47, 56, 56, 56, 64, 64, 73, 81], 47) := by decide +kernel
theorem dMd_isSetting_48 : decode cMd_isSetting 48 = .ok (.iload_n 1, 1) := by decide +kernel
theorem dMd_isSetting_49 : decode cMd_isSetting 49 = .ok (.iconst 0, 1) := by decide +kernel
theorem dMd_isSetting_50 : decode cMd_isSetting 50 = .ok (.sipush 1000, 3) := by decide +kernel
theorem dMd_isSetting_53 : decode cMd_isSetting 53 = .ok (.invokestatic 64, 3) := by decide +kernel
theorem dMd_isSetting_56 : decode cMd_isSetting 56 = .ok (.ireturn, 1) := by decide +kernel
theorem dMd_isSetting_57 : decode cMd_isSetting 57 = .ok (.iload_n 1, 1) := by decide +kernel
theorem dMd_isSetting_58 : decode cMd_isSetting 58 = .ok (.iconst 0, 1) := by decide +kernel
theorem dMd_isSetting_59 : decode cMd_isSetting 59 = .ok (.ldc 63, 2) := by decide +kernel
theorem dMd_isSetting_61 : decode cMd_isSetting 61 = .ok (.invokestatic 64, 3) := by decide +kernel
theorem dMd_isSetting_64 : decode cMd_isSetting 64 = .ok (.ireturn, 1) := by decide +kernel
theorem dMd_isSetting_65 : decode cMd_isSetting 65 = .ok (.iload_n 1, 1) := by decide +kernel
theorem dMd_isSetting_66 : decode cMd_isSetting 66 = .ok (.iconst (-1), 1) := by decide +kernel
theorem dMd_isSetting_67 : decode cMd_isSetting 67 = .ok (.sipush 10000, 3) := by decide +kernel
theorem dMd_isSetting_70 : decode cMd_isSetting 70 = .ok (.invokestatic 64, 3) := by decide +kernel
theorem dMd_isSetting_73 : decode cMd_isSetting 73 = .ok (.ireturn, 1) := by decide +kernel
theorem dMd_isSetting_74 : decode cMd_isSetting 74 = .ok (.iload_n 1, 1) := by decide +kernel
theorem dMd_isSetting_75 : decode cMd_isSetting 75 = .ok (.iconst 0, 1) := by decide +kernel
theorem dMd_isSetting_76 : decode cMd_isSetting 76 = .ok (.ldc 63, 2) := by decide +kernel
theorem dMd_isSetting_78 : decode cMd_isSetting 78 = .ok (.invokestatic 64, 3) := by decide +kernel
theorem dMd_isSetting_81 : decode cMd_isSetting 81 = .ok (.ireturn, 1) := by decide +kernel
theorem dMd_isSetting_82 : decode cMd_isSetting 82 = .ok (.iload_n 1, 1) := by decide +kernel
theorem dMd_isSetting_83 : decode cMd_isSetting 83 = .ok (.bipush (-20), 2) := by decide +kernel
theorem dMd_isSetting_85 : decode cMd_isSetting 85 = .ok (.bipush 20, 2) := by decide +kernel
theorem dMd_isSetting_87 : decode cMd_isSetting 87 = .ok (.invokestatic 64, 3) := by decide +kernel
theorem dMd_isSetting_90 : decode cMd_isSetting 90 = .ok (.ireturn, 1) := by decide +kernel
theorem dMd_isSetting_91 : decode cMd_isSetting 91 = .ok (.iconst 0, 1) := by decide +kernel
theorem dMd_isSetting_92 : decode cMd_isSetting 92 = .ok (.ireturn, 1) := by decide +kernel
theorem dMd_setting_0 : decode cMd_setting 0 = .ok (.aload_n 0, 1) := by decide +kernel
theorem dMd_setting_1 : decode cMd_setting 1 = .ok (.iload_n 1, 1) := by decide +kernel
theorem dMd_setting_2 : decode cMd_setting 2 = .ok (.iload_n 2, 1) := by decide +kernel
theorem dMd_setting_3 : decode cMd_setting 3 = .ok (.invokestatic 77, 3) := by decide +kernel
theorem dMd_setting_6 : decode cMd_setting 6 = .ok (.ifCond .eq 7, 3) := by decide +kernel
theorem dMd_setting_9 : decode cMd_setting 9 = .ok (.iconst 0, 1) := by decide +kernel
theorem dMd_setting_10 : decode cMd_setting 10 = .ok (.goto 4, 3) := by decide +kernel
theorem dMd_setting_13 : decode cMd_setting 13 = .ok (.iconst 1, 1) := by decide +kernel
theorem dMd_setting_14 : decode cMd_setting 14 = .ok (.invokevirtual 68, 3) := by decide +kernel
theorem dMd_setting_17 : decode cMd_setting 17 = .ok (.ifCond .eq 5, 3) := by decide +kernel
theorem dMd_setting_20 : decode cMd_setting 20 = .ok (.iconst 0, 1) := by decide +kernel
theorem dMd_setting_21 : decode cMd_setting 21 = .ok (.ireturn, 1) := by decide +kernel
theorem dMd_setting_22 : decode cMd_setting 22 = .ok (.aload_n 0, 1) := by decide +kernel
theorem dMd_setting_23 : decode cMd_setting 23 = .ok (.getfield 35, 3) := by decide +kernel
theorem dMd_setting_26 : decode cMd_setting 26 = .ok (.iload_n 1, 1) := by decide +kernel
theorem dMd_setting_27 : decode cMd_setting 27 = .ok (.iaload, 1) := by decide +kernel
theorem dMd_setting_28 : decode cMd_setting 28 = .ok (.istore_n 3, 1) := by decide +kernel
theorem dMd_setting_29 : decode cMd_setting 29 = .ok (.aload_n 0, 1) := by decide +kernel
theorem dMd_setting_30 : decode cMd_setting 30 = .ok (.getfield 35, 3) := by decide +kernel
theorem dMd_setting_33 : decode cMd_setting 33 = .ok (.iload_n 1, 1) := by decide +kernel
theorem dMd_setting_34 : decode cMd_setting 34 = .ok (.iload_n 2, 1) := by decide +kernel
theorem dMd_setting_35 : decode cMd_setting 35 = .ok (.iastore, 1) := by decide +kernel
theorem dMd_setting_36 : decode cMd_setting 36 = .ok (.aload_n 0, 1) := by decide +kernel
theorem dMd_setting_37 : decode cMd_setting 37 = .ok (.iconst 0, 1) := by decide +kernel
theorem dMd_setting_38 : decode cMd_setting 38 = .ok (.putfield 59, 3) := by decide +kernel
theorem dMd_setting_41 : decode cMd_setting 41 = .ok (.iload_n 3, 1) := by decide +kernel
theorem dMd_setting_42 : decode cMd_setting 42 = .ok (.ireturn, 1) := by decide +kernel
theorem dMd_isBreak_0 : decode cMd_isBreak 0 = .ok (.iload_n 1, 1) := by decide +kernel
theorem dMd_isBreak_1 : decode cMd_isBreak 1 = .ok (.aload_n 0, 1) := by decide +kernel
theorem dMd_isBreak_2 : decode cMd_isBreak 2 = .ok (.getfield 56, 3) := by decide +kernel
theorem dMd_isBreak_5 : decode cMd_isBreak 5 = .ok (.if_icmp .ne 5, 3) := by decide +kernel
theorem dMd_isBreak_8 : decode cMd_isBreak 8 = .ok (.iconst 1, 1) := by decide +kernel
theorem dMd_isBreak_9 : decode cMd_isBreak 9 = .ok (.ireturn, 1) := by decide +kernel
theorem dMd_isBreak_10 : decode cMd_isBreak 10 = .ok (.aload_n 0, 1) := by decide +kernel
theorem dMd_isBreak_11 : decode cMd_isBreak 11 = .ok (.getfield 7, 3) := by decide +kernel
theorem dMd_isBreak_14 : decode cMd_isBreak 14 = .ok (.iload_n 1, 1) := by decide +kernel
theorem dMd_isBreak_15 : decode cMd_isBreak 15 = .ok (.iaload, 1) := by decide +kernel
theorem dMd_isBreak_16 : decode cMd_isBreak 16 = .ok (.iconst 1, 1) := by decide +kernel
theorem dMd_isBreak_17 : decode cMd_isBreak 17 = .ok (.if_icmp .ne 24, 3) := by decide +kernel
theorem dMd_isBreak_20 : decode cMd_isBreak 20 = .ok (.iload_n 1, 1) := by decide +kernel
theorem dMd_isBreak_21 : decode cMd_isBreak 21 = .ok (.ifCond .le 18, 3) := by decide +kernel
theorem dMd_isBreak_24 : decode cMd_isBreak 24 = .ok (.aload_n 0, 1) := by decide +kernel
theorem dMd_isBreak_25 : decode cMd_isBreak 25 = .ok (.getfield 7, 3) := by decide +kernel
theorem dMd_isBreak_28 : decode cMd_isBreak 28 = .ok (.iload_n 1, 1) := by decide +kernel
theorem dMd_isBreak_29 : decode cMd_isBreak 29 = .ok (.iconst 1, 1) := by decide +kernel
theorem dMd_isBreak_30 : decode cMd_isBreak 30 = .ok (.isub, 1) := by decide +kernel
theorem dMd_isBreak_31 : decode cMd_isBreak 31 = .ok (.iaload, 1) := by decide +kernel
theorem dMd_isBreak_32 : decode cMd_isBreak 32 = .ok (.ifCond .ne 7, 3) := by decide +kernel
theorem dMd_isBreak_35 : decode cMd_isBreak 35 = .ok (.iconst 1, 1) := by decide +kernel
theorem dMd_isBreak_36 : decode cMd_isBreak 36 = .ok (.goto 4, 3) := by decide +kernel
theorem dMd_isBreak_39 : decode cMd_isBreak 39 = .ok (.iconst 0, 1) := by decide +kernel
theorem dMd_isBreak_40 : decode cMd_isBreak 40 = .ok (.ireturn, 1) := by decide +kernel
theorem dMd_isBreak_41 : decode cMd_isBreak 41 = .ok (.aload_n 0, 1) := by decide +kernel
theorem dMd_isBreak_42 : decode cMd_isBreak 42 = .ok (.getfield 7, 3) := by decide +kernel
theorem dMd_isBreak_45 : decode cMd_isBreak 45 = .ok (.iload_n 1, 1) := by decide +kernel
theorem dMd_isBreak_46 : decode cMd_isBreak 46 = .ok (.iaload, 1) := by decide +kernel
theorem dMd_isBreak_47 : decode cMd_isBreak 47 = .ok (.iconst 2, 1) := by decide +kernel
theorem dMd_isBreak_48 : decode cMd_isBreak 48 = .ok (.if_icmp .ne 35, 3) := by decide +kernel
theorem dMd_isBreak_51 : decode cMd_isBreak 51 = .ok (.aload_n 0, 1) := by decide +kernel
theorem dMd_isBreak_52 : decode cMd_isBreak 52 = .ok (.getfield 25, 3) := by decide +kernel
theorem dMd_isBreak_55 : decode cMd_isBreak 55 = .ok (.iload_n 1, 1) := by decide +kernel
theorem dMd_isBreak_56 : decode cMd_isBreak 56 = .ok (.iaload, 1) := by decide +kernel
theorem dMd_isBreak_57 : decode cMd_isBreak 57 = .ok (.sipush 10000, 3) := by decide +kernel
theorem dMd_isBreak_60 : decode cMd_isBreak 60 = .ok (.if_icmp .ge 23, 3) := by decide +kernel
theorem dMd_isBreak_63 : decode cMd_isBreak 63 = .ok (.aload_n 0, 1) := by decide +kernel
theorem dMd_isBreak_64 : decode cMd_isBreak 64 = .ok (.getfield 81, 3) := by decide +kernel
theorem dMd_isBreak_67 : decode cMd_isBreak 67 = .ok (.ifCond .ne 12, 3) := by decide +kernel
theorem dMd_isBreak_70 : decode cMd_isBreak 70 = .ok (.aload_n 0, 1) := by decide +kernel
theorem dMd_isBreak_71 : decode cMd_isBreak 71 = .ok (.getfield 28, 3) := by decide +kernel
theorem dMd_isBreak_74 : decode cMd_isBreak 74 = .ok (.iload_n 1, 1) := by decide +kernel
theorem dMd_isBreak_75 : decode cMd_isBreak 75 = .ok (.baload, 1) := by decide +kernel
theorem dMd_isBreak_76 : decode cMd_isBreak 76 = .ok (.ifCond .ne 7, 3) := by decide +kernel
theorem dMd_isBreak_79 : decode cMd_isBreak 79 = .ok (.iconst 1, 1) := by decide +kernel
theorem dMd_isBreak_80 : decode cMd_isBreak 80 = .ok (.goto 4, 3) := by decide +kernel
theorem dMd_isBreak_83 : decode cMd_isBreak 83 = .ok (.iconst 0, 1) := by decide +kernel
theorem dMd_isBreak_84 : decode cMd_isBreak 84 = .ok (.ireturn, 1) := by decide +kernel
theorem dMd_costOf_0 : decode cMd_costOf 0 = .ok (.iload_n 1, 1) := by decide +kernel
theorem dMd_costOf_1 : decode cMd_costOf 1 = .ok (.aload_n 0, 1) := by decide +kernel
theorem dMd_costOf_2 : decode cMd_costOf 2 = .ok (.getfield 56, 3) := by decide +kernel
theorem dMd_costOf_5 : decode cMd_costOf 5 = .ok (.if_icmp .ne 9, 3) := by decide +kernel
theorem dMd_costOf_8 : decode cMd_costOf 8 = .ok (.sipush (-10000), 3) := by decide +kernel
theorem dMd_costOf_11 : decode cMd_costOf 11 = .ok (.goto 9, 3) := by decide +kernel
theorem dMd_costOf_14 : decode cMd_costOf 14 = .ok (.aload_n 0, 1) := by decide +kernel
theorem dMd_costOf_15 : decode cMd_costOf 15 = .ok (.getfield 25, 3) := by decide +kernel
theorem dMd_costOf_18 : decode cMd_costOf 18 = .ok (.iload_n 1, 1) := by decide +kernel
theorem dMd_costOf_19 : decode cMd_costOf 19 = .ok (.iaload, 1) := by decide +kernel
theorem dMd_costOf_20 : decode cMd_costOf 20 = .ok (.ireturn, 1) := by decide +kernel
theorem dMd_isForced_0 : decode cMd_isForced 0 = .ok (.aload_n 0, 1) := by decide +kernel
theorem dMd_isForced_1 : decode cMd_isForced 1 = .ok (.iload_n 1, 1) := by decide +kernel
theorem dMd_isForced_2 : decode cMd_isForced 2 = .ok (.invokevirtual 84, 3) := by decide +kernel
theorem dMd_isForced_5 : decode cMd_isForced 5 = .ok (.ifCond .eq 18, 3) := by decide +kernel
theorem dMd_isForced_8 : decode cMd_isForced 8 = .ok (.aload_n 0, 1) := by decide +kernel
theorem dMd_isForced_9 : decode cMd_isForced 9 = .ok (.iload_n 1, 1) := by decide +kernel
theorem dMd_isForced_10 : decode cMd_isForced 10 = .ok (.invokevirtual 87, 3) := by decide +kernel
theorem dMd_isForced_13 : decode cMd_isForced 13 = .ok (.sipush (-10000), 3) := by decide +kernel
theorem dMd_isForced_16 : decode cMd_isForced 16 = .ok (.if_icmp .gt 7, 3) := by decide +kernel
theorem dMd_isForced_19 : decode cMd_isForced 19 = .ok (.iconst 1, 1) := by decide +kernel
theorem dMd_isForced_20 : decode cMd_isForced 20 = .ok (.goto 4, 3) := by decide +kernel
theorem dMd_isForced_23 : decode cMd_isForced 23 = .ok (.iconst 0, 1) := by decide +kernel
theorem dMd_isForced_24 : decode cMd_isForced 24 = .ok (.ireturn, 1) := by decide +kernel
theorem dMd_isFlagged_0 : decode cMd_isFlagged 0 = .ok (.iload_n 1, 1) := by decide +kernel
theorem dMd_isFlagged_1 : decode cMd_isFlagged 1 = .ok (.ifCond .lt 24, 3) := by decide +kernel
theorem dMd_isFlagged_4 : decode cMd_isFlagged 4 = .ok (.iload_n 1, 1) := by decide +kernel
theorem dMd_isFlagged_5 : decode cMd_isFlagged 5 = .ok (.aload_n 0, 1) := by decide +kernel
theorem dMd_isFlagged_6 : decode cMd_isFlagged 6 = .ok (.getfield 56, 3) := by decide +kernel
theorem dMd_isFlagged_9 : decode cMd_isFlagged 9 = .ok (.if_icmp .ge 16, 3) := by decide +kernel
theorem dMd_isFlagged_12 : decode cMd_isFlagged 12 = .ok (.aload_n 0, 1) := by decide +kernel
theorem dMd_isFlagged_13 : decode cMd_isFlagged 13 = .ok (.getfield 28, 3) := by decide +kernel
theorem dMd_isFlagged_16 : decode cMd_isFlagged 16 = .ok (.iload_n 1, 1) := by decide +kernel
theorem dMd_isFlagged_17 : decode cMd_isFlagged 17 = .ok (.baload, 1) := by decide +kernel
theorem dMd_isFlagged_18 : decode cMd_isFlagged 18 = .ok (.ifCond .eq 7, 3) := by decide +kernel
theorem dMd_isFlagged_21 : decode cMd_isFlagged 21 = .ok (.iconst 1, 1) := by decide +kernel
theorem dMd_isFlagged_22 : decode cMd_isFlagged 22 = .ok (.goto 4, 3) := by decide +kernel
theorem dMd_isFlagged_25 : decode cMd_isFlagged 25 = .ok (.iconst 0, 1) := by decide +kernel
theorem dMd_isFlagged_26 : decode cMd_isFlagged 26 = .ok (.ireturn, 1) := by decide +kernel
theorem dMd_firstOf_0 : decode cMd_firstOf 0 = .ok (.iload_n 1, 1) := by decide +kernel
theorem dMd_firstOf_1 : decode cMd_firstOf 1 = .ok (.iconst 1, 1) := by decide +kernel
theorem dMd_firstOf_2 : decode cMd_firstOf 2 = .ok (.iadd, 1) := by decide +kernel
theorem dMd_firstOf_3 : decode cMd_firstOf 3 = .ok (.istore_n 3, 1) := by decide +kernel
theorem dMd_firstOf_4 : decode cMd_firstOf 4 = .ok (.iload_n 1, 1) := by decide +kernel
theorem dMd_firstOf_5 : decode cMd_firstOf 5 = .ok (.ifCond .lt 23, 3) := by decide +kernel
theorem dMd_firstOf_8 : decode cMd_firstOf 8 = .ok (.iload_n 3, 1) := by decide +kernel
theorem dMd_firstOf_9 : decode cMd_firstOf 9 = .ok (.iload_n 2, 1) := by decide +kernel
theorem dMd_firstOf_10 : decode cMd_firstOf 10 = .ok (.if_icmp .ge 18, 3) := by decide +kernel
theorem dMd_firstOf_13 : decode cMd_firstOf 13 = .ok (.aload_n 0, 1) := by decide +kernel
theorem dMd_firstOf_14 : decode cMd_firstOf 14 = .ok (.getfield 7, 3) := by decide +kernel
theorem dMd_firstOf_17 : decode cMd_firstOf 17 = .ok (.iload_n 3, 1) := by decide +kernel
theorem dMd_firstOf_18 : decode cMd_firstOf 18 = .ok (.iaload, 1) := by decide +kernel
theorem dMd_firstOf_19 : decode cMd_firstOf 19 = .ok (.ifCond .eq 9, 3) := by decide +kernel
theorem dMd_firstOf_22 : decode cMd_firstOf 22 = .ok (.iinc 3 1, 3) := by decide +kernel
theorem dMd_firstOf_25 : decode cMd_firstOf 25 = .ok (.goto (-21), 3) := by decide +kernel
theorem dMd_firstOf_28 : decode cMd_firstOf 28 = .ok (.iload_n 3, 1) := by decide +kernel
theorem dMd_firstOf_29 : decode cMd_firstOf 29 = .ok (.ireturn, 1) := by decide +kernel
theorem dMd_measure_0 : decode cMd_measure 0 = .ok (.aload_n 0, 1) := by decide +kernel
theorem dMd_measure_1 : decode cMd_measure 1 = .ok (.iload_n 2, 1) := by decide +kernel
theorem dMd_measure_2 : decode cMd_measure 2 = .ok (.aload_n 0, 1) := by decide +kernel
theorem dMd_measure_3 : decode cMd_measure 3 = .ok (.getfield 56, 3) := by decide +kernel
theorem dMd_measure_6 : decode cMd_measure 6 = .ok (.if_icmp .ge 23, 3) := by decide +kernel
theorem dMd_measure_9 : decode cMd_measure 9 = .ok (.aload_n 0, 1) := by decide +kernel
theorem dMd_measure_10 : decode cMd_measure 10 = .ok (.getfield 7, 3) := by decide +kernel
theorem dMd_measure_13 : decode cMd_measure 13 = .ok (.iload_n 2, 1) := by decide +kernel
theorem dMd_measure_14 : decode cMd_measure 14 = .ok (.iaload, 1) := by decide +kernel
theorem dMd_measure_15 : decode cMd_measure 15 = .ok (.iconst 2, 1) := by decide +kernel
theorem dMd_measure_16 : decode cMd_measure 16 = .ok (.if_icmp .ne 13, 3) := by decide +kernel
theorem dMd_measure_19 : decode cMd_measure 19 = .ok (.aload_n 0, 1) := by decide +kernel
theorem dMd_measure_20 : decode cMd_measure 20 = .ok (.getfield 13, 3) := by decide +kernel
theorem dMd_measure_23 : decode cMd_measure 23 = .ok (.iload_n 2, 1) := by decide +kernel
theorem dMd_measure_24 : decode cMd_measure 24 = .ok (.iaload, 1) := by decide +kernel
theorem dMd_measure_25 : decode cMd_measure 25 = .ok (.i2l, 1) := by decide +kernel
theorem dMd_measure_26 : decode cMd_measure 26 = .ok (.goto 4, 3) := by decide +kernel
theorem dMd_measure_29 : decode cMd_measure 29 = .ok (.lconst 0, 1) := by decide +kernel
theorem dMd_measure_30 : decode cMd_measure 30 = .ok (.putfield 91, 3) := by decide +kernel
theorem dMd_measure_33 : decode cMd_measure 33 = .ok (.aload_n 0, 1) := by decide +kernel
theorem dMd_measure_34 : decode cMd_measure 34 = .ok (.lconst 0, 1) := by decide +kernel
theorem dMd_measure_35 : decode cMd_measure 35 = .ok (.putfield 95, 3) := by decide +kernel
theorem dMd_measure_38 : decode cMd_measure 38 = .ok (.aload_n 0, 1) := by decide +kernel
theorem dMd_measure_39 : decode cMd_measure 39 = .ok (.lconst 0, 1) := by decide +kernel
theorem dMd_measure_40 : decode cMd_measure 40 = .ok (.putfield 98, 3) := by decide +kernel
theorem dMd_measure_43 : decode cMd_measure 43 = .ok (.aload_n 0, 1) := by decide +kernel
theorem dMd_measure_44 : decode cMd_measure 44 = .ok (.lconst 0, 1) := by decide +kernel
theorem dMd_measure_45 : decode cMd_measure 45 = .ok (.putfield 101, 3) := by decide +kernel
theorem dMd_measure_48 : decode cMd_measure 48 = .ok (.aload_n 0, 1) := by decide +kernel
theorem dMd_measure_49 : decode cMd_measure 49 = .ok (.iload_n 1, 1) := by decide +kernel
theorem dMd_measure_50 : decode cMd_measure 50 = .ok (.iload_n 2, 1) := by decide +kernel
theorem dMd_measure_51 : decode cMd_measure 51 = .ok (.invokevirtual 104, 3) := by decide +kernel
theorem dMd_measure_54 : decode cMd_measure 54 = .ok (.istore_n 3, 1) := by decide +kernel
theorem dMd_measure_55 : decode cMd_measure 55 = .ok (.iload_n 3, 1) := by decide +kernel
theorem dMd_measure_56 : decode cMd_measure 56 = .ok (.iload_n 2, 1) := by decide +kernel
theorem dMd_measure_57 : decode cMd_measure 57 = .ok (.if_icmp .ge 83, 3) := by decide +kernel
theorem dMd_measure_60 : decode cMd_measure 60 = .ok (.aload_n 0, 1) := by decide +kernel
theorem dMd_measure_61 : decode cMd_measure 61 = .ok (.getfield 7, 3) := by decide +kernel
theorem dMd_measure_64 : decode cMd_measure 64 = .ok (.iload_n 3, 1) := by decide +kernel
theorem dMd_measure_65 : decode cMd_measure 65 = .ok (.iaload, 1) := by decide +kernel
theorem dMd_measure_66 : decode cMd_measure 66 = .ok (.iconst 2, 1) := by decide +kernel
theorem dMd_measure_67 : decode cMd_measure 67 = .ok (.if_icmp .ge 67, 3) := by decide +kernel
theorem dMd_measure_70 : decode cMd_measure 70 = .ok (.aload_n 0, 1) := by decide +kernel
theorem dMd_measure_71 : decode cMd_measure 71 = .ok (.aload_n 0, 1) := by decide +kernel
theorem dMd_measure_72 : decode cMd_measure 72 = .ok (.getfield 91, 3) := by decide +kernel
theorem dMd_measure_75 : decode cMd_measure 75 = .ok (.aload_n 0, 1) := by decide +kernel
theorem dMd_measure_76 : decode cMd_measure 76 = .ok (.getfield 13, 3) := by decide +kernel
theorem dMd_measure_79 : decode cMd_measure 79 = .ok (.iload_n 3, 1) := by decide +kernel
theorem dMd_measure_80 : decode cMd_measure 80 = .ok (.iaload, 1) := by decide +kernel
theorem dMd_measure_81 : decode cMd_measure 81 = .ok (.i2l, 1) := by decide +kernel
theorem dMd_measure_82 : decode cMd_measure 82 = .ok (.ladd, 1) := by decide +kernel
theorem dMd_measure_83 : decode cMd_measure 83 = .ok (.putfield 91, 3) := by decide +kernel
theorem dMd_measure_86 : decode cMd_measure 86 = .ok (.aload_n 0, 1) := by decide +kernel
theorem dMd_measure_87 : decode cMd_measure 87 = .ok (.aload_n 0, 1) := by decide +kernel
theorem dMd_measure_88 : decode cMd_measure 88 = .ok (.getfield 95, 3) := by decide +kernel
theorem dMd_measure_91 : decode cMd_measure 91 = .ok (.aload_n 0, 1) := by decide +kernel
theorem dMd_measure_92 : decode cMd_measure 92 = .ok (.getfield 16, 3) := by decide +kernel
theorem dMd_measure_95 : decode cMd_measure 95 = .ok (.iload_n 3, 1) := by decide +kernel
theorem dMd_measure_96 : decode cMd_measure 96 = .ok (.iaload, 1) := by decide +kernel
theorem dMd_measure_97 : decode cMd_measure 97 = .ok (.i2l, 1) := by decide +kernel
theorem dMd_measure_98 : decode cMd_measure 98 = .ok (.ladd, 1) := by decide +kernel
theorem dMd_measure_99 : decode cMd_measure 99 = .ok (.putfield 95, 3) := by decide +kernel
theorem dMd_measure_102 : decode cMd_measure 102 = .ok (.aload_n 0, 1) := by decide +kernel
theorem dMd_measure_103 : decode cMd_measure 103 = .ok (.aload_n 0, 1) := by decide +kernel
theorem dMd_measure_104 : decode cMd_measure 104 = .ok (.getfield 98, 3) := by decide +kernel
theorem dMd_measure_107 : decode cMd_measure 107 = .ok (.aload_n 0, 1) := by decide +kernel
theorem dMd_measure_108 : decode cMd_measure 108 = .ok (.getfield 19, 3) := by decide +kernel
theorem dMd_measure_111 : decode cMd_measure 111 = .ok (.iload_n 3, 1) := by decide +kernel
theorem dMd_measure_112 : decode cMd_measure 112 = .ok (.iaload, 1) := by decide +kernel
theorem dMd_measure_113 : decode cMd_measure 113 = .ok (.i2l, 1) := by decide +kernel
theorem dMd_measure_114 : decode cMd_measure 114 = .ok (.ladd, 1) := by decide +kernel
theorem dMd_measure_115 : decode cMd_measure 115 = .ok (.putfield 98, 3) := by decide +kernel
theorem dMd_measure_118 : decode cMd_measure 118 = .ok (.aload_n 0, 1) := by decide +kernel
theorem dMd_measure_119 : decode cMd_measure 119 = .ok (.aload_n 0, 1) := by decide +kernel
theorem dMd_measure_120 : decode cMd_measure 120 = .ok (.getfield 101, 3) := by decide +kernel
theorem dMd_measure_123 : decode cMd_measure 123 = .ok (.aload_n 0, 1) := by decide +kernel
theorem dMd_measure_124 : decode cMd_measure 124 = .ok (.getfield 22, 3) := by decide +kernel
theorem dMd_measure_127 : decode cMd_measure 127 = .ok (.iload_n 3, 1) := by decide +kernel
theorem dMd_measure_128 : decode cMd_measure 128 = .ok (.iaload, 1) := by decide +kernel
theorem dMd_measure_129 : decode cMd_measure 129 = .ok (.i2l, 1) := by decide +kernel
theorem dMd_measure_130 : decode cMd_measure 130 = .ok (.ladd, 1) := by decide +kernel
theorem dMd_measure_131 : decode cMd_measure 131 = .ok (.putfield 101, 3) := by decide +kernel
theorem dMd_measure_134 : decode cMd_measure 134 = .ok (.iinc 3 1, 3) := by decide +kernel
theorem dMd_measure_137 : decode cMd_measure 137 = .ok (.goto (-82), 3) := by decide +kernel
theorem dMd_measure_140 : decode cMd_measure 140 = .ok (.return_, 1) := by decide +kernel
theorem dMd_excess_0 : decode cMd_excess 0 = .ok (.aload_n 0, 1) := by decide +kernel
theorem dMd_excess_1 : decode cMd_excess 1 = .ok (.getfield 32, 3) := by decide +kernel
theorem dMd_excess_4 : decode cMd_excess 4 = .ok (.iload_n 1, 1) := by decide +kernel
theorem dMd_excess_5 : decode cMd_excess 5 = .ok (.bipush 40, 2) := by decide +kernel
theorem dMd_excess_7 : decode cMd_excess 7 = .ok (.if_icmp .ge 7, 3) := by decide +kernel
theorem dMd_excess_10 : decode cMd_excess 10 = .ok (.iload_n 1, 1) := by decide +kernel
theorem dMd_excess_11 : decode cMd_excess 11 = .ok (.goto 5, 3) := by decide +kernel
theorem dMd_excess_14 : decode cMd_excess 14 = .ok (.bipush 40, 2) := by decide +kernel
theorem dMd_excess_16 : decode cMd_excess 16 = .ok (.iaload, 1) := by decide +kernel
theorem dMd_excess_17 : decode cMd_excess 17 = .ok (.i2l, 1) := by decide +kernel
theorem dMd_excess_18 : decode cMd_excess 18 = .ok (.aload_n 0, 1) := by decide +kernel
theorem dMd_excess_19 : decode cMd_excess 19 = .ok (.getfield 91, 3) := by decide +kernel
theorem dMd_excess_22 : decode cMd_excess 22 = .ok (.lsub, 1) := by decide +kernel
theorem dMd_excess_23 : decode cMd_excess 23 = .ok (.lreturn, 1) := by decide +kernel
theorem dMd_isTooLong_0 : decode cMd_isTooLong 0 = .ok (.aload_n 0, 1) := by decide +kernel
theorem dMd_isTooLong_1 : decode cMd_isTooLong 1 = .ok (.iload_n 1, 1) := by decide +kernel
theorem dMd_isTooLong_2 : decode cMd_isTooLong 2 = .ok (.invokevirtual 107, 3) := by decide +kernel
theorem dMd_isTooLong_5 : decode cMd_isTooLong 5 = .ok (.lstore_n 2, 1) := by decide +kernel
theorem dMd_isTooLong_6 : decode cMd_isTooLong 6 = .ok (.lload_n 2, 1) := by decide +kernel
theorem dMd_isTooLong_7 : decode cMd_isTooLong 7 = .ok (.lconst 0, 1) := by decide +kernel
theorem dMd_isTooLong_8 : decode cMd_isTooLong 8 = .ok (.lcmp, 1) := by decide +kernel
theorem dMd_isTooLong_9 : decode cMd_isTooLong 9 = .ok (.ifCond .ge 17, 3) := by decide +kernel
theorem dMd_isTooLong_12 : decode cMd_isTooLong 12 = .ok (.lload_n 2, 1) := by decide +kernel
theorem dMd_isTooLong_13 : decode cMd_isTooLong 13 = .ok (.lneg, 1) := by decide +kernel
theorem dMd_isTooLong_14 : decode cMd_isTooLong 14 = .ok (.aload_n 0, 1) := by decide +kernel
theorem dMd_isTooLong_15 : decode cMd_isTooLong 15 = .ok (.getfield 98, 3) := by decide +kernel
theorem dMd_isTooLong_18 : decode cMd_isTooLong 18 = .ok (.lcmp, 1) := by decide +kernel
theorem dMd_isTooLong_19 : decode cMd_isTooLong 19 = .ok (.ifCond .le 7, 3) := by decide +kernel
theorem dMd_isTooLong_22 : decode cMd_isTooLong 22 = .ok (.iconst 1, 1) := by decide +kernel
theorem dMd_isTooLong_23 : decode cMd_isTooLong 23 = .ok (.goto 4, 3) := by decide +kernel
theorem dMd_isTooLong_26 : decode cMd_isTooLong 26 = .ok (.iconst 0, 1) := by decide +kernel
theorem dMd_isTooLong_27 : decode cMd_isTooLong 27 = .ok (.ireturn, 1) := by decide +kernel
theorem dMd_badnessOf_0 : decode cMd_badnessOf 0 = .ok (.lload_n 2, 1) := by decide +kernel
theorem dMd_badnessOf_1 : decode cMd_badnessOf 1 = .ok (.lconst 0, 1) := by decide +kernel
theorem dMd_badnessOf_2 : decode cMd_badnessOf 2 = .ok (.lcmp, 1) := by decide +kernel
theorem dMd_badnessOf_3 : decode cMd_badnessOf 3 = .ok (.ifCond .ne 7, 3) := by decide +kernel
theorem dMd_badnessOf_6 : decode cMd_badnessOf 6 = .ok (.sipush 10000, 3) := by decide +kernel
theorem dMd_badnessOf_9 : decode cMd_badnessOf 9 = .ok (.ireturn, 1) := by decide +kernel
theorem dMd_badnessOf_10 : decode cMd_badnessOf 10 = .ok (.lload_n 0, 1) := by decide +kernel
theorem dMd_badnessOf_11 : decode cMd_badnessOf 11 = .ok (.ldc2_w 111, 3) := by decide +kernel
theorem dMd_badnessOf_14 : decode cMd_badnessOf 14 = .ok (.lmul, 1) := by decide +kernel
theorem dMd_badnessOf_15 : decode cMd_badnessOf 15 = .ok (.lload_n 2, 1) := by decide +kernel
theorem dMd_badnessOf_16 : decode cMd_badnessOf 16 = .ok (.ldiv, 1) := by decide +kernel
theorem dMd_badnessOf_17 : decode cMd_badnessOf 17 = .ok (.lstore 4, 2) := by decide +kernel
theorem dMd_badnessOf_19 : decode cMd_badnessOf 19 = .ok (.lload 4, 2) := by decide +kernel
theorem dMd_badnessOf_21 : decode cMd_badnessOf 21 = .ok (.ldc2_w 113, 3) := by decide +kernel
theorem dMd_badnessOf_24 : decode cMd_badnessOf 24 = .ok (.lcmp, 1) := by decide +kernel
theorem dMd_badnessOf_25 : decode cMd_badnessOf 25 = .ok (.ifCond .le 9, 3) := by decide +kernel
theorem dMd_badnessOf_28 : decode cMd_badnessOf 28 = .ok (.sipush 10000, 3) := by decide +kernel
theorem dMd_badnessOf_31 : decode cMd_badnessOf 31 = .ok (.goto 20, 3) := by decide +kernel
theorem dMd_badnessOf_34 : decode cMd_badnessOf 34 = .ok (.lload 4, 2) := by decide +kernel
theorem dMd_badnessOf_36 : decode cMd_badnessOf 36 = .ok (.lload 4, 2) := by decide +kernel
theorem dMd_badnessOf_38 : decode cMd_badnessOf 38 = .ok (.lmul, 1) := by decide +kernel
theorem dMd_badnessOf_39 : decode cMd_badnessOf 39 = .ok (.lload 4, 2) := by decide +kernel
theorem dMd_badnessOf_41 : decode cMd_badnessOf 41 = .ok (.lmul, 1) := by decide +kernel
theorem dMd_badnessOf_42 : decode cMd_badnessOf 42 = .ok (.ldc2_w 115, 3) := by decide +kernel
theorem dMd_badnessOf_45 : decode cMd_badnessOf 45 = .ok (.ladd, 1) := by decide +kernel
theorem dMd_badnessOf_46 : decode cMd_badnessOf 46 = .ok (.ldc2_w 117, 3) := by decide +kernel
theorem dMd_badnessOf_49 : decode cMd_badnessOf 49 = .ok (.ldiv, 1) := by decide +kernel
theorem dMd_badnessOf_50 : decode cMd_badnessOf 50 = .ok (.l2i, 1) := by decide +kernel
theorem dMd_badnessOf_51 : decode cMd_badnessOf 51 = .ok (.ireturn, 1) := by decide +kernel
theorem dMd_badness_0 : decode cMd_badness 0 = .ok (.aload_n 0, 1) := by decide +kernel
theorem dMd_badness_1 : decode cMd_badness 1 = .ok (.iload_n 1, 1) := by decide +kernel
theorem dMd_badness_2 : decode cMd_badness 2 = .ok (.invokevirtual 107, 3) := by decide +kernel
theorem dMd_badness_5 : decode cMd_badness 5 = .ok (.lstore_n 2, 1) := by decide +kernel
theorem dMd_badness_6 : decode cMd_badness 6 = .ok (.lload_n 2, 1) := by decide +kernel
theorem dMd_badness_7 : decode cMd_badness 7 = .ok (.lconst 0, 1) := by decide +kernel
theorem dMd_badness_8 : decode cMd_badness 8 = .ok (.lcmp, 1) := by decide +kernel
theorem dMd_badness_9 : decode cMd_badness 9 = .ok (.ifCond .eq 18, 3) := by decide +kernel
theorem dMd_badness_12 : decode cMd_badness 12 = .ok (.lload_n 2, 1) := by decide +kernel
theorem dMd_badness_13 : decode cMd_badness 13 = .ok (.lconst 0, 1) := by decide +kernel
theorem dMd_badness_14 : decode cMd_badness 14 = .ok (.lcmp, 1) := by decide +kernel
theorem dMd_badness_15 : decode cMd_badness 15 = .ok (.ifCond .le 14, 3) := by decide +kernel
theorem dMd_badness_18 : decode cMd_badness 18 = .ok (.aload_n 0, 1) := by decide +kernel
theorem dMd_badness_19 : decode cMd_badness 19 = .ok (.getfield 101, 3) := by decide +kernel
theorem dMd_badness_22 : decode cMd_badness 22 = .ok (.lconst 0, 1) := by decide +kernel
theorem dMd_badness_23 : decode cMd_badness 23 = .ok (.lcmp, 1) := by decide +kernel
theorem dMd_badness_24 : decode cMd_badness 24 = .ok (.ifCond .le 5, 3) := by decide +kernel
theorem dMd_badness_27 : decode cMd_badness 27 = .ok (.iconst 0, 1) := by decide +kernel
theorem dMd_badness_28 : decode cMd_badness 28 = .ok (.ireturn, 1) := by decide +kernel
theorem dMd_badness_29 : decode cMd_badness 29 = .ok (.lload_n 2, 1) := by decide +kernel
theorem dMd_badness_30 : decode cMd_badness 30 = .ok (.lconst 0, 1) := by decide +kernel
theorem dMd_badness_31 : decode cMd_badness 31 = .ok (.lcmp, 1) := by decide +kernel
theorem dMd_badness_32 : decode cMd_badness 32 = .ok (.ifCond .le 19, 3) := by decide +kernel
theorem dMd_badness_35 : decode cMd_badness 35 = .ok (.lload_n 2, 1) := by decide +kernel
theorem dMd_badness_36 : decode cMd_badness 36 = .ok (.aload_n 0, 1) := by decide +kernel
theorem dMd_badness_37 : decode cMd_badness 37 = .ok (.getfield 95, 3) := by decide +kernel
theorem dMd_badness_40 : decode cMd_badness 40 = .ok (.aload_n 0, 1) := by decide +kernel
theorem dMd_badness_41 : decode cMd_badness 41 = .ok (.getfield 119, 3) := by decide +kernel
theorem dMd_badness_44 : decode cMd_badness 44 = .ok (.ladd, 1) := by decide +kernel
theorem dMd_badness_45 : decode cMd_badness 45 = .ok (.invokestatic 122, 3) := by decide +kernel
theorem dMd_badness_48 : decode cMd_badness 48 = .ok (.goto 26, 3) := by decide +kernel
theorem dMd_badness_51 : decode cMd_badness 51 = .ok (.aload_n 0, 1) := by decide +kernel
theorem dMd_badness_52 : decode cMd_badness 52 = .ok (.iload_n 1, 1) := by decide +kernel
theorem dMd_badness_53 : decode cMd_badness 53 = .ok (.invokevirtual 126, 3) := by decide +kernel
theorem dMd_badness_56 : decode cMd_badness 56 = .ok (.ifCond .eq 9, 3) := by decide +kernel
theorem dMd_badness_59 : decode cMd_badness 59 = .ok (.sipush 10000, 3) := by decide +kernel
theorem dMd_badness_62 : decode cMd_badness 62 = .ok (.goto 12, 3) := by decide +kernel
theorem dMd_badness_65 : decode cMd_badness 65 = .ok (.lload_n 2, 1) := by decide +kernel
theorem dMd_badness_66 : decode cMd_badness 66 = .ok (.lneg, 1) := by decide +kernel
theorem dMd_badness_67 : decode cMd_badness 67 = .ok (.aload_n 0, 1) := by decide +kernel
theorem dMd_badness_68 : decode cMd_badness 68 = .ok (.getfield 98, 3) := by decide +kernel
theorem dMd_badness_71 : decode cMd_badness 71 = .ok (.invokestatic 122, 3) := by decide +kernel
theorem dMd_badness_74 : decode cMd_badness 74 = .ok (.ireturn, 1) := by decide +kernel
theorem dMd_fitness_0 : decode cMd_fitness 0 = .ok (.aload_n 0, 1) := by decide +kernel
theorem dMd_fitness_1 : decode cMd_fitness 1 = .ok (.iload_n 1, 1) := by decide +kernel
theorem dMd_fitness_2 : decode cMd_fitness 2 = .ok (.invokevirtual 129, 3) := by decide +kernel
theorem dMd_fitness_5 : decode cMd_fitness 5 = .ok (.istore_n 2, 1) := by decide +kernel
theorem dMd_fitness_6 : decode cMd_fitness 6 = .ok (.aload_n 0, 1) := by decide +kernel
theorem dMd_fitness_7 : decode cMd_fitness 7 = .ok (.iload_n 1, 1) := by decide +kernel
theorem dMd_fitness_8 : decode cMd_fitness 8 = .ok (.invokevirtual 107, 3) := by decide +kernel
theorem dMd_fitness_11 : decode cMd_fitness 11 = .ok (.lconst 0, 1) := by decide +kernel
theorem dMd_fitness_12 : decode cMd_fitness 12 = .ok (.lcmp, 1) := by decide +kernel
theorem dMd_fitness_13 : decode cMd_fitness 13 = .ok (.ifCond .ge 15, 3) := by decide +kernel
theorem dMd_fitness_16 : decode cMd_fitness 16 = .ok (.iload_n 2, 1) := by decide +kernel
theorem dMd_fitness_17 : decode cMd_fitness 17 = .ok (.bipush 12, 2) := by decide +kernel
theorem dMd_fitness_19 : decode cMd_fitness 19 = .ok (.if_icmp .le 7, 3) := by decide +kernel
theorem dMd_fitness_22 : decode cMd_fitness 22 = .ok (.iconst 3, 1) := by decide +kernel
theorem dMd_fitness_23 : decode cMd_fitness 23 = .ok (.goto 4, 3) := by decide +kernel
theorem dMd_fitness_26 : decode cMd_fitness 26 = .ok (.iconst 2, 1) := by decide +kernel
theorem dMd_fitness_27 : decode cMd_fitness 27 = .ok (.ireturn, 1) := by decide +kernel
theorem dMd_fitness_28 : decode cMd_fitness 28 = .ok (.iload_n 2, 1) := by decide +kernel
theorem dMd_fitness_29 : decode cMd_fitness 29 = .ok (.bipush 12, 2) := by decide +kernel
theorem dMd_fitness_31 : decode cMd_fitness 31 = .ok (.if_icmp .gt 7, 3) := by decide +kernel
theorem dMd_fitness_34 : decode cMd_fitness 34 = .ok (.iconst 2, 1) := by decide +kernel
theorem dMd_fitness_35 : decode cMd_fitness 35 = .ok (.goto 14, 3) := by decide +kernel
theorem dMd_fitness_38 : decode cMd_fitness 38 = .ok (.iload_n 2, 1) := by decide +kernel
theorem dMd_fitness_39 : decode cMd_fitness 39 = .ok (.bipush 99, 2) := by decide +kernel
theorem dMd_fitness_41 : decode cMd_fitness 41 = .ok (.if_icmp .gt 7, 3) := by decide +kernel
theorem dMd_fitness_44 : decode cMd_fitness 44 = .ok (.iconst 1, 1) := by decide +kernel
theorem dMd_fitness_45 : decode cMd_fitness 45 = .ok (.goto 4, 3) := by decide +kernel
theorem dMd_fitness_48 : decode cMd_fitness 48 = .ok (.iconst 0, 1) := by decide +kernel
theorem dMd_fitness_49 : decode cMd_fitness 49 = .ok (.ireturn, 1) := by decide +kernel
theorem dMd_demerits4_0 : decode cMd_demerits4 0 = .ok (.aload_n 0, 1) := by decide +kernel
theorem dMd_demerits4_1 : decode cMd_demerits4 1 = .ok (.iload_n 3, 1) := by decide +kernel
theorem dMd_demerits4_2 : decode cMd_demerits4 2 = .ok (.invokevirtual 87, 3) := by decide +kernel
theorem dMd_demerits4_5 : decode cMd_demerits4 5 = .ok (.i2l, 1) := by decide +kernel
theorem dMd_demerits4_6 : decode cMd_demerits4 6 = .ok (.lstore 5, 2) := by decide +kernel
theorem dMd_demerits4_8 : decode cMd_demerits4 8 = .ok (.aload_n 0, 1) := by decide +kernel
theorem dMd_demerits4_9 : decode cMd_demerits4 9 = .ok (.getfield 35, 3) := by decide +kernel
theorem dMd_demerits4_12 : decode cMd_demerits4 12 = .ok (.iconst 0, 1) := by decide +kernel
theorem dMd_demerits4_13 : decode cMd_demerits4 13 = .ok (.iaload, 1) := by decide +kernel
theorem dMd_demerits4_14 : decode cMd_demerits4 14 = .ok (.aload_n 0, 1) := by decide +kernel
theorem dMd_demerits4_15 : decode cMd_demerits4 15 = .ok (.iload_n 1, 1) := by decide +kernel
theorem dMd_demerits4_16 : decode cMd_demerits4 16 = .ok (.invokevirtual 129, 3) := by decide +kernel
theorem dMd_demerits4_19 : decode cMd_demerits4 19 = .ok (.iadd, 1) := by decide +kernel
theorem dMd_demerits4_20 : decode cMd_demerits4 20 = .ok (.i2l, 1) := by decide +kernel
theorem dMd_demerits4_21 : decode cMd_demerits4 21 = .ok (.lstore 7, 2) := by decide +kernel
theorem dMd_demerits4_23 : decode cMd_demerits4 23 = .ok (.lload 7, 2) := by decide +kernel
theorem dMd_demerits4_25 : decode cMd_demerits4 25 = .ok (.lload 7, 2) := by decide +kernel
theorem dMd_demerits4_27 : decode cMd_demerits4 27 = .ok (.lmul, 1) := by decide +kernel
theorem dMd_demerits4_28 : decode cMd_demerits4 28 = .ok (.lstore 7, 2) := by decide +kernel
theorem dMd_demerits4_30 : decode cMd_demerits4 30 = .ok (.lload 5, 2) := by decide +kernel
theorem dMd_demerits4_32 : decode cMd_demerits4 32 = .ok (.lconst 0, 1) := by decide +kernel
theorem dMd_demerits4_33 : decode cMd_demerits4 33 = .ok (.lcmp, 1) := by decide +kernel
theorem dMd_demerits4_34 : decode cMd_demerits4 34 = .ok (.ifCond .lt 14, 3) := by decide +kernel
theorem dMd_demerits4_37 : decode cMd_demerits4 37 = .ok (.lload 7, 2) := by decide +kernel
theorem dMd_demerits4_39 : decode cMd_demerits4 39 = .ok (.lload 5, 2) := by decide +kernel
theorem dMd_demerits4_41 : decode cMd_demerits4 41 = .ok (.lload 5, 2) := by decide +kernel
theorem dMd_demerits4_43 : decode cMd_demerits4 43 = .ok (.lmul, 1) := by decide +kernel
theorem dMd_demerits4_44 : decode cMd_demerits4 44 = .ok (.ladd, 1) := by decide +kernel
theorem dMd_demerits4_45 : decode cMd_demerits4 45 = .ok (.goto 25, 3) := by decide +kernel
theorem dMd_demerits4_48 : decode cMd_demerits4 48 = .ok (.lload 5, 2) := by decide +kernel
theorem dMd_demerits4_50 : decode cMd_demerits4 50 = .ok (.ldc2_w 132, 3) := by decide +kernel
theorem dMd_demerits4_53 : decode cMd_demerits4 53 = .ok (.lcmp, 1) := by decide +kernel
theorem dMd_demerits4_54 : decode cMd_demerits4 54 = .ok (.ifCond .le 14, 3) := by decide +kernel
theorem dMd_demerits4_57 : decode cMd_demerits4 57 = .ok (.lload 7, 2) := by decide +kernel
theorem dMd_demerits4_59 : decode cMd_demerits4 59 = .ok (.lload 5, 2) := by decide +kernel
theorem dMd_demerits4_61 : decode cMd_demerits4 61 = .ok (.lload 5, 2) := by decide +kernel
theorem dMd_demerits4_63 : decode cMd_demerits4 63 = .ok (.lmul, 1) := by decide +kernel
theorem dMd_demerits4_64 : decode cMd_demerits4 64 = .ok (.lsub, 1) := by decide +kernel
theorem dMd_demerits4_65 : decode cMd_demerits4 65 = .ok (.goto 5, 3) := by decide +kernel
theorem dMd_demerits4_68 : decode cMd_demerits4 68 = .ok (.lload 7, 2) := by decide +kernel
theorem dMd_demerits4_70 : decode cMd_demerits4 70 = .ok (.lstore 7, 2) := by decide +kernel
theorem dMd_demerits4_72 : decode cMd_demerits4 72 = .ok (.aload_n 0, 1) := by decide +kernel
theorem dMd_demerits4_73 : decode cMd_demerits4 73 = .ok (.iload_n 2, 1) := by decide +kernel
theorem dMd_demerits4_74 : decode cMd_demerits4 74 = .ok (.invokevirtual 134, 3) := by decide +kernel
theorem dMd_demerits4_77 : decode cMd_demerits4 77 = .ok (.ifCond .eq 24, 3) := by decide +kernel
theorem dMd_demerits4_80 : decode cMd_demerits4 80 = .ok (.aload_n 0, 1) := by decide +kernel
theorem dMd_demerits4_81 : decode cMd_demerits4 81 = .ok (.iload_n 3, 1) := by decide +kernel
theorem dMd_demerits4_82 : decode cMd_demerits4 82 = .ok (.invokevirtual 134, 3) := by decide +kernel
theorem dMd_demerits4_85 : decode cMd_demerits4 85 = .ok (.ifCond .eq 16, 3) := by decide +kernel
theorem dMd_demerits4_88 : decode cMd_demerits4 88 = .ok (.lload 7, 2) := by decide +kernel
theorem dMd_demerits4_90 : decode cMd_demerits4 90 = .ok (.aload_n 0, 1) := by decide +kernel
theorem dMd_demerits4_91 : decode cMd_demerits4 91 = .ok (.getfield 35, 3) := by decide +kernel
theorem dMd_demerits4_94 : decode cMd_demerits4 94 = .ok (.iconst 1, 1) := by decide +kernel
theorem dMd_demerits4_95 : decode cMd_demerits4 95 = .ok (.iaload, 1) := by decide +kernel
theorem dMd_demerits4_96 : decode cMd_demerits4 96 = .ok (.i2l, 1) := by decide +kernel
theorem dMd_demerits4_97 : decode cMd_demerits4 97 = .ok (.ladd, 1) := by decide +kernel
theorem dMd_demerits4_98 : decode cMd_demerits4 98 = .ok (.goto 5, 3) := by decide +kernel
theorem dMd_demerits4_101 : decode cMd_demerits4 101 = .ok (.lload 7, 2) := by decide +kernel
theorem dMd_demerits4_103 : decode cMd_demerits4 103 = .ok (.lstore 7, 2) := by decide +kernel
theorem dMd_demerits4_105 : decode cMd_demerits4 105 = .ok (.aload_n 0, 1) := by decide +kernel
theorem dMd_demerits4_106 : decode cMd_demerits4 106 = .ok (.iload_n 2, 1) := by decide +kernel
theorem dMd_demerits4_107 : decode cMd_demerits4 107 = .ok (.invokevirtual 134, 3) := by decide +kernel
theorem dMd_demerits4_110 : decode cMd_demerits4 110 = .ok (.ifCond .eq 24, 3) := by decide +kernel
theorem dMd_demerits4_113 : decode cMd_demerits4 113 = .ok (.iload_n 3, 1) := by decide +kernel
theorem dMd_demerits4_114 : decode cMd_demerits4 114 = .ok (.aload_n 0, 1) := by decide +kernel
theorem dMd_demerits4_115 : decode cMd_demerits4 115 = .ok (.getfield 56, 3) := by decide +kernel
theorem dMd_demerits4_118 : decode cMd_demerits4 118 = .ok (.if_icmp .ne 16, 3) := by decide +kernel
theorem dMd_demerits4_121 : decode cMd_demerits4 121 = .ok (.lload 7, 2) := by decide +kernel
theorem dMd_demerits4_123 : decode cMd_demerits4 123 = .ok (.aload_n 0, 1) := by decide +kernel
theorem dMd_demerits4_124 : decode cMd_demerits4 124 = .ok (.getfield 35, 3) := by decide +kernel
theorem dMd_demerits4_127 : decode cMd_demerits4 127 = .ok (.iconst 2, 1) := by decide +kernel
theorem dMd_demerits4_128 : decode cMd_demerits4 128 = .ok (.iaload, 1) := by decide +kernel
theorem dMd_demerits4_129 : decode cMd_demerits4 129 = .ok (.i2l, 1) := by decide +kernel
theorem dMd_demerits4_130 : decode cMd_demerits4 130 = .ok (.ladd, 1) := by decide +kernel
theorem dMd_demerits4_131 : decode cMd_demerits4 131 = .ok (.goto 5, 3) := by decide +kernel
theorem dMd_demerits4_134 : decode cMd_demerits4 134 = .ok (.lload 7, 2) := by decide +kernel
theorem dMd_demerits4_136 : decode cMd_demerits4 136 = .ok (.lstore 7, 2) := by decide +kernel
theorem dMd_demerits4_138 : decode cMd_demerits4 138 = .ok (.aload_n 0, 1) := by decide +kernel
theorem dMd_demerits4_139 : decode cMd_demerits4 139 = .ok (.iload_n 1, 1) := by decide +kernel
theorem dMd_demerits4_140 : decode cMd_demerits4 140 = .ok (.invokevirtual 137, 3) := by decide +kernel
theorem dMd_demerits4_143 : decode cMd_demerits4 143 = .ok (.iload 4, 2) := by decide +kernel
theorem dMd_demerits4_145 : decode cMd_demerits4 145 = .ok (.isub, 1) := by decide +kernel
theorem dMd_demerits4_146 : decode cMd_demerits4 146 = .ok (.istore 9, 2) := by decide +kernel
theorem dMd_demerits4_148 : decode cMd_demerits4 148 = .ok (.iload 9, 2) := by decide +kernel
theorem dMd_demerits4_150 : decode cMd_demerits4 150 = .ok (.iconst 1, 1) := by decide +kernel
theorem dMd_demerits4_151 : decode cMd_demerits4 151 = .ok (.if_icmp .gt 9, 3) := by decide +kernel
theorem dMd_demerits4_154 : decode cMd_demerits4 154 = .ok (.iload 9, 2) := by decide +kernel
theorem dMd_demerits4_156 : decode cMd_demerits4 156 = .ok (.iconst (-1), 1) := by decide +kernel
theorem dMd_demerits4_157 : decode cMd_demerits4 157 = .ok (.if_icmp .ge 16, 3) := by decide +kernel
theorem dMd_demerits4_160 : decode cMd_demerits4 160 = .ok (.lload 7, 2) := by decide +kernel
theorem dMd_demerits4_162 : decode cMd_demerits4 162 = .ok (.aload_n 0, 1) := by decide +kernel
theorem dMd_demerits4_163 : decode cMd_demerits4 163 = .ok (.getfield 35, 3) := by decide +kernel
theorem dMd_demerits4_166 : decode cMd_demerits4 166 = .ok (.iconst 3, 1) := by decide +kernel
theorem dMd_demerits4_167 : decode cMd_demerits4 167 = .ok (.iaload, 1) := by decide +kernel
theorem dMd_demerits4_168 : decode cMd_demerits4 168 = .ok (.i2l, 1) := by decide +kernel
theorem dMd_demerits4_169 : decode cMd_demerits4 169 = .ok (.ladd, 1) := by decide +kernel
theorem dMd_demerits4_170 : decode cMd_demerits4 170 = .ok (.goto 5, 3) := by decide +kernel
theorem dMd_demerits4_173 : decode cMd_demerits4 173 = .ok (.lload 7, 2) := by decide +kernel
theorem dMd_demerits4_175 : decode cMd_demerits4 175 = .ok (.lreturn, 1) := by decide +kernel
theorem dMd_stateOf_0 : decode cMd_stateOf 0 = .ok (.iconst 4, 1) := by decide +kernel
theorem dMd_stateOf_1 : decode cMd_stateOf 1 = .ok (.bipush 41, 2) := by decide +kernel
theorem dMd_stateOf_3 : decode cMd_stateOf 3 = .ok (.iload_n 0, 1) := by decide +kernel
theorem dMd_stateOf_4 : decode cMd_stateOf 4 = .ok (.iconst 1, 1) := by decide +kernel
theorem dMd_stateOf_5 : decode cMd_stateOf 5 = .ok (.iadd, 1) := by decide +kernel
theorem dMd_stateOf_6 : decode cMd_stateOf 6 = .ok (.imul, 1) := by decide +kernel
theorem dMd_stateOf_7 : decode cMd_stateOf 7 = .ok (.iload_n 1, 1) := by decide +kernel
theorem dMd_stateOf_8 : decode cMd_stateOf 8 = .ok (.iadd, 1) := by decide +kernel
theorem dMd_stateOf_9 : decode cMd_stateOf 9 = .ok (.imul, 1) := by decide +kernel
theorem dMd_stateOf_10 : decode cMd_stateOf 10 = .ok (.iload_n 2, 1) := by decide +kernel
theorem dMd_stateOf_11 : decode cMd_stateOf 11 = .ok (.iadd, 1) := by decide +kernel
theorem dMd_stateOf_12 : decode cMd_stateOf 12 = .ok (.ireturn, 1) := by decide +kernel
theorem dMd_breakOf_0 : decode cMd_breakOf 0 = .ok (.iload_n 0, 1) := by decide +kernel
theorem dMd_breakOf_1 : decode cMd_breakOf 1 = .ok (.sipush 164, 3) := by decide +kernel
theorem dMd_breakOf_4 : decode cMd_breakOf 4 = .ok (.idiv, 1) := by decide +kernel
theorem dMd_breakOf_5 : decode cMd_breakOf 5 = .ok (.iconst 1, 1) := by decide +kernel
theorem dMd_breakOf_6 : decode cMd_breakOf 6 = .ok (.isub, 1) := by decide +kernel
theorem dMd_breakOf_7 : decode cMd_breakOf 7 = .ok (.ireturn, 1) := by decide +kernel
theorem dMd_isBefore_0 : decode cMd_isBefore 0 = .ok (.iload_n 1, 1) := by decide +kernel
theorem dMd_isBefore_1 : decode cMd_isBefore 1 = .ok (.istore_n 3, 1) := by decide +kernel
theorem dMd_isBefore_2 : decode cMd_isBefore 2 = .ok (.iload_n 2, 1) := by decide +kernel
theorem dMd_isBefore_3 : decode cMd_isBefore 3 = .ok (.istore 4, 2) := by decide +kernel
theorem dMd_isBefore_5 : decode cMd_isBefore 5 = .ok (.iload_n 3, 1) := by decide +kernel
theorem dMd_isBefore_6 : decode cMd_isBefore 6 = .ok (.iload 4, 2) := by decide +kernel
theorem dMd_isBefore_8 : decode cMd_isBefore 8 = .ok (.if_icmp .eq 34, 3) := by decide +kernel
theorem dMd_isBefore_11 : decode cMd_isBefore 11 = .ok (.iload_n 3, 1) := by decide +kernel
theorem dMd_isBefore_12 : decode cMd_isBefore 12 = .ok (.invokestatic 140, 3) := by decide +kernel
theorem dMd_isBefore_15 : decode cMd_isBefore 15 = .ok (.iload 4, 2) := by decide +kernel
theorem dMd_isBefore_17 : decode cMd_isBefore 17 = .ok (.invokestatic 140, 3) := by decide +kernel
theorem dMd_isBefore_20 : decode cMd_isBefore 20 = .ok (.if_icmp .ne 22, 3) := by decide +kernel
theorem dMd_isBefore_23 : decode cMd_isBefore 23 = .ok (.aload_n 0, 1) := by decide +kernel
theorem dMd_isBefore_24 : decode cMd_isBefore 24 = .ok (.getfield 49, 3) := by decide +kernel
theorem dMd_isBefore_27 : decode cMd_isBefore 27 = .ok (.iload_n 3, 1) := by decide +kernel
theorem dMd_isBefore_28 : decode cMd_isBefore 28 = .ok (.iaload, 1) := by decide +kernel
theorem dMd_isBefore_29 : decode cMd_isBefore 29 = .ok (.istore_n 3, 1) := by decide +kernel
theorem dMd_isBefore_30 : decode cMd_isBefore 30 = .ok (.aload_n 0, 1) := by decide +kernel
theorem dMd_isBefore_31 : decode cMd_isBefore 31 = .ok (.getfield 49, 3) := by decide +kernel
theorem dMd_isBefore_34 : decode cMd_isBefore 34 = .ok (.iload 4, 2) := by decide +kernel
theorem dMd_isBefore_36 : decode cMd_isBefore 36 = .ok (.iaload, 1) := by decide +kernel
theorem dMd_isBefore_37 : decode cMd_isBefore 37 = .ok (.istore 4, 2) := by decide +kernel
theorem dMd_isBefore_39 : decode cMd_isBefore 39 = .ok (.goto (-34), 3) := by decide +kernel
theorem dMd_isBefore_42 : decode cMd_isBefore 42 = .ok (.iload_n 3, 1) := by decide +kernel
theorem dMd_isBefore_43 : decode cMd_isBefore 43 = .ok (.iload 4, 2) := by decide +kernel
theorem dMd_isBefore_45 : decode cMd_isBefore 45 = .ok (.if_icmp .eq 19, 3) := by decide +kernel
theorem dMd_isBefore_48 : decode cMd_isBefore 48 = .ok (.iload_n 3, 1) := by decide +kernel
theorem dMd_isBefore_49 : decode cMd_isBefore 49 = .ok (.invokestatic 140, 3) := by decide +kernel
theorem dMd_isBefore_52 : decode cMd_isBefore 52 = .ok (.iload 4, 2) := by decide +kernel
theorem dMd_isBefore_54 : decode cMd_isBefore 54 = .ok (.invokestatic 140, 3) := by decide +kernel
theorem dMd_isBefore_57 : decode cMd_isBefore 57 = .ok (.if_icmp .ge 7, 3) := by decide +kernel
theorem dMd_isBefore_60 : decode cMd_isBefore 60 = .ok (.iconst 1, 1) := by decide +kernel
theorem dMd_isBefore_61 : decode cMd_isBefore 61 = .ok (.goto 4, 3) := by decide +kernel
theorem dMd_isBefore_64 : decode cMd_isBefore 64 = .ok (.iconst 0, 1) := by decide +kernel
theorem dMd_isBefore_65 : decode cMd_isBefore 65 = .ok (.ireturn, 1) := by decide +kernel
theorem dMd_reach_0 : decode cMd_reach 0 = .ok (.aload_n 0, 1) := by decide +kernel
theorem dMd_reach_1 : decode cMd_reach 1 = .ok (.getfield 42, 3) := by decide +kernel
theorem dMd_reach_4 : decode cMd_reach 4 = .ok (.iload_n 1, 1) := by decide +kernel
theorem dMd_reach_5 : decode cMd_reach 5 = .ok (.baload, 1) := by decide +kernel
theorem dMd_reach_6 : decode cMd_reach 6 = .ok (.ifCond .eq 40, 3) := by decide +kernel
theorem dMd_reach_9 : decode cMd_reach 9 = .ok (.lload_n 2, 1) := by decide +kernel
theorem dMd_reach_10 : decode cMd_reach 10 = .ok (.aload_n 0, 1) := by decide +kernel
theorem dMd_reach_11 : decode cMd_reach 11 = .ok (.getfield 45, 3) := by decide +kernel
theorem dMd_reach_14 : decode cMd_reach 14 = .ok (.iload_n 1, 1) := by decide +kernel
theorem dMd_reach_15 : decode cMd_reach 15 = .ok (.laload, 1) := by decide +kernel
theorem dMd_reach_16 : decode cMd_reach 16 = .ok (.lcmp, 1) := by decide +kernel
theorem dMd_reach_17 : decode cMd_reach 17 = .ok (.ifCond .lt 29, 3) := by decide +kernel
theorem dMd_reach_20 : decode cMd_reach 20 = .ok (.lload_n 2, 1) := by decide +kernel
theorem dMd_reach_21 : decode cMd_reach 21 = .ok (.aload_n 0, 1) := by decide +kernel
theorem dMd_reach_22 : decode cMd_reach 22 = .ok (.getfield 45, 3) := by decide +kernel
theorem dMd_reach_25 : decode cMd_reach 25 = .ok (.iload_n 1, 1) := by decide +kernel
theorem dMd_reach_26 : decode cMd_reach 26 = .ok (.laload, 1) := by decide +kernel
theorem dMd_reach_27 : decode cMd_reach 27 = .ok (.lcmp, 1) := by decide +kernel
theorem dMd_reach_28 : decode cMd_reach 28 = .ok (.ifCond .ne 22, 3) := by decide +kernel
theorem dMd_reach_31 : decode cMd_reach 31 = .ok (.aload_n 0, 1) := by decide +kernel
theorem dMd_reach_32 : decode cMd_reach 32 = .ok (.iload 4, 2) := by decide +kernel
theorem dMd_reach_34 : decode cMd_reach 34 = .ok (.aload_n 0, 1) := by decide +kernel
theorem dMd_reach_35 : decode cMd_reach 35 = .ok (.getfield 49, 3) := by decide +kernel
theorem dMd_reach_38 : decode cMd_reach 38 = .ok (.iload_n 1, 1) := by decide +kernel
theorem dMd_reach_39 : decode cMd_reach 39 = .ok (.iaload, 1) := by decide +kernel
theorem dMd_reach_40 : decode cMd_reach 40 = .ok (.invokevirtual 143, 3) := by decide +kernel
theorem dMd_reach_43 : decode cMd_reach 43 = .ok (.ifCond .eq 7, 3) := by decide +kernel
theorem dMd_reach_46 : decode cMd_reach 46 = .ok (.iconst 1, 1) := by decide +kernel
theorem dMd_reach_47 : decode cMd_reach 47 = .ok (.goto 4, 3) := by decide +kernel
theorem dMd_reach_50 : decode cMd_reach 50 = .ok (.iconst 0, 1) := by decide +kernel
theorem dMd_reach_51 : decode cMd_reach 51 = .ok (.istore 5, 2) := by decide +kernel
theorem dMd_reach_53 : decode cMd_reach 53 = .ok (.iload 5, 2) := by decide +kernel
theorem dMd_reach_55 : decode cMd_reach 55 = .ok (.ifCond .eq 25, 3) := by decide +kernel
theorem dMd_reach_58 : decode cMd_reach 58 = .ok (.aload_n 0, 1) := by decide +kernel
theorem dMd_reach_59 : decode cMd_reach 59 = .ok (.getfield 42, 3) := by decide +kernel
theorem dMd_reach_62 : decode cMd_reach 62 = .ok (.iload_n 1, 1) := by decide +kernel
theorem dMd_reach_63 : decode cMd_reach 63 = .ok (.iconst 1, 1) := by decide +kernel
theorem dMd_reach_64 : decode cMd_reach 64 = .ok (.bastore, 1) := by decide +kernel
theorem dMd_reach_65 : decode cMd_reach 65 = .ok (.aload_n 0, 1) := by decide +kernel
theorem dMd_reach_66 : decode cMd_reach 66 = .ok (.getfield 45, 3) := by decide +kernel
theorem dMd_reach_69 : decode cMd_reach 69 = .ok (.iload_n 1, 1) := by decide +kernel
theorem dMd_reach_70 : decode cMd_reach 70 = .ok (.lload_n 2, 1) := by decide +kernel
theorem dMd_reach_71 : decode cMd_reach 71 = .ok (.lastore, 1) := by decide +kernel
theorem dMd_reach_72 : decode cMd_reach 72 = .ok (.aload_n 0, 1) := by decide +kernel
theorem dMd_reach_73 : decode cMd_reach 73 = .ok (.getfield 49, 3) := by decide +kernel
theorem dMd_reach_76 : decode cMd_reach 76 = .ok (.iload_n 1, 1) := by decide +kernel
theorem dMd_reach_77 : decode cMd_reach 77 = .ok (.iload 4, 2) := by decide +kernel
theorem dMd_reach_79 : decode cMd_reach 79 = .ok (.iastore, 1) := by decide +kernel
theorem dMd_reach_80 : decode cMd_reach 80 = .ok (.return_, 1) := by decide +kernel
theorem dMd_tryLine_0 : decode cMd_tryLine 0 = .ok (.aload_n 0, 1) := by decide +kernel
theorem dMd_tryLine_1 : decode cMd_tryLine 1 = .ok (.iload_n 1, 1) := by decide +kernel
theorem dMd_tryLine_2 : decode cMd_tryLine 2 = .ok (.iload_n 2, 1) := by decide +kernel
theorem dMd_tryLine_3 : decode cMd_tryLine 3 = .ok (.invokevirtual 146, 3) := by decide +kernel
theorem dMd_tryLine_6 : decode cMd_tryLine 6 = .ok (.iconst 0, 1) := by decide +kernel
theorem dMd_tryLine_7 : decode cMd_tryLine 7 = .ok (.istore_n 3, 1) := by decide +kernel
theorem dMd_tryLine_8 : decode cMd_tryLine 8 = .ok (.iload_n 3, 1) := by decide +kernel
theorem dMd_tryLine_9 : decode cMd_tryLine 9 = .ok (.bipush 40, 2) := by decide +kernel
theorem dMd_tryLine_11 : decode cMd_tryLine 11 = .ok (.if_icmp .ge 100, 3) := by decide +kernel
theorem dMd_tryLine_14 : decode cMd_tryLine 14 = .ok (.iconst 0, 1) := by decide +kernel
theorem dMd_tryLine_15 : decode cMd_tryLine 15 = .ok (.istore 4, 2) := by decide +kernel
theorem dMd_tryLine_17 : decode cMd_tryLine 17 = .ok (.iload 4, 2) := by decide +kernel
theorem dMd_tryLine_19 : decode cMd_tryLine 19 = .ok (.iconst 4, 1) := by decide +kernel
theorem dMd_tryLine_20 : decode cMd_tryLine 20 = .ok (.if_icmp .ge 85, 3) := by decide +kernel
theorem dMd_tryLine_23 : decode cMd_tryLine 23 = .ok (.iload_n 1, 1) := by decide +kernel
theorem dMd_tryLine_24 : decode cMd_tryLine 24 = .ok (.iload_n 3, 1) := by decide +kernel
theorem dMd_tryLine_25 : decode cMd_tryLine 25 = .ok (.iload 4, 2) := by decide +kernel
theorem dMd_tryLine_27 : decode cMd_tryLine 27 = .ok (.invokestatic 150, 3) := by decide +kernel
theorem dMd_tryLine_30 : decode cMd_tryLine 30 = .ok (.istore 5, 2) := by decide +kernel
theorem dMd_tryLine_32 : decode cMd_tryLine 32 = .ok (.aload_n 0, 1) := by decide +kernel
theorem dMd_tryLine_33 : decode cMd_tryLine 33 = .ok (.getfield 42, 3) := by decide +kernel
theorem dMd_tryLine_36 : decode cMd_tryLine 36 = .ok (.iload 5, 2) := by decide +kernel
theorem dMd_tryLine_38 : decode cMd_tryLine 38 = .ok (.baload, 1) := by decide +kernel
theorem dMd_tryLine_39 : decode cMd_tryLine 39 = .ok (.ifCond .eq 60, 3) := by decide +kernel
theorem dMd_tryLine_42 : decode cMd_tryLine 42 = .ok (.aload_n 0, 1) := by decide +kernel
theorem dMd_tryLine_43 : decode cMd_tryLine 43 = .ok (.iload_n 3, 1) := by decide +kernel
theorem dMd_tryLine_44 : decode cMd_tryLine 44 = .ok (.invokevirtual 126, 3) := by decide +kernel
theorem dMd_tryLine_47 : decode cMd_tryLine 47 = .ok (.ifCond .ne 52, 3) := by decide +kernel
theorem dMd_tryLine_50 : decode cMd_tryLine 50 = .ok (.aload_n 0, 1) := by decide +kernel
theorem dMd_tryLine_51 : decode cMd_tryLine 51 = .ok (.iload_n 3, 1) := by decide +kernel
theorem dMd_tryLine_52 : decode cMd_tryLine 52 = .ok (.invokevirtual 129, 3) := by decide +kernel
theorem dMd_tryLine_55 : decode cMd_tryLine 55 = .ok (.i2l, 1) := by decide +kernel
theorem dMd_tryLine_56 : decode cMd_tryLine 56 = .ok (.aload_n 0, 1) := by decide +kernel
theorem dMd_tryLine_57 : decode cMd_tryLine 57 = .ok (.getfield 154, 3) := by decide +kernel
theorem dMd_tryLine_60 : decode cMd_tryLine 60 = .ok (.lcmp, 1) := by decide +kernel
theorem dMd_tryLine_61 : decode cMd_tryLine 61 = .ok (.ifCond .gt 38, 3) := by decide +kernel
theorem dMd_tryLine_64 : decode cMd_tryLine 64 = .ok (.aload_n 0, 1) := by decide +kernel
theorem dMd_tryLine_65 : decode cMd_tryLine 65 = .ok (.iload_n 2, 1) := by decide +kernel
theorem dMd_tryLine_66 : decode cMd_tryLine 66 = .ok (.iload_n 3, 1) := by decide +kernel
theorem dMd_tryLine_67 : decode cMd_tryLine 67 = .ok (.iconst 1, 1) := by decide +kernel
theorem dMd_tryLine_68 : decode cMd_tryLine 68 = .ok (.iadd, 1) := by decide +kernel
theorem dMd_tryLine_69 : decode cMd_tryLine 69 = .ok (.aload_n 0, 1) := by decide +kernel
theorem dMd_tryLine_70 : decode cMd_tryLine 70 = .ok (.iload_n 3, 1) := by decide +kernel
theorem dMd_tryLine_71 : decode cMd_tryLine 71 = .ok (.invokevirtual 137, 3) := by decide +kernel
theorem dMd_tryLine_74 : decode cMd_tryLine 74 = .ok (.invokestatic 150, 3) := by decide +kernel
theorem dMd_tryLine_77 : decode cMd_tryLine 77 = .ok (.aload_n 0, 1) := by decide +kernel
theorem dMd_tryLine_78 : decode cMd_tryLine 78 = .ok (.getfield 45, 3) := by decide +kernel
theorem dMd_tryLine_81 : decode cMd_tryLine 81 = .ok (.iload 5, 2) := by decide +kernel
theorem dMd_tryLine_83 : decode cMd_tryLine 83 = .ok (.laload, 1) := by decide +kernel
theorem dMd_tryLine_84 : decode cMd_tryLine 84 = .ok (.aload_n 0, 1) := by decide +kernel
theorem dMd_tryLine_85 : decode cMd_tryLine 85 = .ok (.iload_n 3, 1) := by decide +kernel
theorem dMd_tryLine_86 : decode cMd_tryLine 86 = .ok (.iload_n 1, 1) := by decide +kernel
theorem dMd_tryLine_87 : decode cMd_tryLine 87 = .ok (.iload_n 2, 1) := by decide +kernel
theorem dMd_tryLine_88 : decode cMd_tryLine 88 = .ok (.iload 4, 2) := by decide +kernel
theorem dMd_tryLine_90 : decode cMd_tryLine 90 = .ok (.invokevirtual 157, 3) := by decide +kernel
theorem dMd_tryLine_93 : decode cMd_tryLine 93 = .ok (.ladd, 1) := by decide +kernel
theorem dMd_tryLine_94 : decode cMd_tryLine 94 = .ok (.iload 5, 2) := by decide +kernel
theorem dMd_tryLine_96 : decode cMd_tryLine 96 = .ok (.invokevirtual 161, 3) := by decide +kernel
theorem dMd_tryLine_99 : decode cMd_tryLine 99 = .ok (.iinc 4 1, 3) := by decide +kernel
theorem dMd_tryLine_102 : decode cMd_tryLine 102 = .ok (.goto (-85), 3) := by decide +kernel
theorem dMd_tryLine_105 : decode cMd_tryLine 105 = .ok (.iinc 3 1, 3) := by decide +kernel
theorem dMd_tryLine_108 : decode cMd_tryLine 108 = .ok (.goto (-100), 3) := by decide +kernel
theorem dMd_tryLine_111 : decode cMd_tryLine 111 = .ok (.return_, 1) := by decide +kernel
theorem dMd_findWays_0 : decode cMd_findWays 0 = .ok (.iconst 0, 1) := by decide +kernel
theorem dMd_findWays_1 : decode cMd_findWays 1 = .ok (.istore_n 1, 1) := by decide +kernel
theorem dMd_findWays_2 : decode cMd_findWays 2 = .ok (.iload_n 1, 1) := by decide +kernel
theorem dMd_findWays_3 : decode cMd_findWays 3 = .ok (.ldc 41, 2) := by decide +kernel
theorem dMd_findWays_5 : decode cMd_findWays 5 = .ok (.if_icmp .ge 16, 3) := by decide +kernel
theorem dMd_findWays_8 : decode cMd_findWays 8 = .ok (.aload_n 0, 1) := by decide +kernel
theorem dMd_findWays_9 : decode cMd_findWays 9 = .ok (.getfield 42, 3) := by decide +kernel
theorem dMd_findWays_12 : decode cMd_findWays 12 = .ok (.iload_n 1, 1) := by decide +kernel
theorem dMd_findWays_13 : decode cMd_findWays 13 = .ok (.iconst 0, 1) := by decide +kernel
theorem dMd_findWays_14 : decode cMd_findWays 14 = .ok (.bastore, 1) := by decide +kernel
theorem dMd_findWays_15 : decode cMd_findWays 15 = .ok (.iinc 1 1, 3) := by decide +kernel
theorem dMd_findWays_18 : decode cMd_findWays 18 = .ok (.goto (-16), 3) := by decide +kernel
theorem dMd_findWays_21 : decode cMd_findWays 21 = .ok (.aload_n 0, 1) := by decide +kernel
theorem dMd_findWays_22 : decode cMd_findWays 22 = .ok (.getfield 42, 3) := by decide +kernel
theorem dMd_findWays_25 : decode cMd_findWays 25 = .ok (.iconst (-1), 1) := by decide +kernel
theorem dMd_findWays_26 : decode cMd_findWays 26 = .ok (.iconst 0, 1) := by decide +kernel
theorem dMd_findWays_27 : decode cMd_findWays 27 = .ok (.iconst 2, 1) := by decide +kernel
theorem dMd_findWays_28 : decode cMd_findWays 28 = .ok (.invokestatic 150, 3) := by decide +kernel
theorem dMd_findWays_31 : decode cMd_findWays 31 = .ok (.iconst 1, 1) := by decide +kernel
theorem dMd_findWays_32 : decode cMd_findWays 32 = .ok (.bastore, 1) := by decide +kernel
theorem dMd_findWays_33 : decode cMd_findWays 33 = .ok (.aload_n 0, 1) := by decide +kernel
theorem dMd_findWays_34 : decode cMd_findWays 34 = .ok (.getfield 45, 3) := by decide +kernel
theorem dMd_findWays_37 : decode cMd_findWays 37 = .ok (.iconst (-1), 1) := by decide +kernel
theorem dMd_findWays_38 : decode cMd_findWays 38 = .ok (.iconst 0, 1) := by decide +kernel
theorem dMd_findWays_39 : decode cMd_findWays 39 = .ok (.iconst 2, 1) := by decide +kernel
theorem dMd_findWays_40 : decode cMd_findWays 40 = .ok (.invokestatic 150, 3) := by decide +kernel
theorem dMd_findWays_43 : decode cMd_findWays 43 = .ok (.lconst 0, 1) := by decide +kernel
theorem dMd_findWays_44 : decode cMd_findWays 44 = .ok (.lastore, 1) := by decide +kernel
theorem dMd_findWays_45 : decode cMd_findWays 45 = .ok (.aload_n 0, 1) := by decide +kernel
theorem dMd_findWays_46 : decode cMd_findWays 46 = .ok (.getfield 49, 3) := by decide +kernel
theorem dMd_findWays_49 : decode cMd_findWays 49 = .ok (.iconst (-1), 1) := by decide +kernel
theorem dMd_findWays_50 : decode cMd_findWays 50 = .ok (.iconst 0, 1) := by decide +kernel
theorem dMd_findWays_51 : decode cMd_findWays 51 = .ok (.iconst 2, 1) := by decide +kernel
theorem dMd_findWays_52 : decode cMd_findWays 52 = .ok (.invokestatic 150, 3) := by decide +kernel
theorem dMd_findWays_55 : decode cMd_findWays 55 = .ok (.iconst (-1), 1) := by decide +kernel
theorem dMd_findWays_56 : decode cMd_findWays 56 = .ok (.iastore, 1) := by decide +kernel
theorem dMd_findWays_57 : decode cMd_findWays 57 = .ok (.iconst (-1), 1) := by decide +kernel
theorem dMd_findWays_58 : decode cMd_findWays 58 = .ok (.istore_n 1, 1) := by decide +kernel
theorem dMd_findWays_59 : decode cMd_findWays 59 = .ok (.iload_n 1, 1) := by decide +kernel
theorem dMd_findWays_60 : decode cMd_findWays 60 = .ok (.aload_n 0, 1) := by decide +kernel
theorem dMd_findWays_61 : decode cMd_findWays 61 = .ok (.getfield 56, 3) := by decide +kernel
theorem dMd_findWays_64 : decode cMd_findWays 64 = .ok (.if_icmp .ge 59, 3) := by decide +kernel
theorem dMd_findWays_67 : decode cMd_findWays 67 = .ok (.iload_n 1, 1) := by decide +kernel
theorem dMd_findWays_68 : decode cMd_findWays 68 = .ok (.ifCond .lt 11, 3) := by decide +kernel
theorem dMd_findWays_71 : decode cMd_findWays 71 = .ok (.aload_n 0, 1) := by decide +kernel
theorem dMd_findWays_72 : decode cMd_findWays 72 = .ok (.iload_n 1, 1) := by decide +kernel
theorem dMd_findWays_73 : decode cMd_findWays 73 = .ok (.invokevirtual 84, 3) := by decide +kernel
theorem dMd_findWays_76 : decode cMd_findWays 76 = .ok (.ifCond .eq 41, 3) := by decide +kernel
theorem dMd_findWays_79 : decode cMd_findWays 79 = .ok (.iload_n 1, 1) := by decide +kernel
theorem dMd_findWays_80 : decode cMd_findWays 80 = .ok (.iconst 1, 1) := by decide +kernel
theorem dMd_findWays_81 : decode cMd_findWays 81 = .ok (.iadd, 1) := by decide +kernel
theorem dMd_findWays_82 : decode cMd_findWays 82 = .ok (.istore_n 2, 1) := by decide +kernel
theorem dMd_findWays_83 : decode cMd_findWays 83 = .ok (.aload_n 0, 1) := by decide +kernel
theorem dMd_findWays_84 : decode cMd_findWays 84 = .ok (.iload_n 2, 1) := by decide +kernel
theorem dMd_findWays_85 : decode cMd_findWays 85 = .ok (.invokevirtual 165, 3) := by decide +kernel
theorem dMd_findWays_88 : decode cMd_findWays 88 = .ok (.ifCond .ne 23, 3) := by decide +kernel
theorem dMd_findWays_91 : decode cMd_findWays 91 = .ok (.aload_n 0, 1) := by decide +kernel
theorem dMd_findWays_92 : decode cMd_findWays 92 = .ok (.iload_n 2, 1) := by decide +kernel
theorem dMd_findWays_93 : decode cMd_findWays 93 = .ok (.invokevirtual 84, 3) := by decide +kernel
theorem dMd_findWays_96 : decode cMd_findWays 96 = .ok (.ifCond .eq 9, 3) := by decide +kernel
theorem dMd_findWays_99 : decode cMd_findWays 99 = .ok (.aload_n 0, 1) := by decide +kernel
theorem dMd_findWays_100 : decode cMd_findWays 100 = .ok (.iload_n 1, 1) := by decide +kernel
theorem dMd_findWays_101 : decode cMd_findWays 101 = .ok (.iload_n 2, 1) := by decide +kernel
theorem dMd_findWays_102 : decode cMd_findWays 102 = .ok (.invokevirtual 168, 3) := by decide +kernel
theorem dMd_findWays_105 : decode cMd_findWays 105 = .ok (.iinc 2 1, 3) := by decide +kernel
theorem dMd_findWays_108 : decode cMd_findWays 108 = .ok (.goto (-25), 3) := by decide +kernel
theorem dMd_findWays_111 : decode cMd_findWays 111 = .ok (.aload_n 0, 1) := by decide +kernel
theorem dMd_findWays_112 : decode cMd_findWays 112 = .ok (.iload_n 1, 1) := by decide +kernel
theorem dMd_findWays_113 : decode cMd_findWays 113 = .ok (.iload_n 2, 1) := by decide +kernel
theorem dMd_findWays_114 : decode cMd_findWays 114 = .ok (.invokevirtual 168, 3) := by decide +kernel
theorem dMd_findWays_117 : decode cMd_findWays 117 = .ok (.iinc 1 1, 3) := by decide +kernel
theorem dMd_findWays_120 : decode cMd_findWays 120 = .ok (.goto (-61), 3) := by decide +kernel
theorem dMd_findWays_123 : decode cMd_findWays 123 = .ok (.return_, 1) := by decide +kernel
theorem dMd_bestWith_0 : decode cMd_bestWith 0 = .ok (.iconst (-1), 1) := by decide +kernel
theorem dMd_bestWith_1 : decode cMd_bestWith 1 = .ok (.istore_n 2, 1) := by decide +kernel
theorem dMd_bestWith_2 : decode cMd_bestWith 2 = .ok (.iconst 0, 1) := by decide +kernel
theorem dMd_bestWith_3 : decode cMd_bestWith 3 = .ok (.istore_n 3, 1) := by decide +kernel
theorem dMd_bestWith_4 : decode cMd_bestWith 4 = .ok (.iload_n 3, 1) := by decide +kernel
theorem dMd_bestWith_5 : decode cMd_bestWith 5 = .ok (.iconst 4, 1) := by decide +kernel
theorem dMd_bestWith_6 : decode cMd_bestWith 6 = .ok (.if_icmp .ge 97, 3) := by decide +kernel
theorem dMd_bestWith_9 : decode cMd_bestWith 9 = .ok (.aload_n 0, 1) := by decide +kernel
theorem dMd_bestWith_10 : decode cMd_bestWith 10 = .ok (.getfield 56, 3) := by decide +kernel
theorem dMd_bestWith_13 : decode cMd_bestWith 13 = .ok (.iload_n 1, 1) := by decide +kernel
theorem dMd_bestWith_14 : decode cMd_bestWith 14 = .ok (.iload_n 3, 1) := by decide +kernel
theorem dMd_bestWith_15 : decode cMd_bestWith 15 = .ok (.invokestatic 150, 3) := by decide +kernel
theorem dMd_bestWith_18 : decode cMd_bestWith 18 = .ok (.istore 4, 2) := by decide +kernel
theorem dMd_bestWith_20 : decode cMd_bestWith 20 = .ok (.aload_n 0, 1) := by decide +kernel
theorem dMd_bestWith_21 : decode cMd_bestWith 21 = .ok (.getfield 42, 3) := by decide +kernel
theorem dMd_bestWith_24 : decode cMd_bestWith 24 = .ok (.iload 4, 2) := by decide +kernel
theorem dMd_bestWith_26 : decode cMd_bestWith 26 = .ok (.baload, 1) := by decide +kernel
theorem dMd_bestWith_27 : decode cMd_bestWith 27 = .ok (.ifCond .eq 55, 3) := by decide +kernel
theorem dMd_bestWith_30 : decode cMd_bestWith 30 = .ok (.iload_n 2, 1) := by decide +kernel
theorem dMd_bestWith_31 : decode cMd_bestWith 31 = .ok (.ifCond .lt 47, 3) := by decide +kernel
theorem dMd_bestWith_34 : decode cMd_bestWith 34 = .ok (.aload_n 0, 1) := by decide +kernel
theorem dMd_bestWith_35 : decode cMd_bestWith 35 = .ok (.getfield 45, 3) := by decide +kernel
theorem dMd_bestWith_38 : decode cMd_bestWith 38 = .ok (.iload 4, 2) := by decide +kernel
theorem dMd_bestWith_40 : decode cMd_bestWith 40 = .ok (.laload, 1) := by decide +kernel
theorem dMd_bestWith_41 : decode cMd_bestWith 41 = .ok (.aload_n 0, 1) := by decide +kernel
theorem dMd_bestWith_42 : decode cMd_bestWith 42 = .ok (.getfield 45, 3) := by decide +kernel
theorem dMd_bestWith_45 : decode cMd_bestWith 45 = .ok (.iload_n 2, 1) := by decide +kernel
theorem dMd_bestWith_46 : decode cMd_bestWith 46 = .ok (.laload, 1) := by decide +kernel
theorem dMd_bestWith_47 : decode cMd_bestWith 47 = .ok (.lcmp, 1) := by decide +kernel
theorem dMd_bestWith_48 : decode cMd_bestWith 48 = .ok (.ifCond .lt 30, 3) := by decide +kernel
theorem dMd_bestWith_51 : decode cMd_bestWith 51 = .ok (.aload_n 0, 1) := by decide +kernel
theorem dMd_bestWith_52 : decode cMd_bestWith 52 = .ok (.getfield 45, 3) := by decide +kernel
theorem dMd_bestWith_55 : decode cMd_bestWith 55 = .ok (.iload 4, 2) := by decide +kernel
theorem dMd_bestWith_57 : decode cMd_bestWith 57 = .ok (.laload, 1) := by decide +kernel
theorem dMd_bestWith_58 : decode cMd_bestWith 58 = .ok (.aload_n 0, 1) := by decide +kernel
theorem dMd_bestWith_59 : decode cMd_bestWith 59 = .ok (.getfield 45, 3) := by decide +kernel
theorem dMd_bestWith_62 : decode cMd_bestWith 62 = .ok (.iload_n 2, 1) := by decide +kernel
theorem dMd_bestWith_63 : decode cMd_bestWith 63 = .ok (.laload, 1) := by decide +kernel
theorem dMd_bestWith_64 : decode cMd_bestWith 64 = .ok (.lcmp, 1) := by decide +kernel
theorem dMd_bestWith_65 : decode cMd_bestWith 65 = .ok (.ifCond .ne 17, 3) := by decide +kernel
theorem dMd_bestWith_68 : decode cMd_bestWith 68 = .ok (.aload_n 0, 1) := by decide +kernel
theorem dMd_bestWith_69 : decode cMd_bestWith 69 = .ok (.iload 4, 2) := by decide +kernel
theorem dMd_bestWith_71 : decode cMd_bestWith 71 = .ok (.iload_n 2, 1) := by decide +kernel
theorem dMd_bestWith_72 : decode cMd_bestWith 72 = .ok (.invokevirtual 143, 3) := by decide +kernel
theorem dMd_bestWith_75 : decode cMd_bestWith 75 = .ok (.ifCond .eq 7, 3) := by decide +kernel
theorem dMd_bestWith_78 : decode cMd_bestWith 78 = .ok (.iconst 1, 1) := by decide +kernel
theorem dMd_bestWith_79 : decode cMd_bestWith 79 = .ok (.goto 4, 3) := by decide +kernel
theorem dMd_bestWith_82 : decode cMd_bestWith 82 = .ok (.iconst 0, 1) := by decide +kernel
theorem dMd_bestWith_83 : decode cMd_bestWith 83 = .ok (.istore 5, 2) := by decide +kernel
theorem dMd_bestWith_85 : decode cMd_bestWith 85 = .ok (.iload 5, 2) := by decide +kernel
theorem dMd_bestWith_87 : decode cMd_bestWith 87 = .ok (.ifCond .eq 8, 3) := by decide +kernel
theorem dMd_bestWith_90 : decode cMd_bestWith 90 = .ok (.iload 4, 2) := by decide +kernel
theorem dMd_bestWith_92 : decode cMd_bestWith 92 = .ok (.goto 4, 3) := by decide +kernel
theorem dMd_bestWith_95 : decode cMd_bestWith 95 = .ok (.iload_n 2, 1) := by decide +kernel
theorem dMd_bestWith_96 : decode cMd_bestWith 96 = .ok (.istore_n 2, 1) := by decide +kernel
theorem dMd_bestWith_97 : decode cMd_bestWith 97 = .ok (.iinc 3 1, 3) := by decide +kernel
theorem dMd_bestWith_100 : decode cMd_bestWith 100 = .ok (.goto (-96), 3) := by decide +kernel
theorem dMd_bestWith_103 : decode cMd_bestWith 103 = .ok (.iload_n 2, 1) := by decide +kernel
theorem dMd_bestWith_104 : decode cMd_bestWith 104 = .ok (.ireturn, 1) := by decide +kernel
theorem dMd_bestOfAll_0 : decode cMd_bestOfAll 0 = .ok (.iconst (-1), 1) := by decide +kernel
theorem dMd_bestOfAll_1 : decode cMd_bestOfAll 1 = .ok (.istore_n 1, 1) := by decide +kernel
theorem dMd_bestOfAll_2 : decode cMd_bestOfAll 2 = .ok (.iconst 1, 1) := by decide +kernel
theorem dMd_bestOfAll_3 : decode cMd_bestOfAll 3 = .ok (.istore_n 2, 1) := by decide +kernel
theorem dMd_bestOfAll_4 : decode cMd_bestOfAll 4 = .ok (.iload_n 2, 1) := by decide +kernel
theorem dMd_bestOfAll_5 : decode cMd_bestOfAll 5 = .ok (.bipush 40, 2) := by decide +kernel
theorem dMd_bestOfAll_7 : decode cMd_bestOfAll 7 = .ok (.if_icmp .gt 45, 3) := by decide +kernel
theorem dMd_bestOfAll_10 : decode cMd_bestOfAll 10 = .ok (.aload_n 0, 1) := by decide +kernel
theorem dMd_bestOfAll_11 : decode cMd_bestOfAll 11 = .ok (.iload_n 2, 1) := by decide +kernel
theorem dMd_bestOfAll_12 : decode cMd_bestOfAll 12 = .ok (.invokevirtual 171, 3) := by decide +kernel
theorem dMd_bestOfAll_15 : decode cMd_bestOfAll 15 = .ok (.istore_n 3, 1) := by decide +kernel
theorem dMd_bestOfAll_16 : decode cMd_bestOfAll 16 = .ok (.iload_n 3, 1) := by decide +kernel
theorem dMd_bestOfAll_17 : decode cMd_bestOfAll 17 = .ok (.ifCond .lt 27, 3) := by decide +kernel
theorem dMd_bestOfAll_20 : decode cMd_bestOfAll 20 = .ok (.iload_n 1, 1) := by decide +kernel
theorem dMd_bestOfAll_21 : decode cMd_bestOfAll 21 = .ok (.ifCond .lt 19, 3) := by decide +kernel
theorem dMd_bestOfAll_24 : decode cMd_bestOfAll 24 = .ok (.aload_n 0, 1) := by decide +kernel
theorem dMd_bestOfAll_25 : decode cMd_bestOfAll 25 = .ok (.getfield 45, 3) := by decide +kernel
theorem dMd_bestOfAll_28 : decode cMd_bestOfAll 28 = .ok (.iload_n 3, 1) := by decide +kernel
theorem dMd_bestOfAll_29 : decode cMd_bestOfAll 29 = .ok (.laload, 1) := by decide +kernel
theorem dMd_bestOfAll_30 : decode cMd_bestOfAll 30 = .ok (.aload_n 0, 1) := by decide +kernel
theorem dMd_bestOfAll_31 : decode cMd_bestOfAll 31 = .ok (.getfield 45, 3) := by decide +kernel
theorem dMd_bestOfAll_34 : decode cMd_bestOfAll 34 = .ok (.iload_n 1, 1) := by decide +kernel
theorem dMd_bestOfAll_35 : decode cMd_bestOfAll 35 = .ok (.laload, 1) := by decide +kernel
theorem dMd_bestOfAll_36 : decode cMd_bestOfAll 36 = .ok (.lcmp, 1) := by decide +kernel
theorem dMd_bestOfAll_37 : decode cMd_bestOfAll 37 = .ok (.ifCond .ge 7, 3) := by decide +kernel
theorem dMd_bestOfAll_40 : decode cMd_bestOfAll 40 = .ok (.iload_n 3, 1) := by decide +kernel
theorem dMd_bestOfAll_41 : decode cMd_bestOfAll 41 = .ok (.goto 4, 3) := by decide +kernel
theorem dMd_bestOfAll_44 : decode cMd_bestOfAll 44 = .ok (.iload_n 1, 1) := by decide +kernel
theorem dMd_bestOfAll_45 : decode cMd_bestOfAll 45 = .ok (.istore_n 1, 1) := by decide +kernel
theorem dMd_bestOfAll_46 : decode cMd_bestOfAll 46 = .ok (.iinc 2 1, 3) := by decide +kernel
theorem dMd_bestOfAll_49 : decode cMd_bestOfAll 49 = .ok (.goto (-45), 3) := by decide +kernel
theorem dMd_bestOfAll_52 : decode cMd_bestOfAll 52 = .ok (.iload_n 1, 1) := by decide +kernel
theorem dMd_bestOfAll_53 : decode cMd_bestOfAll 53 = .ok (.ireturn, 1) := by decide +kernel
theorem dMd_far_0 : decode cMd_far 0 = .ok (.iload_n 0, 1) := by decide +kernel
theorem dMd_far_1 : decode cMd_far 1 = .ok (.iload_n 1, 1) := by decide +kernel
theorem dMd_far_2 : decode cMd_far 2 = .ok (.if_icmp .ge 9, 3) := by decide +kernel
theorem dMd_far_5 : decode cMd_far 5 = .ok (.iload_n 1, 1) := by decide +kernel
theorem dMd_far_6 : decode cMd_far 6 = .ok (.iload_n 0, 1) := by decide +kernel
theorem dMd_far_7 : decode cMd_far 7 = .ok (.isub, 1) := by decide +kernel
theorem dMd_far_8 : decode cMd_far 8 = .ok (.goto 6, 3) := by decide +kernel
theorem dMd_far_11 : decode cMd_far 11 = .ok (.iload_n 0, 1) := by decide +kernel
theorem dMd_far_12 : decode cMd_far 12 = .ok (.iload_n 1, 1) := by decide +kernel
theorem dMd_far_13 : decode cMd_far 13 = .ok (.isub, 1) := by decide +kernel
theorem dMd_far_14 : decode cMd_far 14 = .ok (.ireturn, 1) := by decide +kernel
theorem dMd_wanted_0 : decode cMd_wanted 0 = .ok (.iload_n 1, 1) := by decide +kernel
theorem dMd_wanted_1 : decode cMd_wanted 1 = .ok (.aload_n 0, 1) := by decide +kernel
theorem dMd_wanted_2 : decode cMd_wanted 2 = .ok (.getfield 35, 3) := by decide +kernel
theorem dMd_wanted_5 : decode cMd_wanted 5 = .ok (.bipush 7, 2) := by decide +kernel
theorem dMd_wanted_7 : decode cMd_wanted 7 = .ok (.iaload, 1) := by decide +kernel
theorem dMd_wanted_8 : decode cMd_wanted 8 = .ok (.iadd, 1) := by decide +kernel
theorem dMd_wanted_9 : decode cMd_wanted 9 = .ok (.istore_n 2, 1) := by decide +kernel
theorem dMd_wanted_10 : decode cMd_wanted 10 = .ok (.iload_n 1, 1) := by decide +kernel
theorem dMd_wanted_11 : decode cMd_wanted 11 = .ok (.istore_n 3, 1) := by decide +kernel
theorem dMd_wanted_12 : decode cMd_wanted 12 = .ok (.bipush 40, 2) := by decide +kernel
theorem dMd_wanted_14 : decode cMd_wanted 14 = .ok (.istore 4, 2) := by decide +kernel
theorem dMd_wanted_16 : decode cMd_wanted 16 = .ok (.iload 4, 2) := by decide +kernel
theorem dMd_wanted_18 : decode cMd_wanted 18 = .ok (.ifCond .le 59, 3) := by decide +kernel
theorem dMd_wanted_21 : decode cMd_wanted 21 = .ok (.aload_n 0, 1) := by decide +kernel
theorem dMd_wanted_22 : decode cMd_wanted 22 = .ok (.iload 4, 2) := by decide +kernel
theorem dMd_wanted_24 : decode cMd_wanted 24 = .ok (.invokevirtual 171, 3) := by decide +kernel
theorem dMd_wanted_27 : decode cMd_wanted 27 = .ok (.ifCond .lt 42, 3) := by decide +kernel
theorem dMd_wanted_30 : decode cMd_wanted 30 = .ok (.iload 4, 2) := by decide +kernel
theorem dMd_wanted_32 : decode cMd_wanted 32 = .ok (.iload_n 2, 1) := by decide +kernel
theorem dMd_wanted_33 : decode cMd_wanted 33 = .ok (.invokestatic 174, 3) := by decide +kernel
theorem dMd_wanted_36 : decode cMd_wanted 36 = .ok (.iload_n 3, 1) := by decide +kernel
theorem dMd_wanted_37 : decode cMd_wanted 37 = .ok (.iload_n 2, 1) := by decide +kernel
theorem dMd_wanted_38 : decode cMd_wanted 38 = .ok (.invokestatic 174, 3) := by decide +kernel
theorem dMd_wanted_41 : decode cMd_wanted 41 = .ok (.if_icmp .gt 28, 3) := by decide +kernel
theorem dMd_wanted_44 : decode cMd_wanted 44 = .ok (.iload 4, 2) := by decide +kernel
theorem dMd_wanted_46 : decode cMd_wanted 46 = .ok (.iload_n 2, 1) := by decide +kernel
theorem dMd_wanted_47 : decode cMd_wanted 47 = .ok (.invokestatic 174, 3) := by decide +kernel
theorem dMd_wanted_50 : decode cMd_wanted 50 = .ok (.iload_n 3, 1) := by decide +kernel
theorem dMd_wanted_51 : decode cMd_wanted 51 = .ok (.iload_n 2, 1) := by decide +kernel
theorem dMd_wanted_52 : decode cMd_wanted 52 = .ok (.invokestatic 174, 3) := by decide +kernel
theorem dMd_wanted_55 : decode cMd_wanted 55 = .ok (.if_icmp .lt 9, 3) := by decide +kernel
theorem dMd_wanted_58 : decode cMd_wanted 58 = .ok (.iload 4, 2) := by decide +kernel
theorem dMd_wanted_60 : decode cMd_wanted 60 = .ok (.iload_n 3, 1) := by decide +kernel
theorem dMd_wanted_61 : decode cMd_wanted 61 = .ok (.if_icmp .ge 8, 3) := by decide +kernel
theorem dMd_wanted_64 : decode cMd_wanted 64 = .ok (.iload 4, 2) := by decide +kernel
theorem dMd_wanted_66 : decode cMd_wanted 66 = .ok (.goto 4, 3) := by decide +kernel
theorem dMd_wanted_69 : decode cMd_wanted 69 = .ok (.iload_n 3, 1) := by decide +kernel
theorem dMd_wanted_70 : decode cMd_wanted 70 = .ok (.istore_n 3, 1) := by decide +kernel
theorem dMd_wanted_71 : decode cMd_wanted 71 = .ok (.iinc 4 (-1), 3) := by decide +kernel
theorem dMd_wanted_74 : decode cMd_wanted 74 = .ok (.goto (-58), 3) := by decide +kernel
theorem dMd_wanted_77 : decode cMd_wanted 77 = .ok (.aload_n 0, 1) := by decide +kernel
theorem dMd_wanted_78 : decode cMd_wanted 78 = .ok (.iload_n 3, 1) := by decide +kernel
theorem dMd_wanted_79 : decode cMd_wanted 79 = .ok (.invokevirtual 171, 3) := by decide +kernel
theorem dMd_wanted_82 : decode cMd_wanted 82 = .ok (.ireturn, 1) := by decide +kernel
theorem dMd_linesOf_0 : decode cMd_linesOf 0 = .ok (.iload_n 0, 1) := by decide +kernel
theorem dMd_linesOf_1 : decode cMd_linesOf 1 = .ok (.iconst 4, 1) := by decide +kernel
theorem dMd_linesOf_2 : decode cMd_linesOf 2 = .ok (.idiv, 1) := by decide +kernel
theorem dMd_linesOf_3 : decode cMd_linesOf 3 = .ok (.bipush 41, 2) := by decide +kernel
theorem dMd_linesOf_5 : decode cMd_linesOf 5 = .ok (.irem, 1) := by decide +kernel
theorem dMd_linesOf_6 : decode cMd_linesOf 6 = .ok (.ireturn, 1) := by decide +kernel
theorem dMd_passes_0 : decode cMd_passes 0 = .ok (.aload_n 0, 1) := by decide +kernel
theorem dMd_passes_1 : decode cMd_passes 1 = .ok (.iload_n 2, 1) := by decide +kernel
theorem dMd_passes_2 : decode cMd_passes 2 = .ok (.putfield 81, 3) := by decide +kernel
theorem dMd_passes_5 : decode cMd_passes 5 = .ok (.aload_n 0, 1) := by decide +kernel
theorem dMd_passes_6 : decode cMd_passes 6 = .ok (.iload_n 3, 1) := by decide +kernel
theorem dMd_passes_7 : decode cMd_passes 7 = .ok (.i2l, 1) := by decide +kernel
theorem dMd_passes_8 : decode cMd_passes 8 = .ok (.putfield 154, 3) := by decide +kernel
theorem dMd_passes_11 : decode cMd_passes 11 = .ok (.aload_n 0, 1) := by decide +kernel
theorem dMd_passes_12 : decode cMd_passes 12 = .ok (.iload 4, 2) := by decide +kernel
theorem dMd_passes_14 : decode cMd_passes 14 = .ok (.i2l, 1) := by decide +kernel
theorem dMd_passes_15 : decode cMd_passes 15 = .ok (.putfield 119, 3) := by decide +kernel
theorem dMd_passes_18 : decode cMd_passes 18 = .ok (.iload_n 3, 1) := by decide +kernel
theorem dMd_passes_19 : decode cMd_passes 19 = .ok (.ifCond .ge 5, 3) := by decide +kernel
theorem dMd_passes_22 : decode cMd_passes 22 = .ok (.iconst 0, 1) := by decide +kernel
theorem dMd_passes_23 : decode cMd_passes 23 = .ok (.ireturn, 1) := by decide +kernel
theorem dMd_passes_24 : decode cMd_passes 24 = .ok (.aload_n 0, 1) := by decide +kernel
theorem dMd_passes_25 : decode cMd_passes 25 = .ok (.invokevirtual 177, 3) := by decide +kernel
theorem dMd_passes_28 : decode cMd_passes 28 = .ok (.aload_n 0, 1) := by decide +kernel
theorem dMd_passes_29 : decode cMd_passes 29 = .ok (.invokevirtual 180, 3) := by decide +kernel
theorem dMd_passes_32 : decode cMd_passes 32 = .ok (.istore 5, 2) := by decide +kernel
theorem dMd_passes_34 : decode cMd_passes 34 = .ok (.iload 5, 2) := by decide +kernel
theorem dMd_passes_36 : decode cMd_passes 36 = .ok (.ifCond .ge 5, 3) := by decide +kernel
theorem dMd_passes_39 : decode cMd_passes 39 = .ok (.iconst 0, 1) := by decide +kernel
theorem dMd_passes_40 : decode cMd_passes 40 = .ok (.ireturn, 1) := by decide +kernel
theorem dMd_passes_41 : decode cMd_passes 41 = .ok (.aload_n 0, 1) := by decide +kernel
theorem dMd_passes_42 : decode cMd_passes 42 = .ok (.getfield 35, 3) := by decide +kernel
theorem dMd_passes_45 : decode cMd_passes 45 = .ok (.bipush 7, 2) := by decide +kernel
theorem dMd_passes_47 : decode cMd_passes 47 = .ok (.iaload, 1) := by decide +kernel
theorem dMd_passes_48 : decode cMd_passes 48 = .ok (.ifCond .ne 8, 3) := by decide +kernel
theorem dMd_passes_51 : decode cMd_passes 51 = .ok (.iload 5, 2) := by decide +kernel
theorem dMd_passes_53 : decode cMd_passes 53 = .ok (.goto 12, 3) := by decide +kernel
theorem dMd_passes_56 : decode cMd_passes 56 = .ok (.aload_n 0, 1) := by decide +kernel
theorem dMd_passes_57 : decode cMd_passes 57 = .ok (.iload 5, 2) := by decide +kernel
theorem dMd_passes_59 : decode cMd_passes 59 = .ok (.invokestatic 184, 3) := by decide +kernel
theorem dMd_passes_62 : decode cMd_passes 62 = .ok (.invokevirtual 187, 3) := by decide +kernel
theorem dMd_passes_65 : decode cMd_passes 65 = .ok (.istore 5, 2) := by decide +kernel
theorem dMd_passes_67 : decode cMd_passes 67 = .ok (.aload_n 0, 1) := by decide +kernel
theorem dMd_passes_68 : decode cMd_passes 68 = .ok (.iload_n 1, 1) := by decide +kernel
theorem dMd_passes_69 : decode cMd_passes 69 = .ok (.putfield 190, 3) := by decide +kernel
theorem dMd_passes_72 : decode cMd_passes 72 = .ok (.aload_n 0, 1) := by decide +kernel
theorem dMd_passes_73 : decode cMd_passes 73 = .ok (.aload_n 0, 1) := by decide +kernel
theorem dMd_passes_74 : decode cMd_passes 74 = .ok (.getfield 45, 3) := by decide +kernel
theorem dMd_passes_77 : decode cMd_passes 77 = .ok (.iload 5, 2) := by decide +kernel
theorem dMd_passes_79 : decode cMd_passes 79 = .ok (.laload, 1) := by decide +kernel
theorem dMd_passes_80 : decode cMd_passes 80 = .ok (.putfield 193, 3) := by decide +kernel
theorem dMd_passes_83 : decode cMd_passes 83 = .ok (.aload_n 0, 1) := by decide +kernel
theorem dMd_passes_84 : decode cMd_passes 84 = .ok (.iload 5, 2) := by decide +kernel
theorem dMd_passes_86 : decode cMd_passes 86 = .ok (.invokestatic 184, 3) := by decide +kernel
theorem dMd_passes_89 : decode cMd_passes 89 = .ok (.putfield 196, 3) := by decide +kernel
theorem dMd_passes_92 : decode cMd_passes 92 = .ok (.iload 5, 2) := by decide +kernel
theorem dMd_passes_94 : decode cMd_passes 94 = .ok (.istore 6, 2) := by decide +kernel
theorem dMd_passes_96 : decode cMd_passes 96 = .ok (.aload_n 0, 1) := by decide +kernel
theorem dMd_passes_97 : decode cMd_passes 97 = .ok (.getfield 196, 3) := by decide +kernel
theorem dMd_passes_100 : decode cMd_passes 100 = .ok (.iconst 1, 1) := by decide +kernel
theorem dMd_passes_101 : decode cMd_passes 101 = .ok (.isub, 1) := by decide +kernel
theorem dMd_passes_102 : decode cMd_passes 102 = .ok (.istore 7, 2) := by decide +kernel
theorem dMd_passes_104 : decode cMd_passes 104 = .ok (.iload 7, 2) := by decide +kernel
theorem dMd_passes_106 : decode cMd_passes 106 = .ok (.ifCond .lt 30, 3) := by decide +kernel
theorem dMd_passes_109 : decode cMd_passes 109 = .ok (.aload_n 0, 1) := by decide +kernel
theorem dMd_passes_110 : decode cMd_passes 110 = .ok (.getfield 38, 3) := by decide +kernel
theorem dMd_passes_113 : decode cMd_passes 113 = .ok (.iload 7, 2) := by decide +kernel
theorem dMd_passes_115 : decode cMd_passes 115 = .ok (.iload 6, 2) := by decide +kernel
theorem dMd_passes_117 : decode cMd_passes 117 = .ok (.invokestatic 140, 3) := by decide +kernel
theorem dMd_passes_120 : decode cMd_passes 120 = .ok (.iastore, 1) := by decide +kernel
theorem dMd_passes_121 : decode cMd_passes 121 = .ok (.aload_n 0, 1) := by decide +kernel
theorem dMd_passes_122 : decode cMd_passes 122 = .ok (.getfield 49, 3) := by decide +kernel
theorem dMd_passes_125 : decode cMd_passes 125 = .ok (.iload 6, 2) := by decide +kernel
theorem dMd_passes_127 : decode cMd_passes 127 = .ok (.iaload, 1) := by decide +kernel
theorem dMd_passes_128 : decode cMd_passes 128 = .ok (.istore 6, 2) := by decide +kernel
theorem dMd_passes_130 : decode cMd_passes 130 = .ok (.iinc 7 (-1), 3) := by decide +kernel
theorem dMd_passes_133 : decode cMd_passes 133 = .ok (.goto (-29), 3) := by decide +kernel
theorem dMd_passes_136 : decode cMd_passes 136 = .ok (.iconst 1, 1) := by decide +kernel
theorem dMd_passes_137 : decode cMd_passes 137 = .ok (.ireturn, 1) := by decide +kernel
theorem dMd_emergencyBreak_0 : decode cMd_emergencyBreak 0 = .ok (.iconst (-1), 1) := by decide +kernel
theorem dMd_emergencyBreak_1 : decode cMd_emergencyBreak 1 = .ok (.istore_n 3, 1) := by decide +kernel
theorem dMd_emergencyBreak_2 : decode cMd_emergencyBreak 2 = .ok (.iconst (-1), 1) := by decide +kernel
theorem dMd_emergencyBreak_3 : decode cMd_emergencyBreak 3 = .ok (.istore 4, 2) := by decide +kernel
theorem dMd_emergencyBreak_5 : decode cMd_emergencyBreak 5 = .ok (.iconst 1, 1) := by decide +kernel
theorem dMd_emergencyBreak_6 : decode cMd_emergencyBreak 6 = .ok (.istore 5, 2) := by decide +kernel
theorem dMd_emergencyBreak_8 : decode cMd_emergencyBreak 8 = .ok (.iload_n 1, 1) := by decide +kernel
theorem dMd_emergencyBreak_9 : decode cMd_emergencyBreak 9 = .ok (.iconst 1, 1) := by decide +kernel
theorem dMd_emergencyBreak_10 : decode cMd_emergencyBreak 10 = .ok (.iadd, 1) := by decide +kernel
theorem dMd_emergencyBreak_11 : decode cMd_emergencyBreak 11 = .ok (.istore 6, 2) := by decide +kernel
theorem dMd_emergencyBreak_13 : decode cMd_emergencyBreak 13 = .ok (.iload 5, 2) := by decide +kernel
theorem dMd_emergencyBreak_15 : decode cMd_emergencyBreak 15 = .ok (.ifCond .eq 69, 3) := by decide +kernel
theorem dMd_emergencyBreak_18 : decode cMd_emergencyBreak 18 = .ok (.aload_n 0, 1) := by decide +kernel
theorem dMd_emergencyBreak_19 : decode cMd_emergencyBreak 19 = .ok (.iload 6, 2) := by decide +kernel
theorem dMd_emergencyBreak_21 : decode cMd_emergencyBreak 21 = .ok (.invokevirtual 84, 3) := by decide +kernel
theorem dMd_emergencyBreak_24 : decode cMd_emergencyBreak 24 = .ok (.ifCond .eq 54, 3) := by decide +kernel
theorem dMd_emergencyBreak_27 : decode cMd_emergencyBreak 27 = .ok (.aload_n 0, 1) := by decide +kernel
theorem dMd_emergencyBreak_28 : decode cMd_emergencyBreak 28 = .ok (.iload_n 1, 1) := by decide +kernel
theorem dMd_emergencyBreak_29 : decode cMd_emergencyBreak 29 = .ok (.iload 6, 2) := by decide +kernel
theorem dMd_emergencyBreak_31 : decode cMd_emergencyBreak 31 = .ok (.invokevirtual 146, 3) := by decide +kernel
theorem dMd_emergencyBreak_34 : decode cMd_emergencyBreak 34 = .ok (.iload_n 3, 1) := by decide +kernel
theorem dMd_emergencyBreak_35 : decode cMd_emergencyBreak 35 = .ok (.ifCond .ge 8, 3) := by decide +kernel
theorem dMd_emergencyBreak_38 : decode cMd_emergencyBreak 38 = .ok (.iload 6, 2) := by decide +kernel
theorem dMd_emergencyBreak_40 : decode cMd_emergencyBreak 40 = .ok (.goto 4, 3) := by decide +kernel
theorem dMd_emergencyBreak_43 : decode cMd_emergencyBreak 43 = .ok (.iload_n 3, 1) := by decide +kernel
theorem dMd_emergencyBreak_44 : decode cMd_emergencyBreak 44 = .ok (.istore_n 3, 1) := by decide +kernel
theorem dMd_emergencyBreak_45 : decode cMd_emergencyBreak 45 = .ok (.aload_n 0, 1) := by decide +kernel
theorem dMd_emergencyBreak_46 : decode cMd_emergencyBreak 46 = .ok (.iload_n 2, 1) := by decide +kernel
theorem dMd_emergencyBreak_47 : decode cMd_emergencyBreak 47 = .ok (.invokevirtual 126, 3) := by decide +kernel
theorem dMd_emergencyBreak_50 : decode cMd_emergencyBreak 50 = .ok (.ifCond .eq 8, 3) := by decide +kernel
theorem dMd_emergencyBreak_53 : decode cMd_emergencyBreak 53 = .ok (.iload 4, 2) := by decide +kernel
theorem dMd_emergencyBreak_55 : decode cMd_emergencyBreak 55 = .ok (.goto 5, 3) := by decide +kernel
theorem dMd_emergencyBreak_58 : decode cMd_emergencyBreak 58 = .ok (.iload 6, 2) := by decide +kernel
theorem dMd_emergencyBreak_60 : decode cMd_emergencyBreak 60 = .ok (.istore 4, 2) := by decide +kernel
theorem dMd_emergencyBreak_62 : decode cMd_emergencyBreak 62 = .ok (.aload_n 0, 1) := by decide +kernel
theorem dMd_emergencyBreak_63 : decode cMd_emergencyBreak 63 = .ok (.iload 6, 2) := by decide +kernel
theorem dMd_emergencyBreak_65 : decode cMd_emergencyBreak 65 = .ok (.invokevirtual 165, 3) := by decide +kernel
theorem dMd_emergencyBreak_68 : decode cMd_emergencyBreak 68 = .ok (.ifCond .ne 7, 3) := by decide +kernel
theorem dMd_emergencyBreak_71 : decode cMd_emergencyBreak 71 = .ok (.iconst 1, 1) := by decide +kernel
theorem dMd_emergencyBreak_72 : decode cMd_emergencyBreak 72 = .ok (.goto 4, 3) := by decide +kernel
theorem dMd_emergencyBreak_75 : decode cMd_emergencyBreak 75 = .ok (.iconst 0, 1) := by decide +kernel
theorem dMd_emergencyBreak_76 : decode cMd_emergencyBreak 76 = .ok (.istore 5, 2) := by decide +kernel
theorem dMd_emergencyBreak_78 : decode cMd_emergencyBreak 78 = .ok (.iinc 6 1, 3) := by decide +kernel
theorem dMd_emergencyBreak_81 : decode cMd_emergencyBreak 81 = .ok (.goto (-68), 3) := by decide +kernel
theorem dMd_emergencyBreak_84 : decode cMd_emergencyBreak 84 = .ok (.iload 4, 2) := by decide +kernel
theorem dMd_emergencyBreak_86 : decode cMd_emergencyBreak 86 = .ok (.ifCond .ge 7, 3) := by decide +kernel
theorem dMd_emergencyBreak_89 : decode cMd_emergencyBreak 89 = .ok (.iload_n 3, 1) := by decide +kernel
theorem dMd_emergencyBreak_90 : decode cMd_emergencyBreak 90 = .ok (.goto 5, 3) := by decide +kernel
theorem dMd_emergencyBreak_93 : decode cMd_emergencyBreak 93 = .ok (.iload 4, 2) := by decide +kernel
theorem dMd_emergencyBreak_95 : decode cMd_emergencyBreak 95 = .ok (.ireturn, 1) := by decide +kernel
theorem dMd_emergency_0 : decode cMd_emergency 0 = .ok (.aload_n 0, 1) := by decide +kernel
theorem dMd_emergency_1 : decode cMd_emergency 1 = .ok (.iconst 1, 1) := by decide +kernel
theorem dMd_emergency_2 : decode cMd_emergency 2 = .ok (.putfield 81, 3) := by decide +kernel
theorem dMd_emergency_5 : decode cMd_emergency 5 = .ok (.aload_n 0, 1) := by decide +kernel
theorem dMd_emergency_6 : decode cMd_emergency 6 = .ok (.lconst 0, 1) := by decide +kernel
theorem dMd_emergency_7 : decode cMd_emergency 7 = .ok (.putfield 119, 3) := by decide +kernel
theorem dMd_emergency_10 : decode cMd_emergency 10 = .ok (.aload_n 0, 1) := by decide +kernel
theorem dMd_emergency_11 : decode cMd_emergency 11 = .ok (.iconst 4, 1) := by decide +kernel
theorem dMd_emergency_12 : decode cMd_emergency 12 = .ok (.putfield 190, 3) := by decide +kernel
theorem dMd_emergency_15 : decode cMd_emergency 15 = .ok (.aload_n 0, 1) := by decide +kernel
theorem dMd_emergency_16 : decode cMd_emergency 16 = .ok (.lconst 0, 1) := by decide +kernel
theorem dMd_emergency_17 : decode cMd_emergency 17 = .ok (.putfield 193, 3) := by decide +kernel
theorem dMd_emergency_20 : decode cMd_emergency 20 = .ok (.aload_n 0, 1) := by decide +kernel
theorem dMd_emergency_21 : decode cMd_emergency 21 = .ok (.iconst 0, 1) := by decide +kernel
theorem dMd_emergency_22 : decode cMd_emergency 22 = .ok (.putfield 196, 3) := by decide +kernel
theorem dMd_emergency_25 : decode cMd_emergency 25 = .ok (.iconst (-1), 1) := by decide +kernel
theorem dMd_emergency_26 : decode cMd_emergency 26 = .ok (.istore_n 1, 1) := by decide +kernel
theorem dMd_emergency_27 : decode cMd_emergency 27 = .ok (.iload_n 1, 1) := by decide +kernel
theorem dMd_emergency_28 : decode cMd_emergency 28 = .ok (.aload_n 0, 1) := by decide +kernel
theorem dMd_emergency_29 : decode cMd_emergency 29 = .ok (.getfield 56, 3) := by decide +kernel
theorem dMd_emergency_32 : decode cMd_emergency 32 = .ok (.if_icmp .ge 36, 3) := by decide +kernel
theorem dMd_emergency_35 : decode cMd_emergency 35 = .ok (.aload_n 0, 1) := by decide +kernel
theorem dMd_emergency_36 : decode cMd_emergency 36 = .ok (.iload_n 1, 1) := by decide +kernel
theorem dMd_emergency_37 : decode cMd_emergency 37 = .ok (.aload_n 0, 1) := by decide +kernel
theorem dMd_emergency_38 : decode cMd_emergency 38 = .ok (.getfield 196, 3) := by decide +kernel
theorem dMd_emergency_41 : decode cMd_emergency 41 = .ok (.invokevirtual 199, 3) := by decide +kernel
theorem dMd_emergency_44 : decode cMd_emergency 44 = .ok (.istore_n 1, 1) := by decide +kernel
theorem dMd_emergency_45 : decode cMd_emergency 45 = .ok (.aload_n 0, 1) := by decide +kernel
theorem dMd_emergency_46 : decode cMd_emergency 46 = .ok (.getfield 38, 3) := by decide +kernel
theorem dMd_emergency_49 : decode cMd_emergency 49 = .ok (.aload_n 0, 1) := by decide +kernel
theorem dMd_emergency_50 : decode cMd_emergency 50 = .ok (.getfield 196, 3) := by decide +kernel
theorem dMd_emergency_53 : decode cMd_emergency 53 = .ok (.iload_n 1, 1) := by decide +kernel
theorem dMd_emergency_54 : decode cMd_emergency 54 = .ok (.iastore, 1) := by decide +kernel
theorem dMd_emergency_55 : decode cMd_emergency 55 = .ok (.aload_n 0, 1) := by decide +kernel
theorem dMd_emergency_56 : decode cMd_emergency 56 = .ok (.dup, 1) := by decide +kernel
theorem dMd_emergency_57 : decode cMd_emergency 57 = .ok (.getfield 196, 3) := by decide +kernel
theorem dMd_emergency_60 : decode cMd_emergency 60 = .ok (.iconst 1, 1) := by decide +kernel
theorem dMd_emergency_61 : decode cMd_emergency 61 = .ok (.iadd, 1) := by decide +kernel
theorem dMd_emergency_62 : decode cMd_emergency 62 = .ok (.putfield 196, 3) := by decide +kernel
theorem dMd_emergency_65 : decode cMd_emergency 65 = .ok (.goto (-38), 3) := by decide +kernel
theorem dMd_emergency_68 : decode cMd_emergency 68 = .ok (.return_, 1) := by decide +kernel
theorem dMd_breakUp_0 : decode cMd_breakUp 0 = .ok (.aload_n 0, 1) := by decide +kernel
theorem dMd_breakUp_1 : decode cMd_breakUp 1 = .ok (.aload_n 0, 1) := by decide +kernel
theorem dMd_breakUp_2 : decode cMd_breakUp 2 = .ok (.getfield 56, 3) := by decide +kernel
theorem dMd_breakUp_5 : decode cMd_breakUp 5 = .ok (.ifCond .ne 7, 3) := by decide +kernel
theorem dMd_breakUp_8 : decode cMd_breakUp 8 = .ok (.iconst 1, 1) := by decide +kernel
theorem dMd_breakUp_9 : decode cMd_breakUp 9 = .ok (.goto 4, 3) := by decide +kernel
theorem dMd_breakUp_12 : decode cMd_breakUp 12 = .ok (.iconst 0, 1) := by decide +kernel
theorem dMd_breakUp_13 : decode cMd_breakUp 13 = .ok (.invokevirtual 68, 3) := by decide +kernel
theorem dMd_breakUp_16 : decode cMd_breakUp 16 = .ok (.ifCond .eq 5, 3) := by decide +kernel
theorem dMd_breakUp_19 : decode cMd_breakUp 19 = .ok (.iconst 0, 1) := by decide +kernel
theorem dMd_breakUp_20 : decode cMd_breakUp 20 = .ok (.ireturn, 1) := by decide +kernel
theorem dMd_breakUp_21 : decode cMd_breakUp 21 = .ok (.aload_n 0, 1) := by decide +kernel
theorem dMd_breakUp_22 : decode cMd_breakUp 22 = .ok (.iconst 1, 1) := by decide +kernel
theorem dMd_breakUp_23 : decode cMd_breakUp 23 = .ok (.iconst 0, 1) := by decide +kernel
theorem dMd_breakUp_24 : decode cMd_breakUp 24 = .ok (.aload_n 0, 1) := by decide +kernel
theorem dMd_breakUp_25 : decode cMd_breakUp 25 = .ok (.getfield 35, 3) := by decide +kernel
theorem dMd_breakUp_28 : decode cMd_breakUp 28 = .ok (.iconst 4, 1) := by decide +kernel
theorem dMd_breakUp_29 : decode cMd_breakUp 29 = .ok (.iaload, 1) := by decide +kernel
theorem dMd_breakUp_30 : decode cMd_breakUp 30 = .ok (.iconst 0, 1) := by decide +kernel
theorem dMd_breakUp_31 : decode cMd_breakUp 31 = .ok (.invokevirtual 202, 3) := by decide +kernel
theorem dMd_breakUp_34 : decode cMd_breakUp 34 = .ok (.ifCond .ne 51, 3) := by decide +kernel
theorem dMd_breakUp_37 : decode cMd_breakUp 37 = .ok (.aload_n 0, 1) := by decide +kernel
theorem dMd_breakUp_38 : decode cMd_breakUp 38 = .ok (.iconst 2, 1) := by decide +kernel
theorem dMd_breakUp_39 : decode cMd_breakUp 39 = .ok (.iconst 1, 1) := by decide +kernel
theorem dMd_breakUp_40 : decode cMd_breakUp 40 = .ok (.aload_n 0, 1) := by decide +kernel
theorem dMd_breakUp_41 : decode cMd_breakUp 41 = .ok (.getfield 35, 3) := by decide +kernel
theorem dMd_breakUp_44 : decode cMd_breakUp 44 = .ok (.iconst 5, 1) := by decide +kernel
theorem dMd_breakUp_45 : decode cMd_breakUp 45 = .ok (.iaload, 1) := by decide +kernel
theorem dMd_breakUp_46 : decode cMd_breakUp 46 = .ok (.iconst 0, 1) := by decide +kernel
theorem dMd_breakUp_47 : decode cMd_breakUp 47 = .ok (.invokevirtual 202, 3) := by decide +kernel
theorem dMd_breakUp_50 : decode cMd_breakUp 50 = .ok (.ifCond .ne 35, 3) := by decide +kernel
theorem dMd_breakUp_53 : decode cMd_breakUp 53 = .ok (.aload_n 0, 1) := by decide +kernel
theorem dMd_breakUp_54 : decode cMd_breakUp 54 = .ok (.getfield 35, 3) := by decide +kernel
theorem dMd_breakUp_57 : decode cMd_breakUp 57 = .ok (.bipush 6, 2) := by decide +kernel
theorem dMd_breakUp_59 : decode cMd_breakUp 59 = .ok (.iaload, 1) := by decide +kernel
theorem dMd_breakUp_60 : decode cMd_breakUp 60 = .ok (.ifCond .le 29, 3) := by decide +kernel
theorem dMd_breakUp_63 : decode cMd_breakUp 63 = .ok (.aload_n 0, 1) := by decide +kernel
theorem dMd_breakUp_64 : decode cMd_breakUp 64 = .ok (.iconst 3, 1) := by decide +kernel
theorem dMd_breakUp_65 : decode cMd_breakUp 65 = .ok (.iconst 1, 1) := by decide +kernel
theorem dMd_breakUp_66 : decode cMd_breakUp 66 = .ok (.aload_n 0, 1) := by decide +kernel
theorem dMd_breakUp_67 : decode cMd_breakUp 67 = .ok (.getfield 35, 3) := by decide +kernel
theorem dMd_breakUp_70 : decode cMd_breakUp 70 = .ok (.iconst 5, 1) := by decide +kernel
theorem dMd_breakUp_71 : decode cMd_breakUp 71 = .ok (.iaload, 1) := by decide +kernel
theorem dMd_breakUp_72 : decode cMd_breakUp 72 = .ok (.aload_n 0, 1) := by decide +kernel
theorem dMd_breakUp_73 : decode cMd_breakUp 73 = .ok (.getfield 35, 3) := by decide +kernel
theorem dMd_breakUp_76 : decode cMd_breakUp 76 = .ok (.bipush 6, 2) := by decide +kernel
theorem dMd_breakUp_78 : decode cMd_breakUp 78 = .ok (.iaload, 1) := by decide +kernel
theorem dMd_breakUp_79 : decode cMd_breakUp 79 = .ok (.invokevirtual 202, 3) := by decide +kernel
theorem dMd_breakUp_82 : decode cMd_breakUp 82 = .ok (.ifCond .eq 7, 3) := by decide +kernel
theorem dMd_breakUp_85 : decode cMd_breakUp 85 = .ok (.iconst 1, 1) := by decide +kernel
theorem dMd_breakUp_86 : decode cMd_breakUp 86 = .ok (.goto 4, 3) := by decide +kernel
theorem dMd_breakUp_89 : decode cMd_breakUp 89 = .ok (.iconst 0, 1) := by decide +kernel
theorem dMd_breakUp_90 : decode cMd_breakUp 90 = .ok (.istore_n 1, 1) := by decide +kernel
theorem dMd_breakUp_91 : decode cMd_breakUp 91 = .ok (.iload_n 1, 1) := by decide +kernel
theorem dMd_breakUp_92 : decode cMd_breakUp 92 = .ok (.ifCond .ne 7, 3) := by decide +kernel
theorem dMd_breakUp_95 : decode cMd_breakUp 95 = .ok (.aload_n 0, 1) := by decide +kernel
theorem dMd_breakUp_96 : decode cMd_breakUp 96 = .ok (.invokevirtual 206, 3) := by decide +kernel
theorem dMd_breakUp_99 : decode cMd_breakUp 99 = .ok (.aload_n 0, 1) := by decide +kernel
theorem dMd_breakUp_100 : decode cMd_breakUp 100 = .ok (.iconst 1, 1) := by decide +kernel
theorem dMd_breakUp_101 : decode cMd_breakUp 101 = .ok (.putfield 59, 3) := by decide +kernel
theorem dMd_breakUp_104 : decode cMd_breakUp 104 = .ok (.aload_n 0, 1) := by decide +kernel
theorem dMd_breakUp_105 : decode cMd_breakUp 105 = .ok (.getfield 196, 3) := by decide +kernel
theorem dMd_breakUp_108 : decode cMd_breakUp 108 = .ok (.ireturn, 1) := by decide +kernel
theorem dMd_isWrong_0 : decode cMd_isWrong 0 = .ok (.aload_n 0, 1) := by decide +kernel
theorem dMd_isWrong_1 : decode cMd_isWrong 1 = .ok (.aload_n 0, 1) := by decide +kernel
theorem dMd_isWrong_2 : decode cMd_isWrong 2 = .ok (.getfield 59, 3) := by decide +kernel
theorem dMd_isWrong_5 : decode cMd_isWrong 5 = .ok (.ifCond .ne 7, 3) := by decide +kernel
theorem dMd_isWrong_8 : decode cMd_isWrong 8 = .ok (.iconst 1, 1) := by decide +kernel
theorem dMd_isWrong_9 : decode cMd_isWrong 9 = .ok (.goto 12, 3) := by decide +kernel
theorem dMd_isWrong_12 : decode cMd_isWrong 12 = .ok (.iload_n 1, 1) := by decide +kernel
theorem dMd_isWrong_13 : decode cMd_isWrong 13 = .ok (.ifCond .eq 7, 3) := by decide +kernel
theorem dMd_isWrong_16 : decode cMd_isWrong 16 = .ok (.iconst 0, 1) := by decide +kernel
theorem dMd_isWrong_17 : decode cMd_isWrong 17 = .ok (.goto 4, 3) := by decide +kernel
theorem dMd_isWrong_20 : decode cMd_isWrong 20 = .ok (.iconst 2, 1) := by decide +kernel
theorem dMd_isWrong_21 : decode cMd_isWrong 21 = .ok (.invokevirtual 68, 3) := by decide +kernel
theorem dMd_isWrong_24 : decode cMd_isWrong 24 = .ok (.ireturn, 1) := by decide +kernel
theorem dMd_pass_0 : decode cMd_pass 0 = .ok (.aload_n 0, 1) := by decide +kernel
theorem dMd_pass_1 : decode cMd_pass 1 = .ok (.iconst 1, 1) := by decide +kernel
theorem dMd_pass_2 : decode cMd_pass 2 = .ok (.invokevirtual 209, 3) := by decide +kernel
theorem dMd_pass_5 : decode cMd_pass 5 = .ok (.ifCond .eq 7, 3) := by decide +kernel
theorem dMd_pass_8 : decode cMd_pass 8 = .ok (.iconst 0, 1) := by decide +kernel
theorem dMd_pass_9 : decode cMd_pass 9 = .ok (.goto 7, 3) := by decide +kernel
theorem dMd_pass_12 : decode cMd_pass 12 = .ok (.aload_n 0, 1) := by decide +kernel
theorem dMd_pass_13 : decode cMd_pass 13 = .ok (.getfield 190, 3) := by decide +kernel
theorem dMd_pass_16 : decode cMd_pass 16 = .ok (.ireturn, 1) := by decide +kernel
theorem dMd_demerits_0 : decode cMd_demerits 0 = .ok (.aload_n 0, 1) := by decide +kernel
theorem dMd_demerits_1 : decode cMd_demerits 1 = .ok (.iconst 1, 1) := by decide +kernel
theorem dMd_demerits_2 : decode cMd_demerits 2 = .ok (.invokevirtual 209, 3) := by decide +kernel
theorem dMd_demerits_5 : decode cMd_demerits 5 = .ok (.ifCond .eq 7, 3) := by decide +kernel
theorem dMd_demerits_8 : decode cMd_demerits 8 = .ok (.lconst 0, 1) := by decide +kernel
theorem dMd_demerits_9 : decode cMd_demerits 9 = .ok (.goto 7, 3) := by decide +kernel
theorem dMd_demerits_12 : decode cMd_demerits 12 = .ok (.aload_n 0, 1) := by decide +kernel
theorem dMd_demerits_13 : decode cMd_demerits 13 = .ok (.getfield 193, 3) := by decide +kernel
theorem dMd_demerits_16 : decode cMd_demerits 16 = .ok (.lreturn, 1) := by decide +kernel
theorem dMd_before_0 : decode cMd_before 0 = .ok (.iload_n 1, 1) := by decide +kernel
theorem dMd_before_1 : decode cMd_before 1 = .ok (.ifCond .ne 7, 3) := by decide +kernel
theorem dMd_before_4 : decode cMd_before 4 = .ok (.iconst (-1), 1) := by decide +kernel
theorem dMd_before_5 : decode cMd_before 5 = .ok (.goto 11, 3) := by decide +kernel
theorem dMd_before_8 : decode cMd_before 8 = .ok (.aload_n 0, 1) := by decide +kernel
theorem dMd_before_9 : decode cMd_before 9 = .ok (.getfield 38, 3) := by decide +kernel
theorem dMd_before_12 : decode cMd_before 12 = .ok (.iload_n 1, 1) := by decide +kernel
theorem dMd_before_13 : decode cMd_before 13 = .ok (.iconst 1, 1) := by decide +kernel
theorem dMd_before_14 : decode cMd_before 14 = .ok (.isub, 1) := by decide +kernel
theorem dMd_before_15 : decode cMd_before 15 = .ok (.iaload, 1) := by decide +kernel
theorem dMd_before_16 : decode cMd_before 16 = .ok (.ireturn, 1) := by decide +kernel
theorem dMd_line_0 : decode cMd_line 0 = .ok (.aload_n 0, 1) := by decide +kernel
theorem dMd_line_1 : decode cMd_line 1 = .ok (.iload_n 1, 1) := by decide +kernel
theorem dMd_line_2 : decode cMd_line 2 = .ok (.iconst 0, 1) := by decide +kernel
theorem dMd_line_3 : decode cMd_line 3 = .ok (.aload_n 0, 1) := by decide +kernel
theorem dMd_line_4 : decode cMd_line 4 = .ok (.getfield 196, 3) := by decide +kernel
theorem dMd_line_7 : decode cMd_line 7 = .ok (.iconst 1, 1) := by decide +kernel
theorem dMd_line_8 : decode cMd_line 8 = .ok (.isub, 1) := by decide +kernel
theorem dMd_line_9 : decode cMd_line 9 = .ok (.invokestatic 64, 3) := by decide +kernel
theorem dMd_line_12 : decode cMd_line 12 = .ok (.ifCond .eq 16, 3) := by decide +kernel
theorem dMd_line_15 : decode cMd_line 15 = .ok (.iload_n 2, 1) := by decide +kernel
theorem dMd_line_16 : decode cMd_line 16 = .ok (.iconst 0, 1) := by decide +kernel
theorem dMd_line_17 : decode cMd_line 17 = .ok (.iconst 4, 1) := by decide +kernel
theorem dMd_line_18 : decode cMd_line 18 = .ok (.invokestatic 64, 3) := by decide +kernel
theorem dMd_line_21 : decode cMd_line 21 = .ok (.ifCond .eq 7, 3) := by decide +kernel
theorem dMd_line_24 : decode cMd_line 24 = .ok (.iconst 1, 1) := by decide +kernel
theorem dMd_line_25 : decode cMd_line 25 = .ok (.goto 4, 3) := by decide +kernel
theorem dMd_line_28 : decode cMd_line 28 = .ok (.iconst 0, 1) := by decide +kernel
theorem dMd_line_29 : decode cMd_line 29 = .ok (.invokevirtual 209, 3) := by decide +kernel
theorem dMd_line_32 : decode cMd_line 32 = .ok (.ifCond .eq 5, 3) := by decide +kernel
theorem dMd_line_35 : decode cMd_line 35 = .ok (.iconst 0, 1) := by decide +kernel
theorem dMd_line_36 : decode cMd_line 36 = .ok (.ireturn, 1) := by decide +kernel
theorem dMd_line_37 : decode cMd_line 37 = .ok (.aload_n 0, 1) := by decide +kernel
theorem dMd_line_38 : decode cMd_line 38 = .ok (.getfield 38, 3) := by decide +kernel
theorem dMd_line_41 : decode cMd_line 41 = .ok (.iload_n 1, 1) := by decide +kernel
theorem dMd_line_42 : decode cMd_line 42 = .ok (.iaload, 1) := by decide +kernel
theorem dMd_line_43 : decode cMd_line 43 = .ok (.istore_n 3, 1) := by decide +kernel
theorem dMd_line_44 : decode cMd_line 44 = .ok (.aload_n 0, 1) := by decide +kernel
theorem dMd_line_45 : decode cMd_line 45 = .ok (.aload_n 0, 1) := by decide +kernel
theorem dMd_line_46 : decode cMd_line 46 = .ok (.iload_n 1, 1) := by decide +kernel
theorem dMd_line_47 : decode cMd_line 47 = .ok (.invokevirtual 213, 3) := by decide +kernel
theorem dMd_line_50 : decode cMd_line 50 = .ok (.iload_n 3, 1) := by decide +kernel
theorem dMd_line_51 : decode cMd_line 51 = .ok (.invokevirtual 146, 3) := by decide +kernel
theorem dMd_line_54 : decode cMd_line 54 = .ok (.iload_n 2, 1) := by decide +kernel
theorem dMd_line_55 : decode cMd_line 55 = .ok (.tableswitch 55 0 3 #[29, 40, 42, 49], 29) := by decide +kernel
theorem dMd_line_84 : decode cMd_line 84 = .ok (.aload_n 0, 1) := by decide +kernel
theorem dMd_line_85 : decode cMd_line 85 = .ok (.aload_n 0, 1) := by decide +kernel
theorem dMd_line_86 : decode cMd_line 86 = .ok (.iload_n 1, 1) := by decide +kernel
theorem dMd_line_87 : decode cMd_line 87 = .ok (.invokevirtual 213, 3) := by decide +kernel
theorem dMd_line_90 : decode cMd_line 90 = .ok (.iload_n 3, 1) := by decide +kernel
theorem dMd_line_91 : decode cMd_line 91 = .ok (.invokevirtual 104, 3) := by decide +kernel
theorem dMd_line_94 : decode cMd_line 94 = .ok (.ireturn, 1) := by decide +kernel
theorem dMd_line_95 : decode cMd_line 95 = .ok (.iload_n 3, 1) := by decide +kernel
theorem dMd_line_96 : decode cMd_line 96 = .ok (.ireturn, 1) := by decide +kernel
theorem dMd_line_97 : decode cMd_line 97 = .ok (.aload_n 0, 1) := by decide +kernel
theorem dMd_line_98 : decode cMd_line 98 = .ok (.iload_n 1, 1) := by decide +kernel
theorem dMd_line_99 : decode cMd_line 99 = .ok (.invokevirtual 107, 3) := by decide +kernel
theorem dMd_line_102 : decode cMd_line 102 = .ok (.l2i, 1) := by decide +kernel
theorem dMd_line_103 : decode cMd_line 103 = .ok (.ireturn, 1) := by decide +kernel
theorem dMd_line_104 : decode cMd_line 104 = .ok (.aload_n 0, 1) := by decide +kernel
theorem dMd_line_105 : decode cMd_line 105 = .ok (.iload_n 1, 1) := by decide +kernel
theorem dMd_line_106 : decode cMd_line 106 = .ok (.invokevirtual 129, 3) := by decide +kernel
theorem dMd_line_109 : decode cMd_line 109 = .ok (.ireturn, 1) := by decide +kernel
theorem dMd_line_110 : decode cMd_line 110 = .ok (.aload_n 0, 1) := by decide +kernel
theorem dMd_line_111 : decode cMd_line 111 = .ok (.iload_n 1, 1) := by decide +kernel
theorem dMd_line_112 : decode cMd_line 112 = .ok (.invokevirtual 137, 3) := by decide +kernel
theorem dMd_line_115 : decode cMd_line 115 = .ok (.ireturn, 1) := by decide +kernel
theorem dMd_over_0 : decode cMd_over 0 = .ok (.aload_n 0, 1) := by decide +kernel
theorem dMd_over_1 : decode cMd_over 1 = .ok (.iconst 1, 1) := by decide +kernel
theorem dMd_over_2 : decode cMd_over 2 = .ok (.invokevirtual 209, 3) := by decide +kernel
theorem dMd_over_5 : decode cMd_over 5 = .ok (.ifCond .eq 5, 3) := by decide +kernel
theorem dMd_over_8 : decode cMd_over 8 = .ok (.iconst 0, 1) := by decide +kernel
theorem dMd_over_9 : decode cMd_over 9 = .ok (.ireturn, 1) := by decide +kernel
theorem dMd_over_10 : decode cMd_over 10 = .ok (.iconst 0, 1) := by decide +kernel
theorem dMd_over_11 : decode cMd_over 11 = .ok (.istore_n 1, 1) := by decide +kernel
theorem dMd_over_12 : decode cMd_over 12 = .ok (.iconst 0, 1) := by decide +kernel
theorem dMd_over_13 : decode cMd_over 13 = .ok (.istore_n 2, 1) := by decide +kernel
theorem dMd_over_14 : decode cMd_over 14 = .ok (.iload_n 2, 1) := by decide +kernel
theorem dMd_over_15 : decode cMd_over 15 = .ok (.aload_n 0, 1) := by decide +kernel
theorem dMd_over_16 : decode cMd_over 16 = .ok (.getfield 196, 3) := by decide +kernel
theorem dMd_over_19 : decode cMd_over 19 = .ok (.if_icmp .ge 40, 3) := by decide +kernel
theorem dMd_over_22 : decode cMd_over 22 = .ok (.aload_n 0, 1) := by decide +kernel
theorem dMd_over_23 : decode cMd_over 23 = .ok (.aload_n 0, 1) := by decide +kernel
theorem dMd_over_24 : decode cMd_over 24 = .ok (.iload_n 2, 1) := by decide +kernel
theorem dMd_over_25 : decode cMd_over 25 = .ok (.invokevirtual 213, 3) := by decide +kernel
theorem dMd_over_28 : decode cMd_over 28 = .ok (.aload_n 0, 1) := by decide +kernel
theorem dMd_over_29 : decode cMd_over 29 = .ok (.getfield 38, 3) := by decide +kernel
theorem dMd_over_32 : decode cMd_over 32 = .ok (.iload_n 2, 1) := by decide +kernel
theorem dMd_over_33 : decode cMd_over 33 = .ok (.iaload, 1) := by decide +kernel
theorem dMd_over_34 : decode cMd_over 34 = .ok (.invokevirtual 146, 3) := by decide +kernel
theorem dMd_over_37 : decode cMd_over 37 = .ok (.aload_n 0, 1) := by decide +kernel
theorem dMd_over_38 : decode cMd_over 38 = .ok (.iload_n 2, 1) := by decide +kernel
theorem dMd_over_39 : decode cMd_over 39 = .ok (.invokevirtual 126, 3) := by decide +kernel
theorem dMd_over_42 : decode cMd_over 42 = .ok (.ifCond .eq 9, 3) := by decide +kernel
theorem dMd_over_45 : decode cMd_over 45 = .ok (.iload_n 1, 1) := by decide +kernel
theorem dMd_over_46 : decode cMd_over 46 = .ok (.iconst 1, 1) := by decide +kernel
theorem dMd_over_47 : decode cMd_over 47 = .ok (.iadd, 1) := by decide +kernel
theorem dMd_over_48 : decode cMd_over 48 = .ok (.goto 4, 3) := by decide +kernel
theorem dMd_over_51 : decode cMd_over 51 = .ok (.iload_n 1, 1) := by decide +kernel
theorem dMd_over_52 : decode cMd_over 52 = .ok (.istore_n 1, 1) := by decide +kernel
theorem dMd_over_53 : decode cMd_over 53 = .ok (.iinc 2 1, 3) := by decide +kernel
theorem dMd_over_56 : decode cMd_over 56 = .ok (.goto (-42), 3) := by decide +kernel
theorem dMd_over_59 : decode cMd_over 59 = .ok (.iload_n 1, 1) := by decide +kernel
theorem dMd_over_60 : decode cMd_over 60 = .ok (.ireturn, 1) := by decide +kernel
theorem dMd_find_0 : decode cMd_find 0 = .ok (.iconst (-1), 1) := by decide +kernel
theorem dMd_find_1 : decode cMd_find 1 = .ok (.istore_n 2, 1) := by decide +kernel
theorem dMd_find_2 : decode cMd_find 2 = .ok (.iconst 0, 1) := by decide +kernel
theorem dMd_find_3 : decode cMd_find 3 = .ok (.istore_n 3, 1) := by decide +kernel
theorem dMd_find_4 : decode cMd_find 4 = .ok (.iload_n 3, 1) := by decide +kernel
theorem dMd_find_5 : decode cMd_find 5 = .ok (.aload_n 0, 1) := by decide +kernel
theorem dMd_find_6 : decode cMd_find 6 = .ok (.getfield 196, 3) := by decide +kernel
theorem dMd_find_9 : decode cMd_find 9 = .ok (.if_icmp .ge 44, 3) := by decide +kernel
theorem dMd_find_12 : decode cMd_find 12 = .ok (.iload_n 1, 1) := by decide +kernel
theorem dMd_find_13 : decode cMd_find 13 = .ok (.aload_n 0, 1) := by decide +kernel
theorem dMd_find_14 : decode cMd_find 14 = .ok (.aload_n 0, 1) := by decide +kernel
theorem dMd_find_15 : decode cMd_find 15 = .ok (.iload_n 3, 1) := by decide +kernel
theorem dMd_find_16 : decode cMd_find 16 = .ok (.invokevirtual 213, 3) := by decide +kernel
theorem dMd_find_19 : decode cMd_find 19 = .ok (.aload_n 0, 1) := by decide +kernel
theorem dMd_find_20 : decode cMd_find 20 = .ok (.getfield 38, 3) := by decide +kernel
theorem dMd_find_23 : decode cMd_find 23 = .ok (.iload_n 3, 1) := by decide +kernel
theorem dMd_find_24 : decode cMd_find 24 = .ok (.iaload, 1) := by decide +kernel
theorem dMd_find_25 : decode cMd_find 25 = .ok (.invokevirtual 104, 3) := by decide +kernel
theorem dMd_find_28 : decode cMd_find 28 = .ok (.if_icmp .lt 17, 3) := by decide +kernel
theorem dMd_find_31 : decode cMd_find 31 = .ok (.iload_n 1, 1) := by decide +kernel
theorem dMd_find_32 : decode cMd_find 32 = .ok (.aload_n 0, 1) := by decide +kernel
theorem dMd_find_33 : decode cMd_find 33 = .ok (.getfield 38, 3) := by decide +kernel
theorem dMd_find_36 : decode cMd_find 36 = .ok (.iload_n 3, 1) := by decide +kernel
theorem dMd_find_37 : decode cMd_find 37 = .ok (.iaload, 1) := by decide +kernel
theorem dMd_find_38 : decode cMd_find 38 = .ok (.if_icmp .ge 7, 3) := by decide +kernel
theorem dMd_find_41 : decode cMd_find 41 = .ok (.iload_n 3, 1) := by decide +kernel
theorem dMd_find_42 : decode cMd_find 42 = .ok (.goto 4, 3) := by decide +kernel
theorem dMd_find_45 : decode cMd_find 45 = .ok (.iload_n 2, 1) := by decide +kernel
theorem dMd_find_46 : decode cMd_find 46 = .ok (.istore_n 2, 1) := by decide +kernel
theorem dMd_find_47 : decode cMd_find 47 = .ok (.iinc 3 1, 3) := by decide +kernel
theorem dMd_find_50 : decode cMd_find 50 = .ok (.goto (-46), 3) := by decide +kernel
theorem dMd_find_53 : decode cMd_find 53 = .ok (.iload_n 2, 1) := by decide +kernel
theorem dMd_find_54 : decode cMd_find 54 = .ok (.ireturn, 1) := by decide +kernel
theorem dMd_lineOf_0 : decode cMd_lineOf 0 = .ok (.aload_n 0, 1) := by decide +kernel
theorem dMd_lineOf_1 : decode cMd_lineOf 1 = .ok (.iload_n 1, 1) := by decide +kernel
theorem dMd_lineOf_2 : decode cMd_lineOf 2 = .ok (.iconst 0, 1) := by decide +kernel
theorem dMd_lineOf_3 : decode cMd_lineOf 3 = .ok (.aload_n 0, 1) := by decide +kernel
theorem dMd_lineOf_4 : decode cMd_lineOf 4 = .ok (.getfield 56, 3) := by decide +kernel
theorem dMd_lineOf_7 : decode cMd_lineOf 7 = .ok (.iconst 1, 1) := by decide +kernel
theorem dMd_lineOf_8 : decode cMd_lineOf 8 = .ok (.isub, 1) := by decide +kernel
theorem dMd_lineOf_9 : decode cMd_lineOf 9 = .ok (.invokestatic 64, 3) := by decide +kernel
theorem dMd_lineOf_12 : decode cMd_lineOf 12 = .ok (.invokevirtual 209, 3) := by decide +kernel
theorem dMd_lineOf_15 : decode cMd_lineOf 15 = .ok (.ifCond .eq 7, 3) := by decide +kernel
theorem dMd_lineOf_18 : decode cMd_lineOf 18 = .ok (.iconst 0, 1) := by decide +kernel
theorem dMd_lineOf_19 : decode cMd_lineOf 19 = .ok (.goto 8, 3) := by decide +kernel
theorem dMd_lineOf_22 : decode cMd_lineOf 22 = .ok (.aload_n 0, 1) := by decide +kernel
theorem dMd_lineOf_23 : decode cMd_lineOf 23 = .ok (.iload_n 1, 1) := by decide +kernel
theorem dMd_lineOf_24 : decode cMd_lineOf 24 = .ok (.invokevirtual 216, 3) := by decide +kernel
theorem dMd_lineOf_27 : decode cMd_lineOf 27 = .ok (.ireturn, 1) := by decide +kernel
theorem dMd_part_0 : decode cMd_part 0 = .ok (.aload_n 0, 1) := by decide +kernel
theorem dMd_part_1 : decode cMd_part 1 = .ok (.iload_n 1, 1) := by decide +kernel
theorem dMd_part_2 : decode cMd_part 2 = .ok (.invokevirtual 107, 3) := by decide +kernel
theorem dMd_part_5 : decode cMd_part 5 = .ok (.lstore 4, 2) := by decide +kernel
theorem dMd_part_7 : decode cMd_part 7 = .ok (.lload 4, 2) := by decide +kernel
theorem dMd_part_9 : decode cMd_part 9 = .ok (.lconst 0, 1) := by decide +kernel
theorem dMd_part_10 : decode cMd_part 10 = .ok (.lcmp, 1) := by decide +kernel
theorem dMd_part_11 : decode cMd_part 11 = .ok (.ifCond .le 47, 3) := by decide +kernel
theorem dMd_part_14 : decode cMd_part 14 = .ok (.aload_n 0, 1) := by decide +kernel
theorem dMd_part_15 : decode cMd_part 15 = .ok (.getfield 101, 3) := by decide +kernel
theorem dMd_part_18 : decode cMd_part 18 = .ok (.lconst 0, 1) := by decide +kernel
theorem dMd_part_19 : decode cMd_part 19 = .ok (.lcmp, 1) := by decide +kernel
theorem dMd_part_20 : decode cMd_part 20 = .ok (.ifCond .gt 12, 3) := by decide +kernel
theorem dMd_part_23 : decode cMd_part 23 = .ok (.aload_n 0, 1) := by decide +kernel
theorem dMd_part_24 : decode cMd_part 24 = .ok (.getfield 95, 3) := by decide +kernel
theorem dMd_part_27 : decode cMd_part 27 = .ok (.lconst 0, 1) := by decide +kernel
theorem dMd_part_28 : decode cMd_part 28 = .ok (.lcmp, 1) := by decide +kernel
theorem dMd_part_29 : decode cMd_part 29 = .ok (.ifCond .le 29, 3) := by decide +kernel
theorem dMd_part_32 : decode cMd_part 32 = .ok (.lload 4, 2) := by decide +kernel
theorem dMd_part_34 : decode cMd_part 34 = .ok (.lload_n 2, 1) := by decide +kernel
theorem dMd_part_35 : decode cMd_part 35 = .ok (.lmul, 1) := by decide +kernel
theorem dMd_part_36 : decode cMd_part 36 = .ok (.aload_n 0, 1) := by decide +kernel
theorem dMd_part_37 : decode cMd_part 37 = .ok (.getfield 101, 3) := by decide +kernel
theorem dMd_part_40 : decode cMd_part 40 = .ok (.lconst 0, 1) := by decide +kernel
theorem dMd_part_41 : decode cMd_part 41 = .ok (.lcmp, 1) := by decide +kernel
theorem dMd_part_42 : decode cMd_part 42 = .ok (.ifCond .le 10, 3) := by decide +kernel
theorem dMd_part_45 : decode cMd_part 45 = .ok (.aload_n 0, 1) := by decide +kernel
theorem dMd_part_46 : decode cMd_part 46 = .ok (.getfield 101, 3) := by decide +kernel
theorem dMd_part_49 : decode cMd_part 49 = .ok (.goto 7, 3) := by decide +kernel
theorem dMd_part_52 : decode cMd_part 52 = .ok (.aload_n 0, 1) := by decide +kernel
theorem dMd_part_53 : decode cMd_part 53 = .ok (.getfield 95, 3) := by decide +kernel
theorem dMd_part_56 : decode cMd_part 56 = .ok (.ldiv, 1) := by decide +kernel
theorem dMd_part_57 : decode cMd_part 57 = .ok (.lreturn, 1) := by decide +kernel
theorem dMd_part_58 : decode cMd_part 58 = .ok (.lload 4, 2) := by decide +kernel
theorem dMd_part_60 : decode cMd_part 60 = .ok (.lconst 0, 1) := by decide +kernel
theorem dMd_part_61 : decode cMd_part 61 = .ok (.lcmp, 1) := by decide +kernel
theorem dMd_part_62 : decode cMd_part 62 = .ok (.ifCond .ge 42, 3) := by decide +kernel
theorem dMd_part_65 : decode cMd_part 65 = .ok (.aload_n 0, 1) := by decide +kernel
theorem dMd_part_66 : decode cMd_part 66 = .ok (.getfield 98, 3) := by decide +kernel
theorem dMd_part_69 : decode cMd_part 69 = .ok (.lconst 0, 1) := by decide +kernel
theorem dMd_part_70 : decode cMd_part 70 = .ok (.lcmp, 1) := by decide +kernel
theorem dMd_part_71 : decode cMd_part 71 = .ok (.ifCond .le 33, 3) := by decide +kernel
theorem dMd_part_74 : decode cMd_part 74 = .ok (.lload 4, 2) := by decide +kernel
theorem dMd_part_76 : decode cMd_part 76 = .ok (.lneg, 1) := by decide +kernel
theorem dMd_part_77 : decode cMd_part 77 = .ok (.aload_n 0, 1) := by decide +kernel
theorem dMd_part_78 : decode cMd_part 78 = .ok (.getfield 98, 3) := by decide +kernel
theorem dMd_part_81 : decode cMd_part 81 = .ok (.lcmp, 1) := by decide +kernel
theorem dMd_part_82 : decode cMd_part 82 = .ok (.ifCond .le 10, 3) := by decide +kernel
theorem dMd_part_85 : decode cMd_part 85 = .ok (.aload_n 0, 1) := by decide +kernel
theorem dMd_part_86 : decode cMd_part 86 = .ok (.getfield 98, 3) := by decide +kernel
theorem dMd_part_89 : decode cMd_part 89 = .ok (.goto 6, 3) := by decide +kernel
theorem dMd_part_92 : decode cMd_part 92 = .ok (.lload 4, 2) := by decide +kernel
theorem dMd_part_94 : decode cMd_part 94 = .ok (.lneg, 1) := by decide +kernel
theorem dMd_part_95 : decode cMd_part 95 = .ok (.lload_n 2, 1) := by decide +kernel
theorem dMd_part_96 : decode cMd_part 96 = .ok (.lmul, 1) := by decide +kernel
theorem dMd_part_97 : decode cMd_part 97 = .ok (.aload_n 0, 1) := by decide +kernel
theorem dMd_part_98 : decode cMd_part 98 = .ok (.getfield 98, 3) := by decide +kernel
theorem dMd_part_101 : decode cMd_part 101 = .ok (.ldiv, 1) := by decide +kernel
theorem dMd_part_102 : decode cMd_part 102 = .ok (.lneg, 1) := by decide +kernel
theorem dMd_part_103 : decode cMd_part 103 = .ok (.lreturn, 1) := by decide +kernel
theorem dMd_part_104 : decode cMd_part 104 = .ok (.lconst 0, 1) := by decide +kernel
theorem dMd_part_105 : decode cMd_part 105 = .ok (.lreturn, 1) := by decide +kernel
theorem dMd_place_0 : decode cMd_place 0 = .ok (.aload_n 0, 1) := by decide +kernel
theorem dMd_place_1 : decode cMd_place 1 = .ok (.iload_n 1, 1) := by decide +kernel
theorem dMd_place_2 : decode cMd_place 2 = .ok (.iconst 0, 1) := by decide +kernel
theorem dMd_place_3 : decode cMd_place 3 = .ok (.aload_n 0, 1) := by decide +kernel
theorem dMd_place_4 : decode cMd_place 4 = .ok (.getfield 56, 3) := by decide +kernel
theorem dMd_place_7 : decode cMd_place 7 = .ok (.iconst 1, 1) := by decide +kernel
theorem dMd_place_8 : decode cMd_place 8 = .ok (.isub, 1) := by decide +kernel
theorem dMd_place_9 : decode cMd_place 9 = .ok (.invokestatic 64, 3) := by decide +kernel
theorem dMd_place_12 : decode cMd_place 12 = .ok (.invokevirtual 209, 3) := by decide +kernel
theorem dMd_place_15 : decode cMd_place 15 = .ok (.ifCond .eq 5, 3) := by decide +kernel
theorem dMd_place_18 : decode cMd_place 18 = .ok (.iconst 0, 1) := by decide +kernel
theorem dMd_place_19 : decode cMd_place 19 = .ok (.ireturn, 1) := by decide +kernel
theorem dMd_place_20 : decode cMd_place 20 = .ok (.aload_n 0, 1) := by decide +kernel
theorem dMd_place_21 : decode cMd_place 21 = .ok (.iload_n 1, 1) := by decide +kernel
theorem dMd_place_22 : decode cMd_place 22 = .ok (.invokevirtual 216, 3) := by decide +kernel
theorem dMd_place_25 : decode cMd_place 25 = .ok (.istore_n 2, 1) := by decide +kernel
theorem dMd_place_26 : decode cMd_place 26 = .ok (.iload_n 2, 1) := by decide +kernel
theorem dMd_place_27 : decode cMd_place 27 = .ok (.ifCond .ge 5, 3) := by decide +kernel
theorem dMd_place_30 : decode cMd_place 30 = .ok (.iconst (-1), 1) := by decide +kernel
theorem dMd_place_31 : decode cMd_place 31 = .ok (.ireturn, 1) := by decide +kernel
theorem dMd_place_32 : decode cMd_place 32 = .ok (.aload_n 0, 1) := by decide +kernel
theorem dMd_place_33 : decode cMd_place 33 = .ok (.aload_n 0, 1) := by decide +kernel
theorem dMd_place_34 : decode cMd_place 34 = .ok (.iload_n 2, 1) := by decide +kernel
theorem dMd_place_35 : decode cMd_place 35 = .ok (.invokevirtual 213, 3) := by decide +kernel
theorem dMd_place_38 : decode cMd_place 38 = .ok (.aload_n 0, 1) := by decide +kernel
theorem dMd_place_39 : decode cMd_place 39 = .ok (.getfield 38, 3) := by decide +kernel
theorem dMd_place_42 : decode cMd_place 42 = .ok (.iload_n 2, 1) := by decide +kernel
theorem dMd_place_43 : decode cMd_place 43 = .ok (.iaload, 1) := by decide +kernel
theorem dMd_place_44 : decode cMd_place 44 = .ok (.invokevirtual 146, 3) := by decide +kernel
theorem dMd_place_47 : decode cMd_place 47 = .ok (.lconst 0, 1) := by decide +kernel
theorem dMd_place_48 : decode cMd_place 48 = .ok (.lstore_n 3, 1) := by decide +kernel
theorem dMd_place_49 : decode cMd_place 49 = .ok (.lconst 0, 1) := by decide +kernel
theorem dMd_place_50 : decode cMd_place 50 = .ok (.lstore 5, 2) := by decide +kernel
theorem dMd_place_52 : decode cMd_place 52 = .ok (.aload_n 0, 1) := by decide +kernel
theorem dMd_place_53 : decode cMd_place 53 = .ok (.aload_n 0, 1) := by decide +kernel
theorem dMd_place_54 : decode cMd_place 54 = .ok (.iload_n 2, 1) := by decide +kernel
theorem dMd_place_55 : decode cMd_place 55 = .ok (.invokevirtual 213, 3) := by decide +kernel
theorem dMd_place_58 : decode cMd_place 58 = .ok (.aload_n 0, 1) := by decide +kernel
theorem dMd_place_59 : decode cMd_place 59 = .ok (.getfield 38, 3) := by decide +kernel
theorem dMd_place_62 : decode cMd_place 62 = .ok (.iload_n 2, 1) := by decide +kernel
theorem dMd_place_63 : decode cMd_place 63 = .ok (.iaload, 1) := by decide +kernel
theorem dMd_place_64 : decode cMd_place 64 = .ok (.invokevirtual 104, 3) := by decide +kernel
theorem dMd_place_67 : decode cMd_place 67 = .ok (.istore 7, 2) := by decide +kernel
theorem dMd_place_69 : decode cMd_place 69 = .ok (.iload 7, 2) := by decide +kernel
theorem dMd_place_71 : decode cMd_place 71 = .ok (.iload_n 1, 1) := by decide +kernel
theorem dMd_place_72 : decode cMd_place 72 = .ok (.if_icmp .ge 87, 3) := by decide +kernel
theorem dMd_place_75 : decode cMd_place 75 = .ok (.aload_n 0, 1) := by decide +kernel
theorem dMd_place_76 : decode cMd_place 76 = .ok (.getfield 7, 3) := by decide +kernel
theorem dMd_place_79 : decode cMd_place 79 = .ok (.iload 7, 2) := by decide +kernel
theorem dMd_place_81 : decode cMd_place 81 = .ok (.iaload, 1) := by decide +kernel
theorem dMd_place_82 : decode cMd_place 82 = .ok (.iconst 2, 1) := by decide +kernel
theorem dMd_place_83 : decode cMd_place 83 = .ok (.if_icmp .ge 16, 3) := by decide +kernel
theorem dMd_place_86 : decode cMd_place 86 = .ok (.lload_n 3, 1) := by decide +kernel
theorem dMd_place_87 : decode cMd_place 87 = .ok (.aload_n 0, 1) := by decide +kernel
theorem dMd_place_88 : decode cMd_place 88 = .ok (.getfield 13, 3) := by decide +kernel
theorem dMd_place_91 : decode cMd_place 91 = .ok (.iload 7, 2) := by decide +kernel
theorem dMd_place_93 : decode cMd_place 93 = .ok (.iaload, 1) := by decide +kernel
theorem dMd_place_94 : decode cMd_place 94 = .ok (.i2l, 1) := by decide +kernel
theorem dMd_place_95 : decode cMd_place 95 = .ok (.ladd, 1) := by decide +kernel
theorem dMd_place_96 : decode cMd_place 96 = .ok (.goto 4, 3) := by decide +kernel
theorem dMd_place_99 : decode cMd_place 99 = .ok (.lload_n 3, 1) := by decide +kernel
theorem dMd_place_100 : decode cMd_place 100 = .ok (.lstore_n 3, 1) := by decide +kernel
theorem dMd_place_101 : decode cMd_place 101 = .ok (.lload 5, 2) := by decide +kernel
theorem dMd_place_103 : decode cMd_place 103 = .ok (.aload_n 0, 1) := by decide +kernel
theorem dMd_place_104 : decode cMd_place 104 = .ok (.iload_n 2, 1) := by decide +kernel
theorem dMd_place_105 : decode cMd_place 105 = .ok (.invokevirtual 107, 3) := by decide +kernel
theorem dMd_place_108 : decode cMd_place 108 = .ok (.lconst 0, 1) := by decide +kernel
theorem dMd_place_109 : decode cMd_place 109 = .ok (.lcmp, 1) := by decide +kernel
theorem dMd_place_110 : decode cMd_place 110 = .ok (.ifCond .ge 13, 3) := by decide +kernel
theorem dMd_place_113 : decode cMd_place 113 = .ok (.aload_n 0, 1) := by decide +kernel
theorem dMd_place_114 : decode cMd_place 114 = .ok (.getfield 19, 3) := by decide +kernel
theorem dMd_place_117 : decode cMd_place 117 = .ok (.iload 7, 2) := by decide +kernel
theorem dMd_place_119 : decode cMd_place 119 = .ok (.iaload, 1) := by decide +kernel
theorem dMd_place_120 : decode cMd_place 120 = .ok (.goto 29, 3) := by decide +kernel
theorem dMd_place_123 : decode cMd_place 123 = .ok (.aload_n 0, 1) := by decide +kernel
theorem dMd_place_124 : decode cMd_place 124 = .ok (.getfield 101, 3) := by decide +kernel
theorem dMd_place_127 : decode cMd_place 127 = .ok (.lconst 0, 1) := by decide +kernel
theorem dMd_place_128 : decode cMd_place 128 = .ok (.lcmp, 1) := by decide +kernel
theorem dMd_place_129 : decode cMd_place 129 = .ok (.ifCond .le 13, 3) := by decide +kernel
theorem dMd_place_132 : decode cMd_place 132 = .ok (.aload_n 0, 1) := by decide +kernel
theorem dMd_place_133 : decode cMd_place 133 = .ok (.getfield 22, 3) := by decide +kernel
theorem dMd_place_136 : decode cMd_place 136 = .ok (.iload 7, 2) := by decide +kernel
theorem dMd_place_138 : decode cMd_place 138 = .ok (.iaload, 1) := by decide +kernel
theorem dMd_place_139 : decode cMd_place 139 = .ok (.goto 10, 3) := by decide +kernel
theorem dMd_place_142 : decode cMd_place 142 = .ok (.aload_n 0, 1) := by decide +kernel
theorem dMd_place_143 : decode cMd_place 143 = .ok (.getfield 16, 3) := by decide +kernel
theorem dMd_place_146 : decode cMd_place 146 = .ok (.iload 7, 2) := by decide +kernel
theorem dMd_place_148 : decode cMd_place 148 = .ok (.iaload, 1) := by decide +kernel
theorem dMd_place_149 : decode cMd_place 149 = .ok (.i2l, 1) := by decide +kernel
theorem dMd_place_150 : decode cMd_place 150 = .ok (.ladd, 1) := by decide +kernel
theorem dMd_place_151 : decode cMd_place 151 = .ok (.lstore 5, 2) := by decide +kernel
theorem dMd_place_153 : decode cMd_place 153 = .ok (.iinc 7 1, 3) := by decide +kernel
theorem dMd_place_156 : decode cMd_place 156 = .ok (.goto (-87), 3) := by decide +kernel
theorem dMd_place_159 : decode cMd_place 159 = .ok (.lload_n 3, 1) := by decide +kernel
theorem dMd_place_160 : decode cMd_place 160 = .ok (.aload_n 0, 1) := by decide +kernel
theorem dMd_place_161 : decode cMd_place 161 = .ok (.iload_n 2, 1) := by decide +kernel
theorem dMd_place_162 : decode cMd_place 162 = .ok (.lload 5, 2) := by decide +kernel
theorem dMd_place_164 : decode cMd_place 164 = .ok (.invokevirtual 219, 3) := by decide +kernel
theorem dMd_place_167 : decode cMd_place 167 = .ok (.ladd, 1) := by decide +kernel
theorem dMd_place_168 : decode cMd_place 168 = .ok (.l2i, 1) := by decide +kernel
theorem dMd_place_169 : decode cMd_place 169 = .ok (.ireturn, 1) := by decide +kernel
