abbrev cOL_init : ByteArray := prog_1_method_1_code
abbrev yOL_init : MethodName := ⟨"OptimalLines", "<init>", "()V"⟩
abbrev wsOL_init : List Cond := Cond.code yOL_init cOL_init 1 none :: om_W
abbrev cOL_box : ByteArray := prog_1_method_2_code
abbrev yOL_box : MethodName := ⟨"OptimalLines", "box", "(I)I"⟩
abbrev wsOL_box : List Cond := Cond.code yOL_box cOL_box 2 (some .int) :: om_W
abbrev cOL_glue : ByteArray := prog_1_method_3_code
abbrev yOL_glue : MethodName := ⟨"OptimalLines", "glue", "(IIII)I"⟩
abbrev wsOL_glue : List Cond := Cond.code yOL_glue cOL_glue 5 (some .int) :: om_W
abbrev cOL_penalty : ByteArray := prog_1_method_4_code
abbrev yOL_penalty : MethodName := ⟨"OptimalLines", "penalty", "(IIZ)I"⟩
abbrev wsOL_penalty : List Cond := Cond.code yOL_penalty cOL_penalty 4 (some .int) :: om_W
abbrev cOL_clear : ByteArray := prog_1_method_5_code
abbrev yOL_clear : MethodName := ⟨"OptimalLines", "clear", "()I"⟩
abbrev wsOL_clear : List Cond := Cond.code yOL_clear cOL_clear 1 (some .int) :: om_W
abbrev cOL_width : ByteArray := prog_1_method_6_code
abbrev yOL_width : MethodName := ⟨"OptimalLines", "width", "(II)V"⟩
abbrev wsOL_width : List Cond := Cond.code yOL_width cOL_width 4 none :: om_W
abbrev cOL_setting : ByteArray := prog_1_method_7_code
abbrev yOL_setting : MethodName := ⟨"OptimalLines", "setting", "(II)I"⟩
abbrev wsOL_setting : List Cond := Cond.code yOL_setting cOL_setting 4 (some .int) :: om_W
abbrev cOL_breakUp : ByteArray := prog_1_method_8_code
abbrev yOL_breakUp : MethodName := ⟨"OptimalLines", "breakUp", "()I"⟩
abbrev wsOL_breakUp : List Cond := Cond.code yOL_breakUp cOL_breakUp 1 (some .int) :: om_W
abbrev cOL_pass : ByteArray := prog_1_method_9_code
abbrev yOL_pass : MethodName := ⟨"OptimalLines", "pass", "()I"⟩
abbrev wsOL_pass : List Cond := Cond.code yOL_pass cOL_pass 1 (some .int) :: om_W
abbrev cOL_demerits : ByteArray := prog_1_method_10_code
abbrev yOL_demerits : MethodName := ⟨"OptimalLines", "demerits", "()J"⟩
abbrev wsOL_demerits : List Cond := Cond.code yOL_demerits cOL_demerits 1 (some .long) :: om_W
abbrev cOL_line : ByteArray := prog_1_method_11_code
abbrev yOL_line : MethodName := ⟨"OptimalLines", "line", "(II)I"⟩
abbrev wsOL_line : List Cond := Cond.code yOL_line cOL_line 4 (some .int) :: om_W
abbrev cOL_over : ByteArray := prog_1_method_12_code
abbrev yOL_over : MethodName := ⟨"OptimalLines", "over", "()I"⟩
abbrev wsOL_over : List Cond := Cond.code yOL_over cOL_over 3 (some .int) :: om_W
abbrev cOL_lineOf : ByteArray := prog_1_method_13_code
abbrev yOL_lineOf : MethodName := ⟨"OptimalLines", "lineOf", "(I)I"⟩
abbrev wsOL_lineOf : List Cond := Cond.code yOL_lineOf cOL_lineOf 2 (some .int) :: om_W
abbrev cOL_place : ByteArray := prog_1_method_14_code
abbrev yOL_place : MethodName := ⟨"OptimalLines", "place", "(I)I"⟩
abbrev wsOL_place : List Cond := Cond.code yOL_place cOL_place 3 (some .int) :: om_W
abbrev cOL_requireWithin : ByteArray := prog_1_method_15_code
abbrev yOL_requireWithin : MethodName := ⟨"OptimalLines", "requireWithin", "(III)V"⟩
abbrev wsOL_requireWithin : List Cond := Cond.code yOL_requireWithin cOL_requireWithin 3 none :: om_W
abbrev cOL_requireSize : ByteArray := prog_1_method_16_code
abbrev yOL_requireSize : MethodName := ⟨"OptimalLines", "requireSize", "(I)V"⟩
abbrev wsOL_requireSize : List Cond := Cond.code yOL_requireSize cOL_requireSize 1 none :: om_W
abbrev cOL_requireIndex : ByteArray := prog_1_method_17_code
abbrev yOL_requireIndex : MethodName := ⟨"OptimalLines", "requireIndex", "(II)V"⟩
abbrev wsOL_requireIndex : List Cond := Cond.code yOL_requireIndex cOL_requireIndex 2 none :: om_W
abbrev cOL_requireRoom : ByteArray := prog_1_method_18_code
abbrev yOL_requireRoom : MethodName := ⟨"OptimalLines", "requireRoom", "()V"⟩
abbrev wsOL_requireRoom : List Cond := Cond.code yOL_requireRoom cOL_requireRoom 1 none :: om_W
abbrev cOL_requireLines : ByteArray := prog_1_method_19_code
abbrev yOL_requireLines : MethodName := ⟨"OptimalLines", "requireLines", "()V"⟩
abbrev wsOL_requireLines : List Cond := Cond.code yOL_requireLines cOL_requireLines 1 none :: om_W
abbrev cOL_widthOfLine : ByteArray := prog_1_method_20_code
abbrev yOL_widthOfLine : MethodName := ⟨"OptimalLines", "widthOfLine", "([II)I"⟩
abbrev wsOL_widthOfLine : List Cond := Cond.code yOL_widthOfLine cOL_widthOfLine 2 (some .int) :: om_W
abbrev cOL_measureLine : ByteArray := prog_1_method_21_code
abbrev yOL_measureLine : MethodName := ⟨"OptimalLines", "measureLine", "(I)V"⟩
abbrev wsOL_measureLine : List Cond := Cond.code yOL_measureLine cOL_measureLine 2 none :: om_W
abbrev cOL_passIsTaken : ByteArray := prog_1_method_22_code
abbrev yOL_passIsTaken : MethodName := ⟨"OptimalLines", "passIsTaken", "(I)Z"⟩
abbrev wsOL_passIsTaken : List Cond := Cond.code yOL_passIsTaken cOL_passIsTaken 4 (some .boolean) :: om_W
abbrev cOL_breakInEmergency : ByteArray := prog_1_method_23_code
abbrev yOL_breakInEmergency : MethodName := ⟨"OptimalLines", "breakInEmergency", "()V"⟩
abbrev wsOL_breakInEmergency : List Cond := Cond.code yOL_breakInEmergency cOL_breakInEmergency 4 none :: om_W
abbrev cOL_emergencyBreak : ByteArray := prog_1_method_24_code
abbrev yOL_emergencyBreak : MethodName := ⟨"OptimalLines", "emergencyBreak", "(II)I"⟩
abbrev wsOL_emergencyBreak : List Cond := Cond.code yOL_emergencyBreak cOL_emergencyBreak 5 (some .int) :: om_W
theorem dOL_init_0 : decode cOL_init 0 = .ok (.aload_n 0, 1) := by decide +kernel
theorem dOL_init_1 : decode cOL_init 1 = .ok (.invokespecial 1, 3) := by decide +kernel
theorem dOL_init_4 : decode cOL_init 4 = .ok (.aload_n 0, 1) := by decide +kernel
theorem dOL_init_5 : decode cOL_init 5 = .ok (.new 7, 3) := by decide +kernel
theorem dOL_init_8 : decode cOL_init 8 = .ok (.dup, 1) := by decide +kernel
theorem dOL_init_9 : decode cOL_init 9 = .ok (.invokespecial 9, 3) := by decide +kernel
theorem dOL_init_12 : decode cOL_init 12 = .ok (.putfield 10, 3) := by decide +kernel
theorem dOL_init_15 : decode cOL_init 15 = .ok (.aload_n 0, 1) := by decide +kernel
theorem dOL_init_16 : decode cOL_init 16 = .ok (.bipush 41, 2) := by decide +kernel
theorem dOL_init_18 : decode cOL_init 18 = .ok (.newarray .int, 2) := by decide +kernel
theorem dOL_init_20 : decode cOL_init 20 = .ok (.putfield 16, 3) := by decide +kernel
theorem dOL_init_23 : decode cOL_init 23 = .ok (.aload_n 0, 1) := by decide +kernel
theorem dOL_init_24 : decode cOL_init 24 = .ok (.getfield 16, 3) := by decide +kernel
theorem dOL_init_27 : decode cOL_init 27 = .ok (.sipush 1000, 3) := by decide +kernel
theorem dOL_init_30 : decode cOL_init 30 = .ok (.invokestatic 20, 3) := by decide +kernel
theorem dOL_init_33 : decode cOL_init 33 = .ok (.aload_n 0, 1) := by decide +kernel
theorem dOL_init_34 : decode cOL_init 34 = .ok (.getstatic 26, 3) := by decide +kernel
theorem dOL_init_37 : decode cOL_init 37 = .ok (.bipush 8, 2) := by decide +kernel
theorem dOL_init_39 : decode cOL_init 39 = .ok (.invokestatic 29, 3) := by decide +kernel
theorem dOL_init_42 : decode cOL_init 42 = .ok (.putfield 33, 3) := by decide +kernel
theorem dOL_init_45 : decode cOL_init 45 = .ok (.aload_n 0, 1) := by decide +kernel
theorem dOL_init_46 : decode cOL_init 46 = .ok (.new 36, 3) := by decide +kernel
theorem dOL_init_49 : decode cOL_init 49 = .ok (.dup, 1) := by decide +kernel
theorem dOL_init_50 : decode cOL_init 50 = .ok (.aload_n 0, 1) := by decide +kernel
theorem dOL_init_51 : decode cOL_init 51 = .ok (.getfield 10, 3) := by decide +kernel
theorem dOL_init_54 : decode cOL_init 54 = .ok (.invokespecial 38, 3) := by decide +kernel
theorem dOL_init_57 : decode cOL_init 57 = .ok (.putfield 41, 3) := by decide +kernel
theorem dOL_init_60 : decode cOL_init 60 = .ok (.aload_n 0, 1) := by decide +kernel
theorem dOL_init_61 : decode cOL_init 61 = .ok (.new 45, 3) := by decide +kernel
theorem dOL_init_64 : decode cOL_init 64 = .ok (.dup, 1) := by decide +kernel
theorem dOL_init_65 : decode cOL_init 65 = .ok (.aload_n 0, 1) := by decide +kernel
theorem dOL_init_66 : decode cOL_init 66 = .ok (.getfield 10, 3) := by decide +kernel
theorem dOL_init_69 : decode cOL_init 69 = .ok (.invokespecial 47, 3) := by decide +kernel
theorem dOL_init_72 : decode cOL_init 72 = .ok (.putfield 48, 3) := by decide +kernel
theorem dOL_init_75 : decode cOL_init 75 = .ok (.aload_n 0, 1) := by decide +kernel
theorem dOL_init_76 : decode cOL_init 76 = .ok (.new 52, 3) := by decide +kernel
theorem dOL_init_79 : decode cOL_init 79 = .ok (.dup, 1) := by decide +kernel
theorem dOL_init_80 : decode cOL_init 80 = .ok (.aload_n 0, 1) := by decide +kernel
theorem dOL_init_81 : decode cOL_init 81 = .ok (.getfield 41, 3) := by decide +kernel
theorem dOL_init_84 : decode cOL_init 84 = .ok (.aload_n 0, 1) := by decide +kernel
theorem dOL_init_85 : decode cOL_init 85 = .ok (.getfield 48, 3) := by decide +kernel
theorem dOL_init_88 : decode cOL_init 88 = .ok (.aload_n 0, 1) := by decide +kernel
theorem dOL_init_89 : decode cOL_init 89 = .ok (.getfield 16, 3) := by decide +kernel
theorem dOL_init_92 : decode cOL_init 92 = .ok (.aload_n 0, 1) := by decide +kernel
theorem dOL_init_93 : decode cOL_init 93 = .ok (.getfield 33, 3) := by decide +kernel
theorem dOL_init_96 : decode cOL_init 96 = .ok (.invokespecial 54, 3) := by decide +kernel
theorem dOL_init_99 : decode cOL_init 99 = .ok (.putfield 57, 3) := by decide +kernel
theorem dOL_init_102 : decode cOL_init 102 = .ok (.aload_n 0, 1) := by decide +kernel
theorem dOL_init_103 : decode cOL_init 103 = .ok (.new 61, 3) := by decide +kernel
theorem dOL_init_106 : decode cOL_init 106 = .ok (.dup, 1) := by decide +kernel
theorem dOL_init_107 : decode cOL_init 107 = .ok (.invokespecial 63, 3) := by decide +kernel
theorem dOL_init_110 : decode cOL_init 110 = .ok (.putfield 64, 3) := by decide +kernel
theorem dOL_init_113 : decode cOL_init 113 = .ok (.return_, 1) := by decide +kernel
theorem dOL_box_0 : decode cOL_box 0 = .ok (.iload_n 1, 1) := by decide +kernel
theorem dOL_box_1 : decode cOL_box 1 = .ok (.invokestatic 68, 3) := by decide +kernel
theorem dOL_box_4 : decode cOL_box 4 = .ok (.aload_n 0, 1) := by decide +kernel
theorem dOL_box_5 : decode cOL_box 5 = .ok (.invokevirtual 72, 3) := by decide +kernel
theorem dOL_box_8 : decode cOL_box 8 = .ok (.aload_n 0, 1) := by decide +kernel
theorem dOL_box_9 : decode cOL_box 9 = .ok (.getfield 64, 3) := by decide +kernel
theorem dOL_box_12 : decode cOL_box 12 = .ok (.iconst 0, 1) := by decide +kernel
theorem dOL_box_13 : decode cOL_box 13 = .ok (.putfield 75, 3) := by decide +kernel
theorem dOL_box_16 : decode cOL_box 16 = .ok (.aload_n 0, 1) := by decide +kernel
theorem dOL_box_17 : decode cOL_box 17 = .ok (.getfield 10, 3) := by decide +kernel
theorem dOL_box_20 : decode cOL_box 20 = .ok (.iload_n 1, 1) := by decide +kernel
theorem dOL_box_21 : decode cOL_box 21 = .ok (.invokevirtual 79, 3) := by decide +kernel
theorem dOL_box_24 : decode cOL_box 24 = .ok (.ireturn, 1) := by decide +kernel
theorem dOL_glue_0 : decode cOL_glue 0 = .ok (.iload_n 1, 1) := by decide +kernel
theorem dOL_glue_1 : decode cOL_glue 1 = .ok (.invokestatic 68, 3) := by decide +kernel
theorem dOL_glue_4 : decode cOL_glue 4 = .ok (.iload_n 2, 1) := by decide +kernel
theorem dOL_glue_5 : decode cOL_glue 5 = .ok (.invokestatic 68, 3) := by decide +kernel
theorem dOL_glue_8 : decode cOL_glue 8 = .ok (.iload_n 3, 1) := by decide +kernel
theorem dOL_glue_9 : decode cOL_glue 9 = .ok (.invokestatic 68, 3) := by decide +kernel
theorem dOL_glue_12 : decode cOL_glue 12 = .ok (.iload 4, 2) := by decide +kernel
theorem dOL_glue_14 : decode cOL_glue 14 = .ok (.iconst 0, 1) := by decide +kernel
theorem dOL_glue_15 : decode cOL_glue 15 = .ok (.bipush 100, 2) := by decide +kernel
theorem dOL_glue_17 : decode cOL_glue 17 = .ok (.invokestatic 83, 3) := by decide +kernel
theorem dOL_glue_20 : decode cOL_glue 20 = .ok (.aload_n 0, 1) := by decide +kernel
theorem dOL_glue_21 : decode cOL_glue 21 = .ok (.invokevirtual 72, 3) := by decide +kernel
theorem dOL_glue_24 : decode cOL_glue 24 = .ok (.aload_n 0, 1) := by decide +kernel
theorem dOL_glue_25 : decode cOL_glue 25 = .ok (.getfield 64, 3) := by decide +kernel
theorem dOL_glue_28 : decode cOL_glue 28 = .ok (.iconst 0, 1) := by decide +kernel
theorem dOL_glue_29 : decode cOL_glue 29 = .ok (.putfield 75, 3) := by decide +kernel
theorem dOL_glue_32 : decode cOL_glue 32 = .ok (.aload_n 0, 1) := by decide +kernel
theorem dOL_glue_33 : decode cOL_glue 33 = .ok (.getfield 10, 3) := by decide +kernel
theorem dOL_glue_36 : decode cOL_glue 36 = .ok (.iload_n 1, 1) := by decide +kernel
theorem dOL_glue_37 : decode cOL_glue 37 = .ok (.iload_n 2, 1) := by decide +kernel
theorem dOL_glue_38 : decode cOL_glue 38 = .ok (.iload_n 3, 1) := by decide +kernel
theorem dOL_glue_39 : decode cOL_glue 39 = .ok (.iload 4, 2) := by decide +kernel
theorem dOL_glue_41 : decode cOL_glue 41 = .ok (.invokevirtual 87, 3) := by decide +kernel
theorem dOL_glue_44 : decode cOL_glue 44 = .ok (.ireturn, 1) := by decide +kernel
theorem dOL_penalty_0 : decode cOL_penalty 0 = .ok (.iload_n 1, 1) := by decide +kernel
theorem dOL_penalty_1 : decode cOL_penalty 1 = .ok (.invokestatic 68, 3) := by decide +kernel
theorem dOL_penalty_4 : decode cOL_penalty 4 = .ok (.iload_n 2, 1) := by decide +kernel
theorem dOL_penalty_5 : decode cOL_penalty 5 = .ok (.sipush (-10000), 3) := by decide +kernel
theorem dOL_penalty_8 : decode cOL_penalty 8 = .ok (.sipush 10000, 3) := by decide +kernel
theorem dOL_penalty_11 : decode cOL_penalty 11 = .ok (.invokestatic 83, 3) := by decide +kernel
theorem dOL_penalty_14 : decode cOL_penalty 14 = .ok (.aload_n 0, 1) := by decide +kernel
theorem dOL_penalty_15 : decode cOL_penalty 15 = .ok (.invokevirtual 72, 3) := by decide +kernel
theorem dOL_penalty_18 : decode cOL_penalty 18 = .ok (.aload_n 0, 1) := by decide +kernel
theorem dOL_penalty_19 : decode cOL_penalty 19 = .ok (.getfield 64, 3) := by decide +kernel
theorem dOL_penalty_22 : decode cOL_penalty 22 = .ok (.iconst 0, 1) := by decide +kernel
theorem dOL_penalty_23 : decode cOL_penalty 23 = .ok (.putfield 75, 3) := by decide +kernel
theorem dOL_penalty_26 : decode cOL_penalty 26 = .ok (.aload_n 0, 1) := by decide +kernel
theorem dOL_penalty_27 : decode cOL_penalty 27 = .ok (.getfield 10, 3) := by decide +kernel
theorem dOL_penalty_30 : decode cOL_penalty 30 = .ok (.iload_n 1, 1) := by decide +kernel
theorem dOL_penalty_31 : decode cOL_penalty 31 = .ok (.iload_n 2, 1) := by decide +kernel
theorem dOL_penalty_32 : decode cOL_penalty 32 = .ok (.iload_n 3, 1) := by decide +kernel
theorem dOL_penalty_33 : decode cOL_penalty 33 = .ok (.invokevirtual 91, 3) := by decide +kernel
theorem dOL_penalty_36 : decode cOL_penalty 36 = .ok (.ireturn, 1) := by decide +kernel
theorem dOL_clear_0 : decode cOL_clear 0 = .ok (.aload_n 0, 1) := by decide +kernel
theorem dOL_clear_1 : decode cOL_clear 1 = .ok (.getfield 64, 3) := by decide +kernel
theorem dOL_clear_4 : decode cOL_clear 4 = .ok (.iconst 0, 1) := by decide +kernel
theorem dOL_clear_5 : decode cOL_clear 5 = .ok (.putfield 75, 3) := by decide +kernel
theorem dOL_clear_8 : decode cOL_clear 8 = .ok (.aload_n 0, 1) := by decide +kernel
theorem dOL_clear_9 : decode cOL_clear 9 = .ok (.getfield 10, 3) := by decide +kernel
theorem dOL_clear_12 : decode cOL_clear 12 = .ok (.invokevirtual 95, 3) := by decide +kernel
theorem dOL_clear_15 : decode cOL_clear 15 = .ok (.ireturn, 1) := by decide +kernel
theorem dOL_width_0 : decode cOL_width 0 = .ok (.iload_n 1, 1) := by decide +kernel
theorem dOL_width_1 : decode cOL_width 1 = .ok (.iconst 0, 1) := by decide +kernel
theorem dOL_width_2 : decode cOL_width 2 = .ok (.bipush 40, 2) := by decide +kernel
theorem dOL_width_4 : decode cOL_width 4 = .ok (.invokestatic 83, 3) := by decide +kernel
theorem dOL_width_7 : decode cOL_width 7 = .ok (.iload_n 2, 1) := by decide +kernel
theorem dOL_width_8 : decode cOL_width 8 = .ok (.iconst 1, 1) := by decide +kernel
theorem dOL_width_9 : decode cOL_width 9 = .ok (.ldc 99, 2) := by decide +kernel
theorem dOL_width_11 : decode cOL_width 11 = .ok (.invokestatic 83, 3) := by decide +kernel
theorem dOL_width_14 : decode cOL_width 14 = .ok (.aload_n 0, 1) := by decide +kernel
theorem dOL_width_15 : decode cOL_width 15 = .ok (.getfield 64, 3) := by decide +kernel
theorem dOL_width_18 : decode cOL_width 18 = .ok (.iconst 0, 1) := by decide +kernel
theorem dOL_width_19 : decode cOL_width 19 = .ok (.putfield 75, 3) := by decide +kernel
theorem dOL_width_22 : decode cOL_width 22 = .ok (.iload_n 1, 1) := by decide +kernel
theorem dOL_width_23 : decode cOL_width 23 = .ok (.istore_n 3, 1) := by decide +kernel
theorem dOL_width_24 : decode cOL_width 24 = .ok (.iload_n 3, 1) := by decide +kernel
theorem dOL_width_25 : decode cOL_width 25 = .ok (.bipush 40, 2) := by decide +kernel
theorem dOL_width_27 : decode cOL_width 27 = .ok (.if_icmp .gt 16, 3) := by decide +kernel
theorem dOL_width_30 : decode cOL_width 30 = .ok (.aload_n 0, 1) := by decide +kernel
theorem dOL_width_31 : decode cOL_width 31 = .ok (.getfield 16, 3) := by decide +kernel
theorem dOL_width_34 : decode cOL_width 34 = .ok (.iload_n 3, 1) := by decide +kernel
theorem dOL_width_35 : decode cOL_width 35 = .ok (.iload_n 2, 1) := by decide +kernel
theorem dOL_width_36 : decode cOL_width 36 = .ok (.iastore, 1) := by decide +kernel
theorem dOL_width_37 : decode cOL_width 37 = .ok (.iinc 3 1, 3) := by decide +kernel
theorem dOL_width_40 : decode cOL_width 40 = .ok (.goto (-16), 3) := by decide +kernel
theorem dOL_width_43 : decode cOL_width 43 = .ok (.return_, 1) := by decide +kernel
theorem dOL_setting_0 : decode cOL_setting 0 = .ok (.iload_n 1, 1) := by decide +kernel
theorem dOL_setting_1 : decode cOL_setting 1 = .ok (.iconst 0, 1) := by decide +kernel
theorem dOL_setting_2 : decode cOL_setting 2 = .ok (.bipush 7, 2) := by decide +kernel
theorem dOL_setting_4 : decode cOL_setting 4 = .ok (.invokestatic 83, 3) := by decide +kernel
theorem dOL_setting_7 : decode cOL_setting 7 = .ok (.iload_n 2, 1) := by decide +kernel
theorem dOL_setting_8 : decode cOL_setting 8 = .ok (.getstatic 100, 3) := by decide +kernel
theorem dOL_setting_11 : decode cOL_setting 11 = .ok (.iload_n 1, 1) := by decide +kernel
theorem dOL_setting_12 : decode cOL_setting 12 = .ok (.iaload, 1) := by decide +kernel
theorem dOL_setting_13 : decode cOL_setting 13 = .ok (.getstatic 103, 3) := by decide +kernel
theorem dOL_setting_16 : decode cOL_setting 16 = .ok (.iload_n 1, 1) := by decide +kernel
theorem dOL_setting_17 : decode cOL_setting 17 = .ok (.iaload, 1) := by decide +kernel
theorem dOL_setting_18 : decode cOL_setting 18 = .ok (.invokestatic 83, 3) := by decide +kernel
theorem dOL_setting_21 : decode cOL_setting 21 = .ok (.aload_n 0, 1) := by decide +kernel
theorem dOL_setting_22 : decode cOL_setting 22 = .ok (.getfield 64, 3) := by decide +kernel
theorem dOL_setting_25 : decode cOL_setting 25 = .ok (.iconst 0, 1) := by decide +kernel
theorem dOL_setting_26 : decode cOL_setting 26 = .ok (.putfield 75, 3) := by decide +kernel
theorem dOL_setting_29 : decode cOL_setting 29 = .ok (.aload_n 0, 1) := by decide +kernel
theorem dOL_setting_30 : decode cOL_setting 30 = .ok (.getfield 33, 3) := by decide +kernel
theorem dOL_setting_33 : decode cOL_setting 33 = .ok (.iload_n 1, 1) := by decide +kernel
theorem dOL_setting_34 : decode cOL_setting 34 = .ok (.iaload, 1) := by decide +kernel
theorem dOL_setting_35 : decode cOL_setting 35 = .ok (.istore_n 3, 1) := by decide +kernel
theorem dOL_setting_36 : decode cOL_setting 36 = .ok (.aload_n 0, 1) := by decide +kernel
theorem dOL_setting_37 : decode cOL_setting 37 = .ok (.getfield 33, 3) := by decide +kernel
theorem dOL_setting_40 : decode cOL_setting 40 = .ok (.iload_n 1, 1) := by decide +kernel
theorem dOL_setting_41 : decode cOL_setting 41 = .ok (.iload_n 2, 1) := by decide +kernel
theorem dOL_setting_42 : decode cOL_setting 42 = .ok (.iastore, 1) := by decide +kernel
theorem dOL_setting_43 : decode cOL_setting 43 = .ok (.iload_n 3, 1) := by decide +kernel
theorem dOL_setting_44 : decode cOL_setting 44 = .ok (.ireturn, 1) := by decide +kernel
theorem dOL_breakUp_0 : decode cOL_breakUp 0 = .ok (.aload_n 0, 1) := by decide +kernel
theorem dOL_breakUp_1 : decode cOL_breakUp 1 = .ok (.getfield 10, 3) := by decide +kernel
theorem dOL_breakUp_4 : decode cOL_breakUp 4 = .ok (.getfield 106, 3) := by decide +kernel
theorem dOL_breakUp_7 : decode cOL_breakUp 7 = .ok (.ifCond .ne 13, 3) := by decide +kernel
theorem dOL_breakUp_10 : decode cOL_breakUp 10 = .ok (.new 110, 3) := by decide +kernel
theorem dOL_breakUp_13 : decode cOL_breakUp 13 = .ok (.dup, 1) := by decide +kernel
theorem dOL_breakUp_14 : decode cOL_breakUp 14 = .ok (.ldc 112, 2) := by decide +kernel
theorem dOL_breakUp_16 : decode cOL_breakUp 16 = .ok (.invokespecial 114, 3) := by decide +kernel
theorem dOL_breakUp_19 : decode cOL_breakUp 19 = .ok (.athrow, 1) := by decide +kernel
theorem dOL_breakUp_20 : decode cOL_breakUp 20 = .ok (.aload_n 0, 1) := by decide +kernel
theorem dOL_breakUp_21 : decode cOL_breakUp 21 = .ok (.iconst 1, 1) := by decide +kernel
theorem dOL_breakUp_22 : decode cOL_breakUp 22 = .ok (.invokevirtual 117, 3) := by decide +kernel
theorem dOL_breakUp_25 : decode cOL_breakUp 25 = .ok (.ifCond .ne 23, 3) := by decide +kernel
theorem dOL_breakUp_28 : decode cOL_breakUp 28 = .ok (.aload_n 0, 1) := by decide +kernel
theorem dOL_breakUp_29 : decode cOL_breakUp 29 = .ok (.iconst 2, 1) := by decide +kernel
theorem dOL_breakUp_30 : decode cOL_breakUp 30 = .ok (.invokevirtual 117, 3) := by decide +kernel
theorem dOL_breakUp_33 : decode cOL_breakUp 33 = .ok (.ifCond .ne 15, 3) := by decide +kernel
theorem dOL_breakUp_36 : decode cOL_breakUp 36 = .ok (.aload_n 0, 1) := by decide +kernel
theorem dOL_breakUp_37 : decode cOL_breakUp 37 = .ok (.iconst 3, 1) := by decide +kernel
theorem dOL_breakUp_38 : decode cOL_breakUp 38 = .ok (.invokevirtual 117, 3) := by decide +kernel
theorem dOL_breakUp_41 : decode cOL_breakUp 41 = .ok (.ifCond .ne 7, 3) := by decide +kernel
theorem dOL_breakUp_44 : decode cOL_breakUp 44 = .ok (.aload_n 0, 1) := by decide +kernel
theorem dOL_breakUp_45 : decode cOL_breakUp 45 = .ok (.invokevirtual 121, 3) := by decide +kernel
theorem dOL_breakUp_48 : decode cOL_breakUp 48 = .ok (.aload_n 0, 1) := by decide +kernel
theorem dOL_breakUp_49 : decode cOL_breakUp 49 = .ok (.getfield 64, 3) := by decide +kernel
theorem dOL_breakUp_52 : decode cOL_breakUp 52 = .ok (.iconst 1, 1) := by decide +kernel
theorem dOL_breakUp_53 : decode cOL_breakUp 53 = .ok (.putfield 75, 3) := by decide +kernel
theorem dOL_breakUp_56 : decode cOL_breakUp 56 = .ok (.aload_n 0, 1) := by decide +kernel
theorem dOL_breakUp_57 : decode cOL_breakUp 57 = .ok (.getfield 64, 3) := by decide +kernel
theorem dOL_breakUp_60 : decode cOL_breakUp 60 = .ok (.getfield 124, 3) := by decide +kernel
theorem dOL_breakUp_63 : decode cOL_breakUp 63 = .ok (.ireturn, 1) := by decide +kernel
theorem dOL_pass_0 : decode cOL_pass 0 = .ok (.aload_n 0, 1) := by decide +kernel
theorem dOL_pass_1 : decode cOL_pass 1 = .ok (.invokevirtual 127, 3) := by decide +kernel
theorem dOL_pass_4 : decode cOL_pass 4 = .ok (.aload_n 0, 1) := by decide +kernel
theorem dOL_pass_5 : decode cOL_pass 5 = .ok (.getfield 64, 3) := by decide +kernel
theorem dOL_pass_8 : decode cOL_pass 8 = .ok (.getfield 130, 3) := by decide +kernel
theorem dOL_pass_11 : decode cOL_pass 11 = .ok (.ireturn, 1) := by decide +kernel
theorem dOL_demerits_0 : decode cOL_demerits 0 = .ok (.aload_n 0, 1) := by decide +kernel
theorem dOL_demerits_1 : decode cOL_demerits 1 = .ok (.invokevirtual 127, 3) := by decide +kernel
theorem dOL_demerits_4 : decode cOL_demerits 4 = .ok (.aload_n 0, 1) := by decide +kernel
theorem dOL_demerits_5 : decode cOL_demerits 5 = .ok (.getfield 64, 3) := by decide +kernel
theorem dOL_demerits_8 : decode cOL_demerits 8 = .ok (.getfield 133, 3) := by decide +kernel
theorem dOL_demerits_11 : decode cOL_demerits 11 = .ok (.lreturn, 1) := by decide +kernel
theorem dOL_line_0 : decode cOL_line 0 = .ok (.aload_n 0, 1) := by decide +kernel
theorem dOL_line_1 : decode cOL_line 1 = .ok (.invokevirtual 127, 3) := by decide +kernel
theorem dOL_line_4 : decode cOL_line 4 = .ok (.iload_n 1, 1) := by decide +kernel
theorem dOL_line_5 : decode cOL_line 5 = .ok (.aload_n 0, 1) := by decide +kernel
theorem dOL_line_6 : decode cOL_line 6 = .ok (.getfield 64, 3) := by decide +kernel
theorem dOL_line_9 : decode cOL_line 9 = .ok (.getfield 124, 3) := by decide +kernel
theorem dOL_line_12 : decode cOL_line 12 = .ok (.invokestatic 137, 3) := by decide +kernel
theorem dOL_line_15 : decode cOL_line 15 = .ok (.iload_n 2, 1) := by decide +kernel
theorem dOL_line_16 : decode cOL_line 16 = .ok (.iconst 5, 1) := by decide +kernel
theorem dOL_line_17 : decode cOL_line 17 = .ok (.invokestatic 137, 3) := by decide +kernel
theorem dOL_line_20 : decode cOL_line 20 = .ok (.aload_n 0, 1) := by decide +kernel
theorem dOL_line_21 : decode cOL_line 21 = .ok (.iload_n 1, 1) := by decide +kernel
theorem dOL_line_22 : decode cOL_line 22 = .ok (.invokevirtual 141, 3) := by decide +kernel
theorem dOL_line_25 : decode cOL_line 25 = .ok (.aload_n 0, 1) := by decide +kernel
theorem dOL_line_26 : decode cOL_line 26 = .ok (.getfield 48, 3) := by decide +kernel
theorem dOL_line_29 : decode cOL_line 29 = .ok (.aload_n 0, 1) := by decide +kernel
theorem dOL_line_30 : decode cOL_line 30 = .ok (.getfield 64, 3) := by decide +kernel
theorem dOL_line_33 : decode cOL_line 33 = .ok (.getfield 144, 3) := by decide +kernel
theorem dOL_line_36 : decode cOL_line 36 = .ok (.invokevirtual 147, 3) := by decide +kernel
theorem dOL_line_39 : decode cOL_line 39 = .ok (.istore_n 3, 1) := by decide +kernel
theorem dOL_line_40 : decode cOL_line 40 = .ok (.iload_n 2, 1) := by decide +kernel
theorem dOL_line_41 : decode cOL_line 41 = .ok (.tableswitch 61 0 3 #[31, 41, 51, 59], 31) := by decide +kernel
theorem dOL_line_72 : decode cOL_line 72 = .ok (.aload_n 0, 1) := by decide +kernel
theorem dOL_line_73 : decode cOL_line 73 = .ok (.getfield 64, 3) := by decide +kernel
theorem dOL_line_76 : decode cOL_line 76 = .ok (.getfield 150, 3) := by decide +kernel
theorem dOL_line_79 : decode cOL_line 79 = .ok (.iload_n 1, 1) := by decide +kernel
theorem dOL_line_80 : decode cOL_line 80 = .ok (.iaload, 1) := by decide +kernel
theorem dOL_line_81 : decode cOL_line 81 = .ok (.ireturn, 1) := by decide +kernel
theorem dOL_line_82 : decode cOL_line 82 = .ok (.aload_n 0, 1) := by decide +kernel
theorem dOL_line_83 : decode cOL_line 83 = .ok (.getfield 64, 3) := by decide +kernel
theorem dOL_line_86 : decode cOL_line 86 = .ok (.getfield 153, 3) := by decide +kernel
theorem dOL_line_89 : decode cOL_line 89 = .ok (.iload_n 1, 1) := by decide +kernel
theorem dOL_line_90 : decode cOL_line 90 = .ok (.iaload, 1) := by decide +kernel
theorem dOL_line_91 : decode cOL_line 91 = .ok (.ireturn, 1) := by decide +kernel
theorem dOL_line_92 : decode cOL_line 92 = .ok (.aload_n 0, 1) := by decide +kernel
theorem dOL_line_93 : decode cOL_line 93 = .ok (.getfield 48, 3) := by decide +kernel
theorem dOL_line_96 : decode cOL_line 96 = .ok (.getfield 156, 3) := by decide +kernel
theorem dOL_line_99 : decode cOL_line 99 = .ok (.ireturn, 1) := by decide +kernel
theorem dOL_line_100 : decode cOL_line 100 = .ok (.iload_n 3, 1) := by decide +kernel
theorem dOL_line_101 : decode cOL_line 101 = .ok (.ireturn, 1) := by decide +kernel
theorem dOL_line_102 : decode cOL_line 102 = .ok (.aload_n 0, 1) := by decide +kernel
theorem dOL_line_103 : decode cOL_line 103 = .ok (.getfield 48, 3) := by decide +kernel
theorem dOL_line_106 : decode cOL_line 106 = .ok (.iload_n 3, 1) := by decide +kernel
theorem dOL_line_107 : decode cOL_line 107 = .ok (.invokevirtual 159, 3) := by decide +kernel
theorem dOL_line_110 : decode cOL_line 110 = .ok (.ireturn, 1) := by decide +kernel
theorem dOL_over_0 : decode cOL_over 0 = .ok (.aload_n 0, 1) := by decide +kernel
theorem dOL_over_1 : decode cOL_over 1 = .ok (.invokevirtual 127, 3) := by decide +kernel
theorem dOL_over_4 : decode cOL_over 4 = .ok (.iconst 0, 1) := by decide +kernel
theorem dOL_over_5 : decode cOL_over 5 = .ok (.istore_n 1, 1) := by decide +kernel
theorem dOL_over_6 : decode cOL_over 6 = .ok (.iconst 0, 1) := by decide +kernel
theorem dOL_over_7 : decode cOL_over 7 = .ok (.istore_n 2, 1) := by decide +kernel
theorem dOL_over_8 : decode cOL_over 8 = .ok (.iload_n 2, 1) := by decide +kernel
theorem dOL_over_9 : decode cOL_over 9 = .ok (.aload_n 0, 1) := by decide +kernel
theorem dOL_over_10 : decode cOL_over 10 = .ok (.getfield 64, 3) := by decide +kernel
theorem dOL_over_13 : decode cOL_over 13 = .ok (.getfield 124, 3) := by decide +kernel
theorem dOL_over_16 : decode cOL_over 16 = .ok (.if_icmp .ge 27, 3) := by decide +kernel
theorem dOL_over_19 : decode cOL_over 19 = .ok (.aload_n 0, 1) := by decide +kernel
theorem dOL_over_20 : decode cOL_over 20 = .ok (.iload_n 2, 1) := by decide +kernel
theorem dOL_over_21 : decode cOL_over 21 = .ok (.invokevirtual 141, 3) := by decide +kernel
theorem dOL_over_24 : decode cOL_over 24 = .ok (.aload_n 0, 1) := by decide +kernel
theorem dOL_over_25 : decode cOL_over 25 = .ok (.getfield 48, 3) := by decide +kernel
theorem dOL_over_28 : decode cOL_over 28 = .ok (.invokevirtual 162, 3) := by decide +kernel
theorem dOL_over_31 : decode cOL_over 31 = .ok (.ifCond .eq 6, 3) := by decide +kernel
theorem dOL_over_34 : decode cOL_over 34 = .ok (.iinc 1 1, 3) := by decide +kernel
theorem dOL_over_37 : decode cOL_over 37 = .ok (.iinc 2 1, 3) := by decide +kernel
theorem dOL_over_40 : decode cOL_over 40 = .ok (.goto (-32), 3) := by decide +kernel
theorem dOL_over_43 : decode cOL_over 43 = .ok (.iload_n 1, 1) := by decide +kernel
theorem dOL_over_44 : decode cOL_over 44 = .ok (.ireturn, 1) := by decide +kernel
theorem dOL_lineOf_0 : decode cOL_lineOf 0 = .ok (.aload_n 0, 1) := by decide +kernel
theorem dOL_lineOf_1 : decode cOL_lineOf 1 = .ok (.invokevirtual 127, 3) := by decide +kernel
theorem dOL_lineOf_4 : decode cOL_lineOf 4 = .ok (.iload_n 1, 1) := by decide +kernel
theorem dOL_lineOf_5 : decode cOL_lineOf 5 = .ok (.aload_n 0, 1) := by decide +kernel
theorem dOL_lineOf_6 : decode cOL_lineOf 6 = .ok (.getfield 10, 3) := by decide +kernel
theorem dOL_lineOf_9 : decode cOL_lineOf 9 = .ok (.getfield 106, 3) := by decide +kernel
theorem dOL_lineOf_12 : decode cOL_lineOf 12 = .ok (.invokestatic 137, 3) := by decide +kernel
theorem dOL_lineOf_15 : decode cOL_lineOf 15 = .ok (.aload_n 0, 1) := by decide +kernel
theorem dOL_lineOf_16 : decode cOL_lineOf 16 = .ok (.getfield 64, 3) := by decide +kernel
theorem dOL_lineOf_19 : decode cOL_lineOf 19 = .ok (.iload_n 1, 1) := by decide +kernel
theorem dOL_lineOf_20 : decode cOL_lineOf 20 = .ok (.invokevirtual 166, 3) := by decide +kernel
theorem dOL_lineOf_23 : decode cOL_lineOf 23 = .ok (.ireturn, 1) := by decide +kernel
theorem dOL_place_0 : decode cOL_place 0 = .ok (.aload_n 0, 1) := by decide +kernel
theorem dOL_place_1 : decode cOL_place 1 = .ok (.invokevirtual 127, 3) := by decide +kernel
theorem dOL_place_4 : decode cOL_place 4 = .ok (.iload_n 1, 1) := by decide +kernel
theorem dOL_place_5 : decode cOL_place 5 = .ok (.aload_n 0, 1) := by decide +kernel
theorem dOL_place_6 : decode cOL_place 6 = .ok (.getfield 10, 3) := by decide +kernel
theorem dOL_place_9 : decode cOL_place 9 = .ok (.getfield 106, 3) := by decide +kernel
theorem dOL_place_12 : decode cOL_place 12 = .ok (.invokestatic 137, 3) := by decide +kernel
theorem dOL_place_15 : decode cOL_place 15 = .ok (.aload_n 0, 1) := by decide +kernel
theorem dOL_place_16 : decode cOL_place 16 = .ok (.getfield 64, 3) := by decide +kernel
theorem dOL_place_19 : decode cOL_place 19 = .ok (.iload_n 1, 1) := by decide +kernel
theorem dOL_place_20 : decode cOL_place 20 = .ok (.invokevirtual 166, 3) := by decide +kernel
theorem dOL_place_23 : decode cOL_place 23 = .ok (.istore_n 2, 1) := by decide +kernel
theorem dOL_place_24 : decode cOL_place 24 = .ok (.iload_n 2, 1) := by decide +kernel
theorem dOL_place_25 : decode cOL_place 25 = .ok (.iconst (-1), 1) := by decide +kernel
theorem dOL_place_26 : decode cOL_place 26 = .ok (.if_icmp .ne 5, 3) := by decide +kernel
theorem dOL_place_29 : decode cOL_place 29 = .ok (.iconst (-1), 1) := by decide +kernel
theorem dOL_place_30 : decode cOL_place 30 = .ok (.ireturn, 1) := by decide +kernel
theorem dOL_place_31 : decode cOL_place 31 = .ok (.aload_n 0, 1) := by decide +kernel
theorem dOL_place_32 : decode cOL_place 32 = .ok (.iload_n 2, 1) := by decide +kernel
theorem dOL_place_33 : decode cOL_place 33 = .ok (.invokevirtual 141, 3) := by decide +kernel
theorem dOL_place_36 : decode cOL_place 36 = .ok (.aload_n 0, 1) := by decide +kernel
theorem dOL_place_37 : decode cOL_place 37 = .ok (.getfield 48, 3) := by decide +kernel
theorem dOL_place_40 : decode cOL_place 40 = .ok (.iload_n 1, 1) := by decide +kernel
theorem dOL_place_41 : decode cOL_place 41 = .ok (.invokevirtual 169, 3) := by decide +kernel
theorem dOL_place_44 : decode cOL_place 44 = .ok (.ireturn, 1) := by decide +kernel
theorem dOL_requireWithin_0 : decode cOL_requireWithin 0 = .ok (.iload_n 0, 1) := by decide +kernel
theorem dOL_requireWithin_1 : decode cOL_requireWithin 1 = .ok (.iload_n 1, 1) := by decide +kernel
theorem dOL_requireWithin_2 : decode cOL_requireWithin 2 = .ok (.if_icmp .lt 8, 3) := by decide +kernel
theorem dOL_requireWithin_5 : decode cOL_requireWithin 5 = .ok (.iload_n 0, 1) := by decide +kernel
theorem dOL_requireWithin_6 : decode cOL_requireWithin 6 = .ok (.iload_n 2, 1) := by decide +kernel
theorem dOL_requireWithin_7 : decode cOL_requireWithin 7 = .ok (.if_icmp .le 13, 3) := by decide +kernel
theorem dOL_requireWithin_10 : decode cOL_requireWithin 10 = .ok (.new 172, 3) := by decide +kernel
theorem dOL_requireWithin_13 : decode cOL_requireWithin 13 = .ok (.dup, 1) := by decide +kernel
theorem dOL_requireWithin_14 : decode cOL_requireWithin 14 = .ok (.ldc 174, 2) := by decide +kernel
theorem dOL_requireWithin_16 : decode cOL_requireWithin 16 = .ok (.invokespecial 176, 3) := by decide +kernel
theorem dOL_requireWithin_19 : decode cOL_requireWithin 19 = .ok (.athrow, 1) := by decide +kernel
theorem dOL_requireWithin_20 : decode cOL_requireWithin 20 = .ok (.return_, 1) := by decide +kernel
theorem dOL_requireSize_0 : decode cOL_requireSize 0 = .ok (.iload_n 0, 1) := by decide +kernel
theorem dOL_requireSize_1 : decode cOL_requireSize 1 = .ok (.iconst 0, 1) := by decide +kernel
theorem dOL_requireSize_2 : decode cOL_requireSize 2 = .ok (.ldc 177, 2) := by decide +kernel
theorem dOL_requireSize_4 : decode cOL_requireSize 4 = .ok (.invokestatic 83, 3) := by decide +kernel
theorem dOL_requireSize_7 : decode cOL_requireSize 7 = .ok (.return_, 1) := by decide +kernel
theorem dOL_requireIndex_0 : decode cOL_requireIndex 0 = .ok (.iload_n 0, 1) := by decide +kernel
theorem dOL_requireIndex_1 : decode cOL_requireIndex 1 = .ok (.ifCond .lt 8, 3) := by decide +kernel
theorem dOL_requireIndex_4 : decode cOL_requireIndex 4 = .ok (.iload_n 0, 1) := by decide +kernel
theorem dOL_requireIndex_5 : decode cOL_requireIndex 5 = .ok (.iload_n 1, 1) := by decide +kernel
theorem dOL_requireIndex_6 : decode cOL_requireIndex 6 = .ok (.if_icmp .lt 13, 3) := by decide +kernel
theorem dOL_requireIndex_9 : decode cOL_requireIndex 9 = .ok (.new 178, 3) := by decide +kernel
theorem dOL_requireIndex_12 : decode cOL_requireIndex 12 = .ok (.dup, 1) := by decide +kernel
theorem dOL_requireIndex_13 : decode cOL_requireIndex 13 = .ok (.ldc 180, 2) := by decide +kernel
theorem dOL_requireIndex_15 : decode cOL_requireIndex 15 = .ok (.invokespecial 182, 3) := by decide +kernel
theorem dOL_requireIndex_18 : decode cOL_requireIndex 18 = .ok (.athrow, 1) := by decide +kernel
theorem dOL_requireIndex_19 : decode cOL_requireIndex 19 = .ok (.return_, 1) := by decide +kernel
theorem dOL_requireRoom_0 : decode cOL_requireRoom 0 = .ok (.aload_n 0, 1) := by decide +kernel
theorem dOL_requireRoom_1 : decode cOL_requireRoom 1 = .ok (.getfield 10, 3) := by decide +kernel
theorem dOL_requireRoom_4 : decode cOL_requireRoom 4 = .ok (.getfield 106, 3) := by decide +kernel
theorem dOL_requireRoom_7 : decode cOL_requireRoom 7 = .ok (.sipush 400, 3) := by decide +kernel
theorem dOL_requireRoom_10 : decode cOL_requireRoom 10 = .ok (.if_icmp .lt 13, 3) := by decide +kernel
theorem dOL_requireRoom_13 : decode cOL_requireRoom 13 = .ok (.new 110, 3) := by decide +kernel
theorem dOL_requireRoom_16 : decode cOL_requireRoom 16 = .ok (.dup, 1) := by decide +kernel
theorem dOL_requireRoom_17 : decode cOL_requireRoom 17 = .ok (.ldc 183, 2) := by decide +kernel
theorem dOL_requireRoom_19 : decode cOL_requireRoom 19 = .ok (.invokespecial 114, 3) := by decide +kernel
theorem dOL_requireRoom_22 : decode cOL_requireRoom 22 = .ok (.athrow, 1) := by decide +kernel
theorem dOL_requireRoom_23 : decode cOL_requireRoom 23 = .ok (.return_, 1) := by decide +kernel
theorem dOL_requireLines_0 : decode cOL_requireLines 0 = .ok (.aload_n 0, 1) := by decide +kernel
theorem dOL_requireLines_1 : decode cOL_requireLines 1 = .ok (.getfield 64, 3) := by decide +kernel
theorem dOL_requireLines_4 : decode cOL_requireLines 4 = .ok (.getfield 75, 3) := by decide +kernel
theorem dOL_requireLines_7 : decode cOL_requireLines 7 = .ok (.ifCond .ne 13, 3) := by decide +kernel
theorem dOL_requireLines_10 : decode cOL_requireLines 10 = .ok (.new 110, 3) := by decide +kernel
theorem dOL_requireLines_13 : decode cOL_requireLines 13 = .ok (.dup, 1) := by decide +kernel
theorem dOL_requireLines_14 : decode cOL_requireLines 14 = .ok (.ldc 185, 2) := by decide +kernel
theorem dOL_requireLines_16 : decode cOL_requireLines 16 = .ok (.invokespecial 114, 3) := by decide +kernel
theorem dOL_requireLines_19 : decode cOL_requireLines 19 = .ok (.athrow, 1) := by decide +kernel
theorem dOL_requireLines_20 : decode cOL_requireLines 20 = .ok (.return_, 1) := by decide +kernel
theorem dOL_widthOfLine_0 : decode cOL_widthOfLine 0 = .ok (.aload_n 0, 1) := by decide +kernel
theorem dOL_widthOfLine_1 : decode cOL_widthOfLine 1 = .ok (.iload_n 1, 1) := by decide +kernel
theorem dOL_widthOfLine_2 : decode cOL_widthOfLine 2 = .ok (.bipush 40, 2) := by decide +kernel
theorem dOL_widthOfLine_4 : decode cOL_widthOfLine 4 = .ok (.invokestatic 187, 3) := by decide +kernel
theorem dOL_widthOfLine_7 : decode cOL_widthOfLine 7 = .ok (.iaload, 1) := by decide +kernel
theorem dOL_widthOfLine_8 : decode cOL_widthOfLine 8 = .ok (.ireturn, 1) := by decide +kernel
theorem dOL_measureLine_0 : decode cOL_measureLine 0 = .ok (.aload_n 0, 1) := by decide +kernel
theorem dOL_measureLine_1 : decode cOL_measureLine 1 = .ok (.getfield 48, 3) := by decide +kernel
theorem dOL_measureLine_4 : decode cOL_measureLine 4 = .ok (.aload_n 0, 1) := by decide +kernel
theorem dOL_measureLine_5 : decode cOL_measureLine 5 = .ok (.getfield 64, 3) := by decide +kernel
theorem dOL_measureLine_8 : decode cOL_measureLine 8 = .ok (.getfield 150, 3) := by decide +kernel
theorem dOL_measureLine_11 : decode cOL_measureLine 11 = .ok (.iload_n 1, 1) := by decide +kernel
theorem dOL_measureLine_12 : decode cOL_measureLine 12 = .ok (.iaload, 1) := by decide +kernel
theorem dOL_measureLine_13 : decode cOL_measureLine 13 = .ok (.aload_n 0, 1) := by decide +kernel
theorem dOL_measureLine_14 : decode cOL_measureLine 14 = .ok (.getfield 64, 3) := by decide +kernel
theorem dOL_measureLine_17 : decode cOL_measureLine 17 = .ok (.getfield 153, 3) := by decide +kernel
theorem dOL_measureLine_20 : decode cOL_measureLine 20 = .ok (.iload_n 1, 1) := by decide +kernel
theorem dOL_measureLine_21 : decode cOL_measureLine 21 = .ok (.iaload, 1) := by decide +kernel
theorem dOL_measureLine_22 : decode cOL_measureLine 22 = .ok (.aload_n 0, 1) := by decide +kernel
theorem dOL_measureLine_23 : decode cOL_measureLine 23 = .ok (.getfield 16, 3) := by decide +kernel
theorem dOL_measureLine_26 : decode cOL_measureLine 26 = .ok (.iload_n 1, 1) := by decide +kernel
theorem dOL_measureLine_27 : decode cOL_measureLine 27 = .ok (.invokestatic 193, 3) := by decide +kernel
theorem dOL_measureLine_30 : decode cOL_measureLine 30 = .ok (.invokevirtual 197, 3) := by decide +kernel
theorem dOL_measureLine_33 : decode cOL_measureLine 33 = .ok (.return_, 1) := by decide +kernel
theorem dOL_passIsTaken_0 : decode cOL_passIsTaken 0 = .ok (.iload_n 1, 1) := by decide +kernel
theorem dOL_passIsTaken_1 : decode cOL_passIsTaken 1 = .ok (.iconst 3, 1) := by decide +kernel
theorem dOL_passIsTaken_2 : decode cOL_passIsTaken 2 = .ok (.if_icmp .ne 13, 3) := by decide +kernel
theorem dOL_passIsTaken_5 : decode cOL_passIsTaken 5 = .ok (.aload_n 0, 1) := by decide +kernel
theorem dOL_passIsTaken_6 : decode cOL_passIsTaken 6 = .ok (.getfield 33, 3) := by decide +kernel
theorem dOL_passIsTaken_9 : decode cOL_passIsTaken 9 = .ok (.bipush 6, 2) := by decide +kernel
theorem dOL_passIsTaken_11 : decode cOL_passIsTaken 11 = .ok (.iaload, 1) := by decide +kernel
theorem dOL_passIsTaken_12 : decode cOL_passIsTaken 12 = .ok (.goto 4, 3) := by decide +kernel
theorem dOL_passIsTaken_15 : decode cOL_passIsTaken 15 = .ok (.iconst 0, 1) := by decide +kernel
theorem dOL_passIsTaken_16 : decode cOL_passIsTaken 16 = .ok (.istore_n 2, 1) := by decide +kernel
theorem dOL_passIsTaken_17 : decode cOL_passIsTaken 17 = .ok (.iload_n 1, 1) := by decide +kernel
theorem dOL_passIsTaken_18 : decode cOL_passIsTaken 18 = .ok (.iconst 3, 1) := by decide +kernel
theorem dOL_passIsTaken_19 : decode cOL_passIsTaken 19 = .ok (.if_icmp .ne 9, 3) := by decide +kernel
theorem dOL_passIsTaken_22 : decode cOL_passIsTaken 22 = .ok (.iload_n 2, 1) := by decide +kernel
theorem dOL_passIsTaken_23 : decode cOL_passIsTaken 23 = .ok (.ifCond .ne 5, 3) := by decide +kernel
theorem dOL_passIsTaken_26 : decode cOL_passIsTaken 26 = .ok (.iconst 0, 1) := by decide +kernel
theorem dOL_passIsTaken_27 : decode cOL_passIsTaken 27 = .ok (.ireturn, 1) := by decide +kernel
theorem dOL_passIsTaken_28 : decode cOL_passIsTaken 28 = .ok (.aload_n 0, 1) := by decide +kernel
theorem dOL_passIsTaken_29 : decode cOL_passIsTaken 29 = .ok (.getfield 41, 3) := by decide +kernel
theorem dOL_passIsTaken_32 : decode cOL_passIsTaken 32 = .ok (.iload_n 1, 1) := by decide +kernel
theorem dOL_passIsTaken_33 : decode cOL_passIsTaken 33 = .ok (.iconst 1, 1) := by decide +kernel
theorem dOL_passIsTaken_34 : decode cOL_passIsTaken 34 = .ok (.if_icmp .le 7, 3) := by decide +kernel
theorem dOL_passIsTaken_37 : decode cOL_passIsTaken 37 = .ok (.iconst 1, 1) := by decide +kernel
theorem dOL_passIsTaken_38 : decode cOL_passIsTaken 38 = .ok (.goto 4, 3) := by decide +kernel
theorem dOL_passIsTaken_41 : decode cOL_passIsTaken 41 = .ok (.iconst 0, 1) := by decide +kernel
theorem dOL_passIsTaken_42 : decode cOL_passIsTaken 42 = .ok (.invokevirtual 200, 3) := by decide +kernel
theorem dOL_passIsTaken_45 : decode cOL_passIsTaken 45 = .ok (.aload_n 0, 1) := by decide +kernel
theorem dOL_passIsTaken_46 : decode cOL_passIsTaken 46 = .ok (.getfield 57, 3) := by decide +kernel
theorem dOL_passIsTaken_49 : decode cOL_passIsTaken 49 = .ok (.aload_n 0, 1) := by decide +kernel
theorem dOL_passIsTaken_50 : decode cOL_passIsTaken 50 = .ok (.getfield 33, 3) := by decide +kernel
theorem dOL_passIsTaken_53 : decode cOL_passIsTaken 53 = .ok (.iload_n 1, 1) := by decide +kernel
theorem dOL_passIsTaken_54 : decode cOL_passIsTaken 54 = .ok (.iconst 1, 1) := by decide +kernel
theorem dOL_passIsTaken_55 : decode cOL_passIsTaken 55 = .ok (.if_icmp .ne 7, 3) := by decide +kernel
theorem dOL_passIsTaken_58 : decode cOL_passIsTaken 58 = .ok (.iconst 4, 1) := by decide +kernel
theorem dOL_passIsTaken_59 : decode cOL_passIsTaken 59 = .ok (.goto 4, 3) := by decide +kernel
theorem dOL_passIsTaken_62 : decode cOL_passIsTaken 62 = .ok (.iconst 5, 1) := by decide +kernel
theorem dOL_passIsTaken_63 : decode cOL_passIsTaken 63 = .ok (.iaload, 1) := by decide +kernel
theorem dOL_passIsTaken_64 : decode cOL_passIsTaken 64 = .ok (.iload_n 2, 1) := by decide +kernel
theorem dOL_passIsTaken_65 : decode cOL_passIsTaken 65 = .ok (.invokevirtual 204, 3) := by decide +kernel
theorem dOL_passIsTaken_68 : decode cOL_passIsTaken 68 = .ok (.aload_n 0, 1) := by decide +kernel
theorem dOL_passIsTaken_69 : decode cOL_passIsTaken 69 = .ok (.getfield 57, 3) := by decide +kernel
theorem dOL_passIsTaken_72 : decode cOL_passIsTaken 72 = .ok (.aload_n 0, 1) := by decide +kernel
theorem dOL_passIsTaken_73 : decode cOL_passIsTaken 73 = .ok (.getfield 33, 3) := by decide +kernel
theorem dOL_passIsTaken_76 : decode cOL_passIsTaken 76 = .ok (.bipush 7, 2) := by decide +kernel
theorem dOL_passIsTaken_78 : decode cOL_passIsTaken 78 = .ok (.iaload, 1) := by decide +kernel
theorem dOL_passIsTaken_79 : decode cOL_passIsTaken 79 = .ok (.invokevirtual 207, 3) := by decide +kernel
theorem dOL_passIsTaken_82 : decode cOL_passIsTaken 82 = .ok (.istore_n 3, 1) := by decide +kernel
theorem dOL_passIsTaken_83 : decode cOL_passIsTaken 83 = .ok (.iload_n 3, 1) := by decide +kernel
theorem dOL_passIsTaken_84 : decode cOL_passIsTaken 84 = .ok (.ifCond .ne 5, 3) := by decide +kernel
theorem dOL_passIsTaken_87 : decode cOL_passIsTaken 87 = .ok (.iconst 0, 1) := by decide +kernel
theorem dOL_passIsTaken_88 : decode cOL_passIsTaken 88 = .ok (.ireturn, 1) := by decide +kernel
theorem dOL_passIsTaken_89 : decode cOL_passIsTaken 89 = .ok (.aload_n 0, 1) := by decide +kernel
theorem dOL_passIsTaken_90 : decode cOL_passIsTaken 90 = .ok (.getfield 57, 3) := by decide +kernel
theorem dOL_passIsTaken_93 : decode cOL_passIsTaken 93 = .ok (.iload_n 3, 1) := by decide +kernel
theorem dOL_passIsTaken_94 : decode cOL_passIsTaken 94 = .ok (.aload_n 0, 1) := by decide +kernel
theorem dOL_passIsTaken_95 : decode cOL_passIsTaken 95 = .ok (.getfield 64, 3) := by decide +kernel
theorem dOL_passIsTaken_98 : decode cOL_passIsTaken 98 = .ok (.invokevirtual 210, 3) := by decide +kernel
theorem dOL_passIsTaken_101 : decode cOL_passIsTaken 101 = .ok (.aload_n 0, 1) := by decide +kernel
theorem dOL_passIsTaken_102 : decode cOL_passIsTaken 102 = .ok (.getfield 64, 3) := by decide +kernel
theorem dOL_passIsTaken_105 : decode cOL_passIsTaken 105 = .ok (.iload_n 1, 1) := by decide +kernel
theorem dOL_passIsTaken_106 : decode cOL_passIsTaken 106 = .ok (.putfield 130, 3) := by decide +kernel
theorem dOL_passIsTaken_109 : decode cOL_passIsTaken 109 = .ok (.aload_n 0, 1) := by decide +kernel
theorem dOL_passIsTaken_110 : decode cOL_passIsTaken 110 = .ok (.getfield 64, 3) := by decide +kernel
theorem dOL_passIsTaken_113 : decode cOL_passIsTaken 113 = .ok (.iload_n 2, 1) := by decide +kernel
theorem dOL_passIsTaken_114 : decode cOL_passIsTaken 114 = .ok (.putfield 144, 3) := by decide +kernel
theorem dOL_passIsTaken_117 : decode cOL_passIsTaken 117 = .ok (.iconst 1, 1) := by decide +kernel
theorem dOL_passIsTaken_118 : decode cOL_passIsTaken 118 = .ok (.ireturn, 1) := by decide +kernel
theorem dOL_breakInEmergency_0 : decode cOL_breakInEmergency 0 = .ok (.aload_n 0, 1) := by decide +kernel
theorem dOL_breakInEmergency_1 : decode cOL_breakInEmergency 1 = .ok (.getfield 41, 3) := by decide +kernel
theorem dOL_breakInEmergency_4 : decode cOL_breakInEmergency 4 = .ok (.iconst 1, 1) := by decide +kernel
theorem dOL_breakInEmergency_5 : decode cOL_breakInEmergency 5 = .ok (.invokevirtual 200, 3) := by decide +kernel
theorem dOL_breakInEmergency_8 : decode cOL_breakInEmergency 8 = .ok (.aload_n 0, 1) := by decide +kernel
theorem dOL_breakInEmergency_9 : decode cOL_breakInEmergency 9 = .ok (.getfield 64, 3) := by decide +kernel
theorem dOL_breakInEmergency_12 : decode cOL_breakInEmergency 12 = .ok (.iconst 0, 1) := by decide +kernel
theorem dOL_breakInEmergency_13 : decode cOL_breakInEmergency 13 = .ok (.putfield 124, 3) := by decide +kernel
theorem dOL_breakInEmergency_16 : decode cOL_breakInEmergency 16 = .ok (.aload_n 0, 1) := by decide +kernel
theorem dOL_breakInEmergency_17 : decode cOL_breakInEmergency 17 = .ok (.getfield 64, 3) := by decide +kernel
theorem dOL_breakInEmergency_20 : decode cOL_breakInEmergency 20 = .ok (.iconst 4, 1) := by decide +kernel
theorem dOL_breakInEmergency_21 : decode cOL_breakInEmergency 21 = .ok (.putfield 130, 3) := by decide +kernel
theorem dOL_breakInEmergency_24 : decode cOL_breakInEmergency 24 = .ok (.aload_n 0, 1) := by decide +kernel
theorem dOL_breakInEmergency_25 : decode cOL_breakInEmergency 25 = .ok (.getfield 64, 3) := by decide +kernel
theorem dOL_breakInEmergency_28 : decode cOL_breakInEmergency 28 = .ok (.lconst 0, 1) := by decide +kernel
theorem dOL_breakInEmergency_29 : decode cOL_breakInEmergency 29 = .ok (.putfield 133, 3) := by decide +kernel
theorem dOL_breakInEmergency_32 : decode cOL_breakInEmergency 32 = .ok (.aload_n 0, 1) := by decide +kernel
theorem dOL_breakInEmergency_33 : decode cOL_breakInEmergency 33 = .ok (.getfield 64, 3) := by decide +kernel
theorem dOL_breakInEmergency_36 : decode cOL_breakInEmergency 36 = .ok (.iconst 0, 1) := by decide +kernel
theorem dOL_breakInEmergency_37 : decode cOL_breakInEmergency 37 = .ok (.putfield 144, 3) := by decide +kernel
theorem dOL_breakInEmergency_40 : decode cOL_breakInEmergency 40 = .ok (.iconst 0, 1) := by decide +kernel
theorem dOL_breakInEmergency_41 : decode cOL_breakInEmergency 41 = .ok (.istore_n 1, 1) := by decide +kernel
theorem dOL_breakInEmergency_42 : decode cOL_breakInEmergency 42 = .ok (.iconst 0, 1) := by decide +kernel
theorem dOL_breakInEmergency_43 : decode cOL_breakInEmergency 43 = .ok (.istore_n 2, 1) := by decide +kernel
theorem dOL_breakInEmergency_44 : decode cOL_breakInEmergency 44 = .ok (.iload_n 2, 1) := by decide +kernel
theorem dOL_breakInEmergency_45 : decode cOL_breakInEmergency 45 = .ok (.sipush 400, 3) := by decide +kernel
theorem dOL_breakInEmergency_48 : decode cOL_breakInEmergency 48 = .ok (.if_icmp .gt 75, 3) := by decide +kernel
theorem dOL_breakInEmergency_51 : decode cOL_breakInEmergency 51 = .ok (.iload_n 1, 1) := by decide +kernel
theorem dOL_breakInEmergency_52 : decode cOL_breakInEmergency 52 = .ok (.aload_n 0, 1) := by decide +kernel
theorem dOL_breakInEmergency_53 : decode cOL_breakInEmergency 53 = .ok (.getfield 41, 3) := by decide +kernel
theorem dOL_breakInEmergency_56 : decode cOL_breakInEmergency 56 = .ok (.getfield 214, 3) := by decide +kernel
theorem dOL_breakInEmergency_59 : decode cOL_breakInEmergency 59 = .ok (.if_icmp .ge 64, 3) := by decide +kernel
theorem dOL_breakInEmergency_62 : decode cOL_breakInEmergency 62 = .ok (.aload_n 0, 1) := by decide +kernel
theorem dOL_breakInEmergency_63 : decode cOL_breakInEmergency 63 = .ok (.iload_n 1, 1) := by decide +kernel
theorem dOL_breakInEmergency_64 : decode cOL_breakInEmergency 64 = .ok (.iload_n 2, 1) := by decide +kernel
theorem dOL_breakInEmergency_65 : decode cOL_breakInEmergency 65 = .ok (.invokevirtual 217, 3) := by decide +kernel
theorem dOL_breakInEmergency_68 : decode cOL_breakInEmergency 68 = .ok (.istore_n 3, 1) := by decide +kernel
theorem dOL_breakInEmergency_69 : decode cOL_breakInEmergency 69 = .ok (.aload_n 0, 1) := by decide +kernel
theorem dOL_breakInEmergency_70 : decode cOL_breakInEmergency 70 = .ok (.getfield 64, 3) := by decide +kernel
theorem dOL_breakInEmergency_73 : decode cOL_breakInEmergency 73 = .ok (.getfield 150, 3) := by decide +kernel
theorem dOL_breakInEmergency_76 : decode cOL_breakInEmergency 76 = .ok (.iload_n 2, 1) := by decide +kernel
theorem dOL_breakInEmergency_77 : decode cOL_breakInEmergency 77 = .ok (.aload_n 0, 1) := by decide +kernel
theorem dOL_breakInEmergency_78 : decode cOL_breakInEmergency 78 = .ok (.getfield 41, 3) := by decide +kernel
theorem dOL_breakInEmergency_81 : decode cOL_breakInEmergency 81 = .ok (.iload_n 1, 1) := by decide +kernel
theorem dOL_breakInEmergency_82 : decode cOL_breakInEmergency 82 = .ok (.iload_n 3, 1) := by decide +kernel
theorem dOL_breakInEmergency_83 : decode cOL_breakInEmergency 83 = .ok (.invokevirtual 220, 3) := by decide +kernel
theorem dOL_breakInEmergency_86 : decode cOL_breakInEmergency 86 = .ok (.iastore, 1) := by decide +kernel
theorem dOL_breakInEmergency_87 : decode cOL_breakInEmergency 87 = .ok (.aload_n 0, 1) := by decide +kernel
theorem dOL_breakInEmergency_88 : decode cOL_breakInEmergency 88 = .ok (.getfield 64, 3) := by decide +kernel
theorem dOL_breakInEmergency_91 : decode cOL_breakInEmergency 91 = .ok (.getfield 153, 3) := by decide +kernel
theorem dOL_breakInEmergency_94 : decode cOL_breakInEmergency 94 = .ok (.iload_n 2, 1) := by decide +kernel
theorem dOL_breakInEmergency_95 : decode cOL_breakInEmergency 95 = .ok (.aload_n 0, 1) := by decide +kernel
theorem dOL_breakInEmergency_96 : decode cOL_breakInEmergency 96 = .ok (.getfield 41, 3) := by decide +kernel
theorem dOL_breakInEmergency_99 : decode cOL_breakInEmergency 99 = .ok (.getfield 223, 3) := by decide +kernel
theorem dOL_breakInEmergency_102 : decode cOL_breakInEmergency 102 = .ok (.iload_n 3, 1) := by decide +kernel
theorem dOL_breakInEmergency_103 : decode cOL_breakInEmergency 103 = .ok (.iaload, 1) := by decide +kernel
theorem dOL_breakInEmergency_104 : decode cOL_breakInEmergency 104 = .ok (.iastore, 1) := by decide +kernel
theorem dOL_breakInEmergency_105 : decode cOL_breakInEmergency 105 = .ok (.aload_n 0, 1) := by decide +kernel
theorem dOL_breakInEmergency_106 : decode cOL_breakInEmergency 106 = .ok (.getfield 64, 3) := by decide +kernel
theorem dOL_breakInEmergency_109 : decode cOL_breakInEmergency 109 = .ok (.iload_n 2, 1) := by decide +kernel
theorem dOL_breakInEmergency_110 : decode cOL_breakInEmergency 110 = .ok (.iconst 1, 1) := by decide +kernel
theorem dOL_breakInEmergency_111 : decode cOL_breakInEmergency 111 = .ok (.iadd, 1) := by decide +kernel
theorem dOL_breakInEmergency_112 : decode cOL_breakInEmergency 112 = .ok (.putfield 124, 3) := by decide +kernel
theorem dOL_breakInEmergency_115 : decode cOL_breakInEmergency 115 = .ok (.iload_n 3, 1) := by decide +kernel
theorem dOL_breakInEmergency_116 : decode cOL_breakInEmergency 116 = .ok (.istore_n 1, 1) := by decide +kernel
theorem dOL_breakInEmergency_117 : decode cOL_breakInEmergency 117 = .ok (.iinc 2 1, 3) := by decide +kernel
theorem dOL_breakInEmergency_120 : decode cOL_breakInEmergency 120 = .ok (.goto (-76), 3) := by decide +kernel
theorem dOL_breakInEmergency_123 : decode cOL_breakInEmergency 123 = .ok (.return_, 1) := by decide +kernel
theorem dOL_emergencyBreak_0 : decode cOL_emergencyBreak 0 = .ok (.iload_n 1, 1) := by decide +kernel
theorem dOL_emergencyBreak_1 : decode cOL_emergencyBreak 1 = .ok (.iconst 1, 1) := by decide +kernel
theorem dOL_emergencyBreak_2 : decode cOL_emergencyBreak 2 = .ok (.iadd, 1) := by decide +kernel
theorem dOL_emergencyBreak_3 : decode cOL_emergencyBreak 3 = .ok (.istore_n 3, 1) := by decide +kernel
theorem dOL_emergencyBreak_4 : decode cOL_emergencyBreak 4 = .ok (.iload_n 1, 1) := by decide +kernel
theorem dOL_emergencyBreak_5 : decode cOL_emergencyBreak 5 = .ok (.iconst 1, 1) := by decide +kernel
theorem dOL_emergencyBreak_6 : decode cOL_emergencyBreak 6 = .ok (.iadd, 1) := by decide +kernel
theorem dOL_emergencyBreak_7 : decode cOL_emergencyBreak 7 = .ok (.istore 4, 2) := by decide +kernel
theorem dOL_emergencyBreak_9 : decode cOL_emergencyBreak 9 = .ok (.iload 4, 2) := by decide +kernel
theorem dOL_emergencyBreak_11 : decode cOL_emergencyBreak 11 = .ok (.aload_n 0, 1) := by decide +kernel
theorem dOL_emergencyBreak_12 : decode cOL_emergencyBreak 12 = .ok (.getfield 41, 3) := by decide +kernel
theorem dOL_emergencyBreak_15 : decode cOL_emergencyBreak 15 = .ok (.getfield 226, 3) := by decide +kernel
theorem dOL_emergencyBreak_18 : decode cOL_emergencyBreak 18 = .ok (.iload_n 1, 1) := by decide +kernel
theorem dOL_emergencyBreak_19 : decode cOL_emergencyBreak 19 = .ok (.iaload, 1) := by decide +kernel
theorem dOL_emergencyBreak_20 : decode cOL_emergencyBreak 20 = .ok (.if_icmp .gt 57, 3) := by decide +kernel
theorem dOL_emergencyBreak_23 : decode cOL_emergencyBreak 23 = .ok (.aload_n 0, 1) := by decide +kernel
theorem dOL_emergencyBreak_24 : decode cOL_emergencyBreak 24 = .ok (.getfield 48, 3) := by decide +kernel
theorem dOL_emergencyBreak_27 : decode cOL_emergencyBreak 27 = .ok (.aload_n 0, 1) := by decide +kernel
theorem dOL_emergencyBreak_28 : decode cOL_emergencyBreak 28 = .ok (.getfield 41, 3) := by decide +kernel
theorem dOL_emergencyBreak_31 : decode cOL_emergencyBreak 31 = .ok (.iload_n 1, 1) := by decide +kernel
theorem dOL_emergencyBreak_32 : decode cOL_emergencyBreak 32 = .ok (.iload 4, 2) := by decide +kernel
theorem dOL_emergencyBreak_34 : decode cOL_emergencyBreak 34 = .ok (.invokevirtual 220, 3) := by decide +kernel
theorem dOL_emergencyBreak_37 : decode cOL_emergencyBreak 37 = .ok (.aload_n 0, 1) := by decide +kernel
theorem dOL_emergencyBreak_38 : decode cOL_emergencyBreak 38 = .ok (.getfield 41, 3) := by decide +kernel
theorem dOL_emergencyBreak_41 : decode cOL_emergencyBreak 41 = .ok (.getfield 223, 3) := by decide +kernel
theorem dOL_emergencyBreak_44 : decode cOL_emergencyBreak 44 = .ok (.iload 4, 2) := by decide +kernel
theorem dOL_emergencyBreak_46 : decode cOL_emergencyBreak 46 = .ok (.iaload, 1) := by decide +kernel
theorem dOL_emergencyBreak_47 : decode cOL_emergencyBreak 47 = .ok (.aload_n 0, 1) := by decide +kernel
theorem dOL_emergencyBreak_48 : decode cOL_emergencyBreak 48 = .ok (.getfield 16, 3) := by decide +kernel
theorem dOL_emergencyBreak_51 : decode cOL_emergencyBreak 51 = .ok (.iload_n 2, 1) := by decide +kernel
theorem dOL_emergencyBreak_52 : decode cOL_emergencyBreak 52 = .ok (.invokestatic 193, 3) := by decide +kernel
theorem dOL_emergencyBreak_55 : decode cOL_emergencyBreak 55 = .ok (.invokevirtual 197, 3) := by decide +kernel
theorem dOL_emergencyBreak_58 : decode cOL_emergencyBreak 58 = .ok (.aload_n 0, 1) := by decide +kernel
theorem dOL_emergencyBreak_59 : decode cOL_emergencyBreak 59 = .ok (.getfield 48, 3) := by decide +kernel
theorem dOL_emergencyBreak_62 : decode cOL_emergencyBreak 62 = .ok (.invokevirtual 162, 3) := by decide +kernel
theorem dOL_emergencyBreak_65 : decode cOL_emergencyBreak 65 = .ok (.ifCond .ne 6, 3) := by decide +kernel
theorem dOL_emergencyBreak_68 : decode cOL_emergencyBreak 68 = .ok (.iload 4, 2) := by decide +kernel
theorem dOL_emergencyBreak_70 : decode cOL_emergencyBreak 70 = .ok (.istore_n 3, 1) := by decide +kernel
theorem dOL_emergencyBreak_71 : decode cOL_emergencyBreak 71 = .ok (.iinc 4 1, 3) := by decide +kernel
theorem dOL_emergencyBreak_74 : decode cOL_emergencyBreak 74 = .ok (.goto (-65), 3) := by decide +kernel
theorem dOL_emergencyBreak_77 : decode cOL_emergencyBreak 77 = .ok (.iload_n 3, 1) := by decide +kernel
theorem dOL_emergencyBreak_78 : decode cOL_emergencyBreak 78 = .ok (.ireturn, 1) := by decide +kernel
