abbrev cItems_init : ByteArray := prog_3_method_1_code
abbrev yItems_init : MethodName := ⟨"OptimalLines$Items", "<init>", "()V"⟩
abbrev wsItems_init : List Cond := Cond.code yItems_init cItems_init 1 none :: om_W
abbrev cItems_addBox : ByteArray := prog_3_method_2_code
abbrev yItems_addBox : MethodName := ⟨"OptimalLines$Items", "addBox", "(I)I"⟩
abbrev wsItems_addBox : List Cond := Cond.code yItems_addBox cItems_addBox 2 (some .int) :: om_W
abbrev cItems_addGlue : ByteArray := prog_3_method_3_code
abbrev yItems_addGlue : MethodName := ⟨"OptimalLines$Items", "addGlue", "(IIII)I"⟩
abbrev wsItems_addGlue : List Cond := Cond.code yItems_addGlue cItems_addGlue 5 (some .int) :: om_W
abbrev cItems_addPenalty : ByteArray := prog_3_method_4_code
abbrev yItems_addPenalty : MethodName := ⟨"OptimalLines$Items", "addPenalty", "(IIZ)I"⟩
abbrev wsItems_addPenalty : List Cond := Cond.code yItems_addPenalty cItems_addPenalty 4 (some .int) :: om_W
abbrev cItems_removeAll : ByteArray := prog_3_method_5_code
abbrev yItems_removeAll : MethodName := ⟨"OptimalLines$Items", "removeAll", "()I"⟩
abbrev wsItems_removeAll : List Cond := Cond.code yItems_removeAll cItems_removeAll 2 (some .int) :: om_W
abbrev cItems_isBreak : ByteArray := prog_3_method_6_code
abbrev yItems_isBreak : MethodName := ⟨"OptimalLines$Items", "isBreak", "(IZ)Z"⟩
abbrev wsItems_isBreak : List Cond := Cond.code yItems_isBreak cItems_isBreak 3 (some .boolean) :: om_W
abbrev cItems_breakWidth : ByteArray := prog_3_method_7_code
abbrev yItems_breakWidth : MethodName := ⟨"OptimalLines$Items", "breakWidth", "(I)I"⟩
abbrev wsItems_breakWidth : List Cond := Cond.code yItems_breakWidth cItems_breakWidth 2 (some .int) :: om_W
abbrev cItems_breakCost : ByteArray := prog_3_method_8_code
abbrev yItems_breakCost : MethodName := ⟨"OptimalLines$Items", "breakCost", "(I)I"⟩
abbrev wsItems_breakCost : List Cond := Cond.code yItems_breakCost cItems_breakCost 2 (some .int) :: om_W
abbrev cItems_isFlagged : ByteArray := prog_3_method_9_code
abbrev yItems_isFlagged : MethodName := ⟨"OptimalLines$Items", "isFlagged", "(I)Z"⟩
abbrev wsItems_isFlagged : List Cond := Cond.code yItems_isFlagged cItems_isFlagged 2 (some .boolean) :: om_W
abbrev cItems_describe : ByteArray := prog_3_method_10_code
abbrev yItems_describe : MethodName := ⟨"OptimalLines$Items", "describe", "(IIIZ)V"⟩
abbrev wsItems_describe : List Cond := Cond.code yItems_describe cItems_describe 5 none :: om_W
abbrev cItems_append : ByteArray := prog_3_method_11_code
abbrev yItems_append : MethodName := ⟨"OptimalLines$Items", "append", "(IIII)I"⟩
abbrev wsItems_append : List Cond := Cond.code yItems_append cItems_append 6 (some .int) :: om_W
theorem dItems_init_0 : decode cItems_init 0 = .ok (.aload_n 0, 1) := by decide +kernel
theorem dItems_init_1 : decode cItems_init 1 = .ok (.invokespecial 3, 3) := by decide +kernel
theorem dItems_init_4 : decode cItems_init 4 = .ok (.aload_n 0, 1) := by decide +kernel
theorem dItems_init_5 : decode cItems_init 5 = .ok (.sipush 400, 3) := by decide +kernel
theorem dItems_init_8 : decode cItems_init 8 = .ok (.newarray .int, 2) := by decide +kernel
theorem dItems_init_10 : decode cItems_init 10 = .ok (.putfield 9, 3) := by decide +kernel
theorem dItems_init_13 : decode cItems_init 13 = .ok (.aload_n 0, 1) := by decide +kernel
theorem dItems_init_14 : decode cItems_init 14 = .ok (.sipush 400, 3) := by decide +kernel
theorem dItems_init_17 : decode cItems_init 17 = .ok (.newarray .int, 2) := by decide +kernel
theorem dItems_init_19 : decode cItems_init 19 = .ok (.putfield 15, 3) := by decide +kernel
theorem dItems_init_22 : decode cItems_init 22 = .ok (.aload_n 0, 1) := by decide +kernel
theorem dItems_init_23 : decode cItems_init 23 = .ok (.sipush 400, 3) := by decide +kernel
theorem dItems_init_26 : decode cItems_init 26 = .ok (.newarray .int, 2) := by decide +kernel
theorem dItems_init_28 : decode cItems_init 28 = .ok (.putfield 18, 3) := by decide +kernel
theorem dItems_init_31 : decode cItems_init 31 = .ok (.aload_n 0, 1) := by decide +kernel
theorem dItems_init_32 : decode cItems_init 32 = .ok (.sipush 400, 3) := by decide +kernel
theorem dItems_init_35 : decode cItems_init 35 = .ok (.newarray .boolean, 2) := by decide +kernel
theorem dItems_init_37 : decode cItems_init 37 = .ok (.putfield 21, 3) := by decide +kernel
theorem dItems_init_40 : decode cItems_init 40 = .ok (.aload_n 0, 1) := by decide +kernel
theorem dItems_init_41 : decode cItems_init 41 = .ok (.sipush 401, 3) := by decide +kernel
theorem dItems_init_44 : decode cItems_init 44 = .ok (.newarray .int, 2) := by decide +kernel
theorem dItems_init_46 : decode cItems_init 46 = .ok (.putfield 25, 3) := by decide +kernel
theorem dItems_init_49 : decode cItems_init 49 = .ok (.aload_n 0, 1) := by decide +kernel
theorem dItems_init_50 : decode cItems_init 50 = .ok (.sipush 401, 3) := by decide +kernel
theorem dItems_init_53 : decode cItems_init 53 = .ok (.newarray .int, 2) := by decide +kernel
theorem dItems_init_55 : decode cItems_init 55 = .ok (.putfield 28, 3) := by decide +kernel
theorem dItems_init_58 : decode cItems_init 58 = .ok (.aload_n 0, 1) := by decide +kernel
theorem dItems_init_59 : decode cItems_init 59 = .ok (.sipush 401, 3) := by decide +kernel
theorem dItems_init_62 : decode cItems_init 62 = .ok (.newarray .int, 2) := by decide +kernel
theorem dItems_init_64 : decode cItems_init 64 = .ok (.putfield 31, 3) := by decide +kernel
theorem dItems_init_67 : decode cItems_init 67 = .ok (.aload_n 0, 1) := by decide +kernel
theorem dItems_init_68 : decode cItems_init 68 = .ok (.sipush 401, 3) := by decide +kernel
theorem dItems_init_71 : decode cItems_init 71 = .ok (.newarray .int, 2) := by decide +kernel
theorem dItems_init_73 : decode cItems_init 73 = .ok (.putfield 34, 3) := by decide +kernel
theorem dItems_init_76 : decode cItems_init 76 = .ok (.return_, 1) := by decide +kernel
theorem dItems_addBox_0 : decode cItems_addBox 0 = .ok (.aload_n 0, 1) := by decide +kernel
theorem dItems_addBox_1 : decode cItems_addBox 1 = .ok (.iconst 0, 1) := by decide +kernel
theorem dItems_addBox_2 : decode cItems_addBox 2 = .ok (.iconst 0, 1) := by decide +kernel
theorem dItems_addBox_3 : decode cItems_addBox 3 = .ok (.iconst 0, 1) := by decide +kernel
theorem dItems_addBox_4 : decode cItems_addBox 4 = .ok (.iconst 0, 1) := by decide +kernel
theorem dItems_addBox_5 : decode cItems_addBox 5 = .ok (.invokevirtual 37, 3) := by decide +kernel
theorem dItems_addBox_8 : decode cItems_addBox 8 = .ok (.aload_n 0, 1) := by decide +kernel
theorem dItems_addBox_9 : decode cItems_addBox 9 = .ok (.iload_n 1, 1) := by decide +kernel
theorem dItems_addBox_10 : decode cItems_addBox 10 = .ok (.iconst 0, 1) := by decide +kernel
theorem dItems_addBox_11 : decode cItems_addBox 11 = .ok (.iconst 0, 1) := by decide +kernel
theorem dItems_addBox_12 : decode cItems_addBox 12 = .ok (.iconst 0, 1) := by decide +kernel
theorem dItems_addBox_13 : decode cItems_addBox 13 = .ok (.invokevirtual 41, 3) := by decide +kernel
theorem dItems_addBox_16 : decode cItems_addBox 16 = .ok (.ireturn, 1) := by decide +kernel
theorem dItems_addGlue_0 : decode cItems_addGlue 0 = .ok (.aload_n 0, 1) := by decide +kernel
theorem dItems_addGlue_1 : decode cItems_addGlue 1 = .ok (.iconst 1, 1) := by decide +kernel
theorem dItems_addGlue_2 : decode cItems_addGlue 2 = .ok (.iconst 0, 1) := by decide +kernel
theorem dItems_addGlue_3 : decode cItems_addGlue 3 = .ok (.iconst 0, 1) := by decide +kernel
theorem dItems_addGlue_4 : decode cItems_addGlue 4 = .ok (.iconst 0, 1) := by decide +kernel
theorem dItems_addGlue_5 : decode cItems_addGlue 5 = .ok (.invokevirtual 37, 3) := by decide +kernel
theorem dItems_addGlue_8 : decode cItems_addGlue 8 = .ok (.aload_n 0, 1) := by decide +kernel
theorem dItems_addGlue_9 : decode cItems_addGlue 9 = .ok (.iload_n 1, 1) := by decide +kernel
theorem dItems_addGlue_10 : decode cItems_addGlue 10 = .ok (.iload_n 2, 1) := by decide +kernel
theorem dItems_addGlue_11 : decode cItems_addGlue 11 = .ok (.iload_n 3, 1) := by decide +kernel
theorem dItems_addGlue_12 : decode cItems_addGlue 12 = .ok (.iload 4, 2) := by decide +kernel
theorem dItems_addGlue_14 : decode cItems_addGlue 14 = .ok (.invokevirtual 41, 3) := by decide +kernel
theorem dItems_addGlue_17 : decode cItems_addGlue 17 = .ok (.ireturn, 1) := by decide +kernel
theorem dItems_addPenalty_0 : decode cItems_addPenalty 0 = .ok (.aload_n 0, 1) := by decide +kernel
theorem dItems_addPenalty_1 : decode cItems_addPenalty 1 = .ok (.iconst 2, 1) := by decide +kernel
theorem dItems_addPenalty_2 : decode cItems_addPenalty 2 = .ok (.iload_n 1, 1) := by decide +kernel
theorem dItems_addPenalty_3 : decode cItems_addPenalty 3 = .ok (.iload_n 2, 1) := by decide +kernel
theorem dItems_addPenalty_4 : decode cItems_addPenalty 4 = .ok (.iload_n 3, 1) := by decide +kernel
theorem dItems_addPenalty_5 : decode cItems_addPenalty 5 = .ok (.invokevirtual 37, 3) := by decide +kernel
theorem dItems_addPenalty_8 : decode cItems_addPenalty 8 = .ok (.aload_n 0, 1) := by decide +kernel
theorem dItems_addPenalty_9 : decode cItems_addPenalty 9 = .ok (.iconst 0, 1) := by decide +kernel
theorem dItems_addPenalty_10 : decode cItems_addPenalty 10 = .ok (.iconst 0, 1) := by decide +kernel
theorem dItems_addPenalty_11 : decode cItems_addPenalty 11 = .ok (.iconst 0, 1) := by decide +kernel
theorem dItems_addPenalty_12 : decode cItems_addPenalty 12 = .ok (.iconst 0, 1) := by decide +kernel
theorem dItems_addPenalty_13 : decode cItems_addPenalty 13 = .ok (.invokevirtual 41, 3) := by decide +kernel
theorem dItems_addPenalty_16 : decode cItems_addPenalty 16 = .ok (.ireturn, 1) := by decide +kernel
theorem dItems_removeAll_0 : decode cItems_removeAll 0 = .ok (.aload_n 0, 1) := by decide +kernel
theorem dItems_removeAll_1 : decode cItems_removeAll 1 = .ok (.getfield 45, 3) := by decide +kernel
theorem dItems_removeAll_4 : decode cItems_removeAll 4 = .ok (.istore_n 1, 1) := by decide +kernel
theorem dItems_removeAll_5 : decode cItems_removeAll 5 = .ok (.aload_n 0, 1) := by decide +kernel
theorem dItems_removeAll_6 : decode cItems_removeAll 6 = .ok (.iconst 0, 1) := by decide +kernel
theorem dItems_removeAll_7 : decode cItems_removeAll 7 = .ok (.putfield 45, 3) := by decide +kernel
theorem dItems_removeAll_10 : decode cItems_removeAll 10 = .ok (.iload_n 1, 1) := by decide +kernel
theorem dItems_removeAll_11 : decode cItems_removeAll 11 = .ok (.ireturn, 1) := by decide +kernel
theorem dItems_isBreak_0 : decode cItems_isBreak 0 = .ok (.iload_n 1, 1) := by decide +kernel
theorem dItems_isBreak_1 : decode cItems_isBreak 1 = .ok (.aload_n 0, 1) := by decide +kernel
theorem dItems_isBreak_2 : decode cItems_isBreak 2 = .ok (.getfield 45, 3) := by decide +kernel
theorem dItems_isBreak_5 : decode cItems_isBreak 5 = .ok (.if_icmp .ne 5, 3) := by decide +kernel
theorem dItems_isBreak_8 : decode cItems_isBreak 8 = .ok (.iconst 1, 1) := by decide +kernel
theorem dItems_isBreak_9 : decode cItems_isBreak 9 = .ok (.ireturn, 1) := by decide +kernel
theorem dItems_isBreak_10 : decode cItems_isBreak 10 = .ok (.aload_n 0, 1) := by decide +kernel
theorem dItems_isBreak_11 : decode cItems_isBreak 11 = .ok (.getfield 9, 3) := by decide +kernel
theorem dItems_isBreak_14 : decode cItems_isBreak 14 = .ok (.iload_n 1, 1) := by decide +kernel
theorem dItems_isBreak_15 : decode cItems_isBreak 15 = .ok (.iaload, 1) := by decide +kernel
theorem dItems_isBreak_16 : decode cItems_isBreak 16 = .ok (.iconst 1, 1) := by decide +kernel
theorem dItems_isBreak_17 : decode cItems_isBreak 17 = .ok (.if_icmp .ne 24, 3) := by decide +kernel
theorem dItems_isBreak_20 : decode cItems_isBreak 20 = .ok (.iload_n 1, 1) := by decide +kernel
theorem dItems_isBreak_21 : decode cItems_isBreak 21 = .ok (.ifCond .le 18, 3) := by decide +kernel
theorem dItems_isBreak_24 : decode cItems_isBreak 24 = .ok (.aload_n 0, 1) := by decide +kernel
theorem dItems_isBreak_25 : decode cItems_isBreak 25 = .ok (.getfield 9, 3) := by decide +kernel
theorem dItems_isBreak_28 : decode cItems_isBreak 28 = .ok (.iload_n 1, 1) := by decide +kernel
theorem dItems_isBreak_29 : decode cItems_isBreak 29 = .ok (.iconst 1, 1) := by decide +kernel
theorem dItems_isBreak_30 : decode cItems_isBreak 30 = .ok (.isub, 1) := by decide +kernel
theorem dItems_isBreak_31 : decode cItems_isBreak 31 = .ok (.iaload, 1) := by decide +kernel
theorem dItems_isBreak_32 : decode cItems_isBreak 32 = .ok (.ifCond .ne 7, 3) := by decide +kernel
theorem dItems_isBreak_35 : decode cItems_isBreak 35 = .ok (.iconst 1, 1) := by decide +kernel
theorem dItems_isBreak_36 : decode cItems_isBreak 36 = .ok (.goto 4, 3) := by decide +kernel
theorem dItems_isBreak_39 : decode cItems_isBreak 39 = .ok (.iconst 0, 1) := by decide +kernel
theorem dItems_isBreak_40 : decode cItems_isBreak 40 = .ok (.ireturn, 1) := by decide +kernel
theorem dItems_isBreak_41 : decode cItems_isBreak 41 = .ok (.aload_n 0, 1) := by decide +kernel
theorem dItems_isBreak_42 : decode cItems_isBreak 42 = .ok (.getfield 9, 3) := by decide +kernel
theorem dItems_isBreak_45 : decode cItems_isBreak 45 = .ok (.iload_n 1, 1) := by decide +kernel
theorem dItems_isBreak_46 : decode cItems_isBreak 46 = .ok (.iaload, 1) := by decide +kernel
theorem dItems_isBreak_47 : decode cItems_isBreak 47 = .ok (.iconst 2, 1) := by decide +kernel
theorem dItems_isBreak_48 : decode cItems_isBreak 48 = .ok (.if_icmp .ne 32, 3) := by decide +kernel
theorem dItems_isBreak_51 : decode cItems_isBreak 51 = .ok (.aload_n 0, 1) := by decide +kernel
theorem dItems_isBreak_52 : decode cItems_isBreak 52 = .ok (.getfield 18, 3) := by decide +kernel
theorem dItems_isBreak_55 : decode cItems_isBreak 55 = .ok (.iload_n 1, 1) := by decide +kernel
theorem dItems_isBreak_56 : decode cItems_isBreak 56 = .ok (.iaload, 1) := by decide +kernel
theorem dItems_isBreak_57 : decode cItems_isBreak 57 = .ok (.sipush 10000, 3) := by decide +kernel
theorem dItems_isBreak_60 : decode cItems_isBreak 60 = .ok (.if_icmp .ge 20, 3) := by decide +kernel
theorem dItems_isBreak_63 : decode cItems_isBreak 63 = .ok (.iload_n 2, 1) := by decide +kernel
theorem dItems_isBreak_64 : decode cItems_isBreak 64 = .ok (.ifCond .ne 12, 3) := by decide +kernel
theorem dItems_isBreak_67 : decode cItems_isBreak 67 = .ok (.aload_n 0, 1) := by decide +kernel
theorem dItems_isBreak_68 : decode cItems_isBreak 68 = .ok (.getfield 21, 3) := by decide +kernel
theorem dItems_isBreak_71 : decode cItems_isBreak 71 = .ok (.iload_n 1, 1) := by decide +kernel
theorem dItems_isBreak_72 : decode cItems_isBreak 72 = .ok (.baload, 1) := by decide +kernel
theorem dItems_isBreak_73 : decode cItems_isBreak 73 = .ok (.ifCond .ne 7, 3) := by decide +kernel
theorem dItems_isBreak_76 : decode cItems_isBreak 76 = .ok (.iconst 1, 1) := by decide +kernel
theorem dItems_isBreak_77 : decode cItems_isBreak 77 = .ok (.goto 4, 3) := by decide +kernel
theorem dItems_isBreak_80 : decode cItems_isBreak 80 = .ok (.iconst 0, 1) := by decide +kernel
theorem dItems_isBreak_81 : decode cItems_isBreak 81 = .ok (.ireturn, 1) := by decide +kernel
theorem dItems_breakWidth_0 : decode cItems_breakWidth 0 = .ok (.iload_n 1, 1) := by decide +kernel
theorem dItems_breakWidth_1 : decode cItems_breakWidth 1 = .ok (.aload_n 0, 1) := by decide +kernel
theorem dItems_breakWidth_2 : decode cItems_breakWidth 2 = .ok (.getfield 45, 3) := by decide +kernel
theorem dItems_breakWidth_5 : decode cItems_breakWidth 5 = .ok (.if_icmp .ne 7, 3) := by decide +kernel
theorem dItems_breakWidth_8 : decode cItems_breakWidth 8 = .ok (.iconst 0, 1) := by decide +kernel
theorem dItems_breakWidth_9 : decode cItems_breakWidth 9 = .ok (.goto 9, 3) := by decide +kernel
theorem dItems_breakWidth_12 : decode cItems_breakWidth 12 = .ok (.aload_n 0, 1) := by decide +kernel
theorem dItems_breakWidth_13 : decode cItems_breakWidth 13 = .ok (.getfield 15, 3) := by decide +kernel
theorem dItems_breakWidth_16 : decode cItems_breakWidth 16 = .ok (.iload_n 1, 1) := by decide +kernel
theorem dItems_breakWidth_17 : decode cItems_breakWidth 17 = .ok (.iaload, 1) := by decide +kernel
theorem dItems_breakWidth_18 : decode cItems_breakWidth 18 = .ok (.ireturn, 1) := by decide +kernel
theorem dItems_breakCost_0 : decode cItems_breakCost 0 = .ok (.iload_n 1, 1) := by decide +kernel
theorem dItems_breakCost_1 : decode cItems_breakCost 1 = .ok (.aload_n 0, 1) := by decide +kernel
theorem dItems_breakCost_2 : decode cItems_breakCost 2 = .ok (.getfield 45, 3) := by decide +kernel
theorem dItems_breakCost_5 : decode cItems_breakCost 5 = .ok (.if_icmp .ne 9, 3) := by decide +kernel
theorem dItems_breakCost_8 : decode cItems_breakCost 8 = .ok (.sipush (-10000), 3) := by decide +kernel
theorem dItems_breakCost_11 : decode cItems_breakCost 11 = .ok (.goto 9, 3) := by decide +kernel
theorem dItems_breakCost_14 : decode cItems_breakCost 14 = .ok (.aload_n 0, 1) := by decide +kernel
theorem dItems_breakCost_15 : decode cItems_breakCost 15 = .ok (.getfield 18, 3) := by decide +kernel
theorem dItems_breakCost_18 : decode cItems_breakCost 18 = .ok (.iload_n 1, 1) := by decide +kernel
theorem dItems_breakCost_19 : decode cItems_breakCost 19 = .ok (.iaload, 1) := by decide +kernel
theorem dItems_breakCost_20 : decode cItems_breakCost 20 = .ok (.ireturn, 1) := by decide +kernel
theorem dItems_isFlagged_0 : decode cItems_isFlagged 0 = .ok (.iload_n 1, 1) := by decide +kernel
theorem dItems_isFlagged_1 : decode cItems_isFlagged 1 = .ok (.ifCond .lt 24, 3) := by decide +kernel
theorem dItems_isFlagged_4 : decode cItems_isFlagged 4 = .ok (.iload_n 1, 1) := by decide +kernel
theorem dItems_isFlagged_5 : decode cItems_isFlagged 5 = .ok (.aload_n 0, 1) := by decide +kernel
theorem dItems_isFlagged_6 : decode cItems_isFlagged 6 = .ok (.getfield 45, 3) := by decide +kernel
theorem dItems_isFlagged_9 : decode cItems_isFlagged 9 = .ok (.if_icmp .ge 16, 3) := by decide +kernel
theorem dItems_isFlagged_12 : decode cItems_isFlagged 12 = .ok (.aload_n 0, 1) := by decide +kernel
theorem dItems_isFlagged_13 : decode cItems_isFlagged 13 = .ok (.getfield 21, 3) := by decide +kernel
theorem dItems_isFlagged_16 : decode cItems_isFlagged 16 = .ok (.iload_n 1, 1) := by decide +kernel
theorem dItems_isFlagged_17 : decode cItems_isFlagged 17 = .ok (.baload, 1) := by decide +kernel
theorem dItems_isFlagged_18 : decode cItems_isFlagged 18 = .ok (.ifCond .eq 7, 3) := by decide +kernel
theorem dItems_isFlagged_21 : decode cItems_isFlagged 21 = .ok (.iconst 1, 1) := by decide +kernel
theorem dItems_isFlagged_22 : decode cItems_isFlagged 22 = .ok (.goto 4, 3) := by decide +kernel
theorem dItems_isFlagged_25 : decode cItems_isFlagged 25 = .ok (.iconst 0, 1) := by decide +kernel
theorem dItems_isFlagged_26 : decode cItems_isFlagged 26 = .ok (.ireturn, 1) := by decide +kernel
theorem dItems_describe_0 : decode cItems_describe 0 = .ok (.aload_n 0, 1) := by decide +kernel
theorem dItems_describe_1 : decode cItems_describe 1 = .ok (.getfield 9, 3) := by decide +kernel
theorem dItems_describe_4 : decode cItems_describe 4 = .ok (.aload_n 0, 1) := by decide +kernel
theorem dItems_describe_5 : decode cItems_describe 5 = .ok (.getfield 45, 3) := by decide +kernel
theorem dItems_describe_8 : decode cItems_describe 8 = .ok (.iload_n 1, 1) := by decide +kernel
theorem dItems_describe_9 : decode cItems_describe 9 = .ok (.iastore, 1) := by decide +kernel
theorem dItems_describe_10 : decode cItems_describe 10 = .ok (.aload_n 0, 1) := by decide +kernel
theorem dItems_describe_11 : decode cItems_describe 11 = .ok (.getfield 15, 3) := by decide +kernel
theorem dItems_describe_14 : decode cItems_describe 14 = .ok (.aload_n 0, 1) := by decide +kernel
theorem dItems_describe_15 : decode cItems_describe 15 = .ok (.getfield 45, 3) := by decide +kernel
theorem dItems_describe_18 : decode cItems_describe 18 = .ok (.iload_n 2, 1) := by decide +kernel
theorem dItems_describe_19 : decode cItems_describe 19 = .ok (.iastore, 1) := by decide +kernel
theorem dItems_describe_20 : decode cItems_describe 20 = .ok (.aload_n 0, 1) := by decide +kernel
theorem dItems_describe_21 : decode cItems_describe 21 = .ok (.getfield 18, 3) := by decide +kernel
theorem dItems_describe_24 : decode cItems_describe 24 = .ok (.aload_n 0, 1) := by decide +kernel
theorem dItems_describe_25 : decode cItems_describe 25 = .ok (.getfield 45, 3) := by decide +kernel
theorem dItems_describe_28 : decode cItems_describe 28 = .ok (.iload_n 3, 1) := by decide +kernel
theorem dItems_describe_29 : decode cItems_describe 29 = .ok (.iastore, 1) := by decide +kernel
theorem dItems_describe_30 : decode cItems_describe 30 = .ok (.aload_n 0, 1) := by decide +kernel
theorem dItems_describe_31 : decode cItems_describe 31 = .ok (.getfield 21, 3) := by decide +kernel
theorem dItems_describe_34 : decode cItems_describe 34 = .ok (.aload_n 0, 1) := by decide +kernel
theorem dItems_describe_35 : decode cItems_describe 35 = .ok (.getfield 45, 3) := by decide +kernel
theorem dItems_describe_38 : decode cItems_describe 38 = .ok (.iload 4, 2) := by decide +kernel
theorem dItems_describe_40 : decode cItems_describe 40 = .ok (.bastore, 1) := by decide +kernel
theorem dItems_describe_41 : decode cItems_describe 41 = .ok (.return_, 1) := by decide +kernel
theorem dItems_append_0 : decode cItems_append 0 = .ok (.aload_n 0, 1) := by decide +kernel
theorem dItems_append_1 : decode cItems_append 1 = .ok (.getfield 45, 3) := by decide +kernel
theorem dItems_append_4 : decode cItems_append 4 = .ok (.istore 5, 2) := by decide +kernel
theorem dItems_append_6 : decode cItems_append 6 = .ok (.aload_n 0, 1) := by decide +kernel
theorem dItems_append_7 : decode cItems_append 7 = .ok (.getfield 25, 3) := by decide +kernel
theorem dItems_append_10 : decode cItems_append 10 = .ok (.iload 5, 2) := by decide +kernel
theorem dItems_append_12 : decode cItems_append 12 = .ok (.iconst 1, 1) := by decide +kernel
theorem dItems_append_13 : decode cItems_append 13 = .ok (.iadd, 1) := by decide +kernel
theorem dItems_append_14 : decode cItems_append 14 = .ok (.aload_n 0, 1) := by decide +kernel
theorem dItems_append_15 : decode cItems_append 15 = .ok (.getfield 25, 3) := by decide +kernel
theorem dItems_append_18 : decode cItems_append 18 = .ok (.iload 5, 2) := by decide +kernel
theorem dItems_append_20 : decode cItems_append 20 = .ok (.iaload, 1) := by decide +kernel
theorem dItems_append_21 : decode cItems_append 21 = .ok (.iload_n 1, 1) := by decide +kernel
theorem dItems_append_22 : decode cItems_append 22 = .ok (.iadd, 1) := by decide +kernel
theorem dItems_append_23 : decode cItems_append 23 = .ok (.iastore, 1) := by decide +kernel
theorem dItems_append_24 : decode cItems_append 24 = .ok (.aload_n 0, 1) := by decide +kernel
theorem dItems_append_25 : decode cItems_append 25 = .ok (.getfield 28, 3) := by decide +kernel
theorem dItems_append_28 : decode cItems_append 28 = .ok (.iload 5, 2) := by decide +kernel
theorem dItems_append_30 : decode cItems_append 30 = .ok (.iconst 1, 1) := by decide +kernel
theorem dItems_append_31 : decode cItems_append 31 = .ok (.iadd, 1) := by decide +kernel
theorem dItems_append_32 : decode cItems_append 32 = .ok (.aload_n 0, 1) := by decide +kernel
theorem dItems_append_33 : decode cItems_append 33 = .ok (.getfield 28, 3) := by decide +kernel
theorem dItems_append_36 : decode cItems_append 36 = .ok (.iload 5, 2) := by decide +kernel
theorem dItems_append_38 : decode cItems_append 38 = .ok (.iaload, 1) := by decide +kernel
theorem dItems_append_39 : decode cItems_append 39 = .ok (.iload_n 2, 1) := by decide +kernel
theorem dItems_append_40 : decode cItems_append 40 = .ok (.iadd, 1) := by decide +kernel
theorem dItems_append_41 : decode cItems_append 41 = .ok (.iastore, 1) := by decide +kernel
theorem dItems_append_42 : decode cItems_append 42 = .ok (.aload_n 0, 1) := by decide +kernel
theorem dItems_append_43 : decode cItems_append 43 = .ok (.getfield 31, 3) := by decide +kernel
theorem dItems_append_46 : decode cItems_append 46 = .ok (.iload 5, 2) := by decide +kernel
theorem dItems_append_48 : decode cItems_append 48 = .ok (.iconst 1, 1) := by decide +kernel
theorem dItems_append_49 : decode cItems_append 49 = .ok (.iadd, 1) := by decide +kernel
theorem dItems_append_50 : decode cItems_append 50 = .ok (.aload_n 0, 1) := by decide +kernel
theorem dItems_append_51 : decode cItems_append 51 = .ok (.getfield 31, 3) := by decide +kernel
theorem dItems_append_54 : decode cItems_append 54 = .ok (.iload 5, 2) := by decide +kernel
theorem dItems_append_56 : decode cItems_append 56 = .ok (.iaload, 1) := by decide +kernel
theorem dItems_append_57 : decode cItems_append 57 = .ok (.iload_n 3, 1) := by decide +kernel
theorem dItems_append_58 : decode cItems_append 58 = .ok (.iadd, 1) := by decide +kernel
theorem dItems_append_59 : decode cItems_append 59 = .ok (.iastore, 1) := by decide +kernel
theorem dItems_append_60 : decode cItems_append 60 = .ok (.aload_n 0, 1) := by decide +kernel
theorem dItems_append_61 : decode cItems_append 61 = .ok (.getfield 34, 3) := by decide +kernel
theorem dItems_append_64 : decode cItems_append 64 = .ok (.iload 5, 2) := by decide +kernel
theorem dItems_append_66 : decode cItems_append 66 = .ok (.iconst 1, 1) := by decide +kernel
theorem dItems_append_67 : decode cItems_append 67 = .ok (.iadd, 1) := by decide +kernel
theorem dItems_append_68 : decode cItems_append 68 = .ok (.aload_n 0, 1) := by decide +kernel
theorem dItems_append_69 : decode cItems_append 69 = .ok (.getfield 34, 3) := by decide +kernel
theorem dItems_append_72 : decode cItems_append 72 = .ok (.iload 5, 2) := by decide +kernel
theorem dItems_append_74 : decode cItems_append 74 = .ok (.iaload, 1) := by decide +kernel
theorem dItems_append_75 : decode cItems_append 75 = .ok (.iload 4, 2) := by decide +kernel
theorem dItems_append_77 : decode cItems_append 77 = .ok (.iadd, 1) := by decide +kernel
theorem dItems_append_78 : decode cItems_append 78 = .ok (.iastore, 1) := by decide +kernel
theorem dItems_append_79 : decode cItems_append 79 = .ok (.aload_n 0, 1) := by decide +kernel
theorem dItems_append_80 : decode cItems_append 80 = .ok (.iload 5, 2) := by decide +kernel
theorem dItems_append_82 : decode cItems_append 82 = .ok (.iconst 1, 1) := by decide +kernel
theorem dItems_append_83 : decode cItems_append 83 = .ok (.iadd, 1) := by decide +kernel
theorem dItems_append_84 : decode cItems_append 84 = .ok (.putfield 45, 3) := by decide +kernel
theorem dItems_append_87 : decode cItems_append 87 = .ok (.iload 5, 2) := by decide +kernel
theorem dItems_append_89 : decode cItems_append 89 = .ok (.ireturn, 1) := by decide +kernel
abbrev cLayout_init : ByteArray := prog_4_method_1_code
abbrev yLayout_init : MethodName := ⟨"OptimalLines$Layout", "<init>", "()V"⟩
abbrev wsLayout_init : List Cond := Cond.code yLayout_init cLayout_init 1 none :: om_W
abbrev cLayout_lineWith : ByteArray := prog_4_method_2_code
abbrev yLayout_lineWith : MethodName := ⟨"OptimalLines$Layout", "lineWith", "(I)I"⟩
abbrev wsLayout_lineWith : List Cond := Cond.code yLayout_lineWith cLayout_lineWith 3 (some .int) :: om_W
theorem dLayout_init_0 : decode cLayout_init 0 = .ok (.aload_n 0, 1) := by decide +kernel
theorem dLayout_init_1 : decode cLayout_init 1 = .ok (.invokespecial 3, 3) := by decide +kernel
theorem dLayout_init_4 : decode cLayout_init 4 = .ok (.aload_n 0, 1) := by decide +kernel
theorem dLayout_init_5 : decode cLayout_init 5 = .ok (.sipush 401, 3) := by decide +kernel
theorem dLayout_init_8 : decode cLayout_init 8 = .ok (.newarray .int, 2) := by decide +kernel
theorem dLayout_init_10 : decode cLayout_init 10 = .ok (.putfield 9, 3) := by decide +kernel
theorem dLayout_init_13 : decode cLayout_init 13 = .ok (.aload_n 0, 1) := by decide +kernel
theorem dLayout_init_14 : decode cLayout_init 14 = .ok (.sipush 401, 3) := by decide +kernel
theorem dLayout_init_17 : decode cLayout_init 17 = .ok (.newarray .int, 2) := by decide +kernel
theorem dLayout_init_19 : decode cLayout_init 19 = .ok (.putfield 15, 3) := by decide +kernel
theorem dLayout_init_22 : decode cLayout_init 22 = .ok (.return_, 1) := by decide +kernel
theorem dLayout_lineWith_0 : decode cLayout_lineWith 0 = .ok (.iconst 0, 1) := by decide +kernel
theorem dLayout_lineWith_1 : decode cLayout_lineWith 1 = .ok (.istore_n 2, 1) := by decide +kernel
theorem dLayout_lineWith_2 : decode cLayout_lineWith 2 = .ok (.iload_n 2, 1) := by decide +kernel
theorem dLayout_lineWith_3 : decode cLayout_lineWith 3 = .ok (.aload_n 0, 1) := by decide +kernel
theorem dLayout_lineWith_4 : decode cLayout_lineWith 4 = .ok (.getfield 18, 3) := by decide +kernel
theorem dLayout_lineWith_7 : decode cLayout_lineWith 7 = .ok (.if_icmp .ge 31, 3) := by decide +kernel
theorem dLayout_lineWith_10 : decode cLayout_lineWith 10 = .ok (.iload_n 1, 1) := by decide +kernel
theorem dLayout_lineWith_11 : decode cLayout_lineWith 11 = .ok (.aload_n 0, 1) := by decide +kernel
theorem dLayout_lineWith_12 : decode cLayout_lineWith 12 = .ok (.getfield 9, 3) := by decide +kernel
theorem dLayout_lineWith_15 : decode cLayout_lineWith 15 = .ok (.iload_n 2, 1) := by decide +kernel
theorem dLayout_lineWith_16 : decode cLayout_lineWith 16 = .ok (.iaload, 1) := by decide +kernel
theorem dLayout_lineWith_17 : decode cLayout_lineWith 17 = .ok (.if_icmp .lt 15, 3) := by decide +kernel
theorem dLayout_lineWith_20 : decode cLayout_lineWith 20 = .ok (.iload_n 1, 1) := by decide +kernel
theorem dLayout_lineWith_21 : decode cLayout_lineWith 21 = .ok (.aload_n 0, 1) := by decide +kernel
theorem dLayout_lineWith_22 : decode cLayout_lineWith 22 = .ok (.getfield 15, 3) := by decide +kernel
theorem dLayout_lineWith_25 : decode cLayout_lineWith 25 = .ok (.iload_n 2, 1) := by decide +kernel
theorem dLayout_lineWith_26 : decode cLayout_lineWith 26 = .ok (.iaload, 1) := by decide +kernel
theorem dLayout_lineWith_27 : decode cLayout_lineWith 27 = .ok (.if_icmp .ge 5, 3) := by decide +kernel
theorem dLayout_lineWith_30 : decode cLayout_lineWith 30 = .ok (.iload_n 2, 1) := by decide +kernel
theorem dLayout_lineWith_31 : decode cLayout_lineWith 31 = .ok (.ireturn, 1) := by decide +kernel
theorem dLayout_lineWith_32 : decode cLayout_lineWith 32 = .ok (.iinc 2 1, 3) := by decide +kernel
theorem dLayout_lineWith_35 : decode cLayout_lineWith 35 = .ok (.goto (-33), 3) := by decide +kernel
theorem dLayout_lineWith_38 : decode cLayout_lineWith 38 = .ok (.iconst (-1), 1) := by decide +kernel
theorem dLayout_lineWith_39 : decode cLayout_lineWith 39 = .ok (.ireturn, 1) := by decide +kernel
abbrev cTrail_init : ByteArray := prog_7_method_1_code
abbrev yTrail_init : MethodName := ⟨"OptimalLines$Trail", "<init>", "()V"⟩
abbrev wsTrail_init : List Cond := Cond.code yTrail_init cTrail_init 1 none :: om_W
abbrev cTrail_keep : ByteArray := prog_7_method_2_code
abbrev yTrail_keep : MethodName := ⟨"OptimalLines$Trail", "keep", "(IIII)V"⟩
abbrev wsTrail_keep : List Cond := Cond.code yTrail_keep cTrail_keep 7 none :: om_W
abbrev cTrail_root : ByteArray := prog_7_method_3_code
abbrev yTrail_root : MethodName := ⟨"OptimalLines$Trail", "root", "(III)I"⟩
abbrev wsTrail_root : List Cond := Cond.code yTrail_root cTrail_root 4 (some .int) :: om_W
theorem dTrail_init_0 : decode cTrail_init 0 = .ok (.aload_n 0, 1) := by decide +kernel
theorem dTrail_init_1 : decode cTrail_init 1 = .ok (.invokespecial 3, 3) := by decide +kernel
theorem dTrail_init_4 : decode cTrail_init 4 = .ok (.aload_n 0, 1) := by decide +kernel
theorem dTrail_init_5 : decode cTrail_init 5 = .ok (.sipush 16080, 3) := by decide +kernel
theorem dTrail_init_8 : decode cTrail_init 8 = .ok (.newarray .long, 2) := by decide +kernel
theorem dTrail_init_10 : decode cTrail_init 10 = .ok (.putfield 11, 3) := by decide +kernel
theorem dTrail_init_13 : decode cTrail_init 13 = .ok (.return_, 1) := by decide +kernel
theorem dTrail_keep_0 : decode cTrail_keep 0 = .ok (.iload_n 1, 1) := by decide +kernel
theorem dTrail_keep_1 : decode cTrail_keep 1 = .ok (.sipush 402, 3) := by decide +kernel
theorem dTrail_keep_4 : decode cTrail_keep 4 = .ok (.imul, 1) := by decide +kernel
theorem dTrail_keep_5 : decode cTrail_keep 5 = .ok (.iload_n 2, 1) := by decide +kernel
theorem dTrail_keep_6 : decode cTrail_keep 6 = .ok (.iadd, 1) := by decide +kernel
theorem dTrail_keep_7 : decode cTrail_keep 7 = .ok (.istore 5, 2) := by decide +kernel
theorem dTrail_keep_9 : decode cTrail_keep 9 = .ok (.bipush 16, 2) := by decide +kernel
theorem dTrail_keep_11 : decode cTrail_keep 11 = .ok (.iload_n 3, 1) := by decide +kernel
theorem dTrail_keep_12 : decode cTrail_keep 12 = .ok (.imul, 1) := by decide +kernel
theorem dTrail_keep_13 : decode cTrail_keep 13 = .ok (.istore 6, 2) := by decide +kernel
theorem dTrail_keep_15 : decode cTrail_keep 15 = .ok (.aload_n 0, 1) := by decide +kernel
theorem dTrail_keep_16 : decode cTrail_keep 16 = .ok (.getfield 11, 3) := by decide +kernel
theorem dTrail_keep_19 : decode cTrail_keep 19 = .ok (.iload 5, 2) := by decide +kernel
theorem dTrail_keep_21 : decode cTrail_keep 21 = .ok (.aload_n 0, 1) := by decide +kernel
theorem dTrail_keep_22 : decode cTrail_keep 22 = .ok (.getfield 11, 3) := by decide +kernel
theorem dTrail_keep_25 : decode cTrail_keep 25 = .ok (.iload 5, 2) := by decide +kernel
theorem dTrail_keep_27 : decode cTrail_keep 27 = .ok (.laload, 1) := by decide +kernel
theorem dTrail_keep_28 : decode cTrail_keep 28 = .ok (.ldc2_w 17, 3) := by decide +kernel
theorem dTrail_keep_31 : decode cTrail_keep 31 = .ok (.iload 6, 2) := by decide +kernel
theorem dTrail_keep_33 : decode cTrail_keep 33 = .ok (.lshl, 1) := by decide +kernel
theorem dTrail_keep_34 : decode cTrail_keep 34 = .ok (.ldc2_w 19, 3) := by decide +kernel
theorem dTrail_keep_37 : decode cTrail_keep 37 = .ok (.lxor, 1) := by decide +kernel
theorem dTrail_keep_38 : decode cTrail_keep 38 = .ok (.land, 1) := by decide +kernel
theorem dTrail_keep_39 : decode cTrail_keep 39 = .ok (.iload 4, 2) := by decide +kernel
theorem dTrail_keep_41 : decode cTrail_keep 41 = .ok (.i2l, 1) := by decide +kernel
theorem dTrail_keep_42 : decode cTrail_keep 42 = .ok (.iload 6, 2) := by decide +kernel
theorem dTrail_keep_44 : decode cTrail_keep 44 = .ok (.lshl, 1) := by decide +kernel
theorem dTrail_keep_45 : decode cTrail_keep 45 = .ok (.lor, 1) := by decide +kernel
theorem dTrail_keep_46 : decode cTrail_keep 46 = .ok (.lastore, 1) := by decide +kernel
theorem dTrail_keep_47 : decode cTrail_keep 47 = .ok (.return_, 1) := by decide +kernel
theorem dTrail_root_0 : decode cTrail_root 0 = .ok (.aload_n 0, 1) := by decide +kernel
theorem dTrail_root_1 : decode cTrail_root 1 = .ok (.getfield 11, 3) := by decide +kernel
theorem dTrail_root_4 : decode cTrail_root 4 = .ok (.iload_n 1, 1) := by decide +kernel
theorem dTrail_root_5 : decode cTrail_root 5 = .ok (.sipush 402, 3) := by decide +kernel
theorem dTrail_root_8 : decode cTrail_root 8 = .ok (.imul, 1) := by decide +kernel
theorem dTrail_root_9 : decode cTrail_root 9 = .ok (.iload_n 2, 1) := by decide +kernel
theorem dTrail_root_10 : decode cTrail_root 10 = .ok (.iadd, 1) := by decide +kernel
theorem dTrail_root_11 : decode cTrail_root 11 = .ok (.laload, 1) := by decide +kernel
theorem dTrail_root_12 : decode cTrail_root 12 = .ok (.bipush 16, 2) := by decide +kernel
theorem dTrail_root_14 : decode cTrail_root 14 = .ok (.iload_n 3, 1) := by decide +kernel
theorem dTrail_root_15 : decode cTrail_root 15 = .ok (.imul, 1) := by decide +kernel
theorem dTrail_root_16 : decode cTrail_root 16 = .ok (.lushr, 1) := by decide +kernel
theorem dTrail_root_17 : decode cTrail_root 17 = .ok (.ldc2_w 17, 3) := by decide +kernel
theorem dTrail_root_20 : decode cTrail_root 20 = .ok (.land, 1) := by decide +kernel
theorem dTrail_root_21 : decode cTrail_root 21 = .ok (.l2i, 1) := by decide +kernel
theorem dTrail_root_22 : decode cTrail_root 22 = .ok (.ireturn, 1) := by decide +kernel
abbrev cArrays_fillI : ByteArray := prog_20_method_103_code
abbrev yArrays_fillI : MethodName := ⟨"java/util/Arrays", "fill", "([II)V"⟩
abbrev wsArrays_fillI : List Cond := Cond.code yArrays_fillI cArrays_fillI 4 none :: om_W
abbrev cArrays_fillJ : ByteArray := prog_20_method_101_code
abbrev yArrays_fillJ : MethodName := ⟨"java/util/Arrays", "fill", "([JJ)V"⟩
abbrev wsArrays_fillJ : List Cond := Cond.code yArrays_fillJ cArrays_fillJ 5 none :: om_W
theorem dArrays_fillI_0 : decode cArrays_fillI 0 = .ok (.iconst 0, 1) := by decide +kernel
theorem dArrays_fillI_1 : decode cArrays_fillI 1 = .ok (.istore_n 2, 1) := by decide +kernel
theorem dArrays_fillI_2 : decode cArrays_fillI 2 = .ok (.aload_n 0, 1) := by decide +kernel
theorem dArrays_fillI_3 : decode cArrays_fillI 3 = .ok (.arraylength, 1) := by decide +kernel
theorem dArrays_fillI_4 : decode cArrays_fillI 4 = .ok (.istore_n 3, 1) := by decide +kernel
theorem dArrays_fillI_5 : decode cArrays_fillI 5 = .ok (.iload_n 2, 1) := by decide +kernel
theorem dArrays_fillI_6 : decode cArrays_fillI 6 = .ok (.iload_n 3, 1) := by decide +kernel
theorem dArrays_fillI_7 : decode cArrays_fillI 7 = .ok (.if_icmp .ge 13, 3) := by decide +kernel
theorem dArrays_fillI_10 : decode cArrays_fillI 10 = .ok (.aload_n 0, 1) := by decide +kernel
theorem dArrays_fillI_11 : decode cArrays_fillI 11 = .ok (.iload_n 2, 1) := by decide +kernel
theorem dArrays_fillI_12 : decode cArrays_fillI 12 = .ok (.iload_n 1, 1) := by decide +kernel
theorem dArrays_fillI_13 : decode cArrays_fillI 13 = .ok (.iastore, 1) := by decide +kernel
theorem dArrays_fillI_14 : decode cArrays_fillI 14 = .ok (.iinc 2 1, 3) := by decide +kernel
theorem dArrays_fillI_17 : decode cArrays_fillI 17 = .ok (.goto (-12), 3) := by decide +kernel
theorem dArrays_fillI_20 : decode cArrays_fillI 20 = .ok (.return_, 1) := by decide +kernel
theorem dArrays_fillJ_0 : decode cArrays_fillJ 0 = .ok (.iconst 0, 1) := by decide +kernel
theorem dArrays_fillJ_1 : decode cArrays_fillJ 1 = .ok (.istore_n 3, 1) := by decide +kernel
theorem dArrays_fillJ_2 : decode cArrays_fillJ 2 = .ok (.aload_n 0, 1) := by decide +kernel
theorem dArrays_fillJ_3 : decode cArrays_fillJ 3 = .ok (.arraylength, 1) := by decide +kernel
theorem dArrays_fillJ_4 : decode cArrays_fillJ 4 = .ok (.istore 4, 2) := by decide +kernel
theorem dArrays_fillJ_6 : decode cArrays_fillJ 6 = .ok (.iload_n 3, 1) := by decide +kernel
theorem dArrays_fillJ_7 : decode cArrays_fillJ 7 = .ok (.iload 4, 2) := by decide +kernel
theorem dArrays_fillJ_9 : decode cArrays_fillJ 9 = .ok (.if_icmp .ge 13, 3) := by decide +kernel
theorem dArrays_fillJ_12 : decode cArrays_fillJ 12 = .ok (.aload_n 0, 1) := by decide +kernel
theorem dArrays_fillJ_13 : decode cArrays_fillJ 13 = .ok (.iload_n 3, 1) := by decide +kernel
theorem dArrays_fillJ_14 : decode cArrays_fillJ 14 = .ok (.lload_n 1, 1) := by decide +kernel
theorem dArrays_fillJ_15 : decode cArrays_fillJ 15 = .ok (.lastore, 1) := by decide +kernel
theorem dArrays_fillJ_16 : decode cArrays_fillJ 16 = .ok (.iinc 3 1, 3) := by decide +kernel
theorem dArrays_fillJ_19 : decode cArrays_fillJ 19 = .ok (.goto (-13), 3) := by decide +kernel
theorem dArrays_fillJ_22 : decode cArrays_fillJ 22 = .ok (.return_, 1) := by decide +kernel
