theorem dX0_init_0 : decode cX0_init 0 = .ok (.aload_n 0, 1) := by decide +kernel
theorem dX0_init_1 : decode cX0_init 1 = .ok (.invokespecial 3, 3) := by decide +kernel
theorem dX0_init_4 : decode cX0_init 4 = .ok (.aload_n 0, 1) := by decide +kernel
theorem dX0_init_5 : decode cX0_init 5 = .ok (.iconst 0, 1) := by decide +kernel
theorem dX0_init_6 : decode cX0_init 6 = .ok (.putfield 9, 3) := by decide +kernel
theorem dX0_init_9 : decode cX0_init 9 = .ok (.aload_n 0, 1) := by decide +kernel
theorem dX0_init_10 : decode cX0_init 10 = .ok (.iconst 0, 1) := by decide +kernel
theorem dX0_init_11 : decode cX0_init 11 = .ok (.putfield 15, 3) := by decide +kernel
theorem dX0_init_14 : decode cX0_init 14 = .ok (.aload_n 0, 1) := by decide +kernel
theorem dX0_init_15 : decode cX0_init 15 = .ok (.iconst 0, 1) := by decide +kernel
theorem dX0_init_16 : decode cX0_init 16 = .ok (.putfield 18, 3) := by decide +kernel
theorem dX0_init_19 : decode cX0_init 19 = .ok (.aload_n 0, 1) := by decide +kernel
theorem dX0_init_20 : decode cX0_init 20 = .ok (.iconst 0, 1) := by decide +kernel
theorem dX0_init_21 : decode cX0_init 21 = .ok (.putfield 21, 3) := by decide +kernel
theorem dX0_init_24 : decode cX0_init 24 = .ok (.aload_n 0, 1) := by decide +kernel
theorem dX0_init_25 : decode cX0_init 25 = .ok (.iconst 0, 1) := by decide +kernel
theorem dX0_init_26 : decode cX0_init 26 = .ok (.putfield 24, 3) := by decide +kernel
theorem dX0_init_29 : decode cX0_init 29 = .ok (.aload_n 0, 1) := by decide +kernel
theorem dX0_init_30 : decode cX0_init 30 = .ok (.iconst 0, 1) := by decide +kernel
theorem dX0_init_31 : decode cX0_init 31 = .ok (.putfield 27, 3) := by decide +kernel
theorem dX0_init_34 : decode cX0_init 34 = .ok (.aload_n 0, 1) := by decide +kernel
theorem dX0_init_35 : decode cX0_init 35 = .ok (.lconst 0, 1) := by decide +kernel
theorem dX0_init_36 : decode cX0_init 36 = .ok (.putfield 30, 3) := by decide +kernel
theorem dX0_init_39 : decode cX0_init 39 = .ok (.aload_n 0, 1) := by decide +kernel
theorem dX0_init_40 : decode cX0_init 40 = .ok (.bipush 6, 2) := by decide +kernel
theorem dX0_init_42 : decode cX0_init 42 = .ok (.newarray .long, 2) := by decide +kernel
theorem dX0_init_44 : decode cX0_init 44 = .ok (.putfield 34, 3) := by decide +kernel
theorem dX0_init_47 : decode cX0_init 47 = .ok (.aload_n 0, 1) := by decide +kernel
theorem dX0_init_48 : decode cX0_init 48 = .ok (.bipush 8, 2) := by decide +kernel
theorem dX0_init_50 : decode cX0_init 50 = .ok (.newarray .long, 2) := by decide +kernel
theorem dX0_init_52 : decode cX0_init 52 = .ok (.putfield 38, 3) := by decide +kernel
theorem dX0_init_55 : decode cX0_init 55 = .ok (.aload_n 0, 1) := by decide +kernel
theorem dX0_init_56 : decode cX0_init 56 = .ok (.bipush 24, 2) := by decide +kernel
theorem dX0_init_58 : decode cX0_init 58 = .ok (.newarray .long, 2) := by decide +kernel
theorem dX0_init_60 : decode cX0_init 60 = .ok (.putfield 41, 3) := by decide +kernel
theorem dX0_init_63 : decode cX0_init 63 = .ok (.aload_n 0, 1) := by decide +kernel
theorem dX0_init_64 : decode cX0_init 64 = .ok (.bipush 6, 2) := by decide +kernel
theorem dX0_init_66 : decode cX0_init 66 = .ok (.newarray .int, 2) := by decide +kernel
theorem dX0_init_68 : decode cX0_init 68 = .ok (.putfield 44, 3) := by decide +kernel
theorem dX0_init_71 : decode cX0_init 71 = .ok (.aload_n 0, 1) := by decide +kernel
theorem dX0_init_72 : decode cX0_init 72 = .ok (.bipush 8, 2) := by decide +kernel
theorem dX0_init_74 : decode cX0_init 74 = .ok (.newarray .int, 2) := by decide +kernel
theorem dX0_init_76 : decode cX0_init 76 = .ok (.putfield 48, 3) := by decide +kernel
theorem dX0_init_79 : decode cX0_init 79 = .ok (.aload_n 0, 1) := by decide +kernel
theorem dX0_init_80 : decode cX0_init 80 = .ok (.bipush 48, 2) := by decide +kernel
theorem dX0_init_82 : decode cX0_init 82 = .ok (.newarray .int, 2) := by decide +kernel
theorem dX0_init_84 : decode cX0_init 84 = .ok (.putfield 51, 3) := by decide +kernel
theorem dX0_init_87 : decode cX0_init 87 = .ok (.aload_n 0, 1) := by decide +kernel
theorem dX0_init_88 : decode cX0_init 88 = .ok (.bipush 8, 2) := by decide +kernel
theorem dX0_init_90 : decode cX0_init 90 = .ok (.newarray .int, 2) := by decide +kernel
theorem dX0_init_92 : decode cX0_init 92 = .ok (.putfield 54, 3) := by decide +kernel
theorem dX0_init_95 : decode cX0_init 95 = .ok (.aload_n 0, 1) := by decide +kernel
theorem dX0_init_96 : decode cX0_init 96 = .ok (.bipush 8, 2) := by decide +kernel
theorem dX0_init_98 : decode cX0_init 98 = .ok (.newarray .int, 2) := by decide +kernel
theorem dX0_init_100 : decode cX0_init 100 = .ok (.putfield 57, 3) := by decide +kernel
theorem dX0_init_103 : decode cX0_init 103 = .ok (.aload_n 0, 1) := by decide +kernel
theorem dX0_init_104 : decode cX0_init 104 = .ok (.bipush 8, 2) := by decide +kernel
theorem dX0_init_106 : decode cX0_init 106 = .ok (.newarray .int, 2) := by decide +kernel
theorem dX0_init_108 : decode cX0_init 108 = .ok (.putfield 60, 3) := by decide +kernel
theorem dX0_init_111 : decode cX0_init 111 = .ok (.aload_n 0, 1) := by decide +kernel
theorem dX0_init_112 : decode cX0_init 112 = .ok (.bipush 24, 2) := by decide +kernel
theorem dX0_init_114 : decode cX0_init 114 = .ok (.newarray .int, 2) := by decide +kernel
theorem dX0_init_116 : decode cX0_init 116 = .ok (.putfield 63, 3) := by decide +kernel
theorem dX0_init_119 : decode cX0_init 119 = .ok (.aload_n 0, 1) := by decide +kernel
theorem dX0_init_120 : decode cX0_init 120 = .ok (.new 66, 3) := by decide +kernel
theorem dX0_init_123 : decode cX0_init 123 = .ok (.dup, 1) := by decide +kernel
theorem dX0_init_124 : decode cX0_init 124 = .ok (.invokespecial 68, 3) := by decide +kernel
theorem dX0_init_127 : decode cX0_init 127 = .ok (.putfield 69, 3) := by decide +kernel
theorem dX0_init_130 : decode cX0_init 130 = .ok (.aload_n 0, 1) := by decide +kernel
theorem dX0_init_131 : decode cX0_init 131 = .ok (.new 73, 3) := by decide +kernel
theorem dX0_init_134 : decode cX0_init 134 = .ok (.dup, 1) := by decide +kernel
theorem dX0_init_135 : decode cX0_init 135 = .ok (.invokespecial 75, 3) := by decide +kernel
theorem dX0_init_138 : decode cX0_init 138 = .ok (.putfield 76, 3) := by decide +kernel
theorem dX0_init_141 : decode cX0_init 141 = .ok (.return_, 1) := by decide +kernel
theorem dX0_clear_0 : decode cX0_clear 0 = .ok (.aload_n 0, 1) := by decide +kernel
theorem dX0_clear_1 : decode cX0_clear 1 = .ok (.iconst 0, 1) := by decide +kernel
theorem dX0_clear_2 : decode cX0_clear 2 = .ok (.putfield 9, 3) := by decide +kernel
theorem dX0_clear_5 : decode cX0_clear 5 = .ok (.aload_n 0, 1) := by decide +kernel
theorem dX0_clear_6 : decode cX0_clear 6 = .ok (.iconst 0, 1) := by decide +kernel
theorem dX0_clear_7 : decode cX0_clear 7 = .ok (.putfield 15, 3) := by decide +kernel
theorem dX0_clear_10 : decode cX0_clear 10 = .ok (.aload_n 0, 1) := by decide +kernel
theorem dX0_clear_11 : decode cX0_clear 11 = .ok (.iconst 0, 1) := by decide +kernel
theorem dX0_clear_12 : decode cX0_clear 12 = .ok (.putfield 18, 3) := by decide +kernel
theorem dX0_clear_15 : decode cX0_clear 15 = .ok (.aload_n 0, 1) := by decide +kernel
theorem dX0_clear_16 : decode cX0_clear 16 = .ok (.iconst 0, 1) := by decide +kernel
theorem dX0_clear_17 : decode cX0_clear 17 = .ok (.putfield 21, 3) := by decide +kernel
theorem dX0_clear_20 : decode cX0_clear 20 = .ok (.aload_n 0, 1) := by decide +kernel
theorem dX0_clear_21 : decode cX0_clear 21 = .ok (.iconst 0, 1) := by decide +kernel
theorem dX0_clear_22 : decode cX0_clear 22 = .ok (.putfield 24, 3) := by decide +kernel
theorem dX0_clear_25 : decode cX0_clear 25 = .ok (.aload_n 0, 1) := by decide +kernel
theorem dX0_clear_26 : decode cX0_clear 26 = .ok (.iconst 0, 1) := by decide +kernel
theorem dX0_clear_27 : decode cX0_clear 27 = .ok (.putfield 27, 3) := by decide +kernel
theorem dX0_clear_30 : decode cX0_clear 30 = .ok (.aload_n 0, 1) := by decide +kernel
theorem dX0_clear_31 : decode cX0_clear 31 = .ok (.lconst 0, 1) := by decide +kernel
theorem dX0_clear_32 : decode cX0_clear 32 = .ok (.putfield 30, 3) := by decide +kernel
theorem dX0_clear_35 : decode cX0_clear 35 = .ok (.return_, 1) := by decide +kernel
theorem dX0_addVar_0 : decode cX0_addVar 0 = .ok (.aload_n 0, 1) := by decide +kernel
theorem dX0_addVar_1 : decode cX0_addVar 1 = .ok (.getfield 34, 3) := by decide +kernel
theorem dX0_addVar_4 : decode cX0_addVar 4 = .ok (.aload_n 0, 1) := by decide +kernel
theorem dX0_addVar_5 : decode cX0_addVar 5 = .ok (.getfield 18, 3) := by decide +kernel
theorem dX0_addVar_8 : decode cX0_addVar 8 = .ok (.lload_n 1, 1) := by decide +kernel
theorem dX0_addVar_9 : decode cX0_addVar 9 = .ok (.lastore, 1) := by decide +kernel
theorem dX0_addVar_10 : decode cX0_addVar 10 = .ok (.aload_n 0, 1) := by decide +kernel
theorem dX0_addVar_11 : decode cX0_addVar 11 = .ok (.getfield 44, 3) := by decide +kernel
theorem dX0_addVar_14 : decode cX0_addVar 14 = .ok (.aload_n 0, 1) := by decide +kernel
theorem dX0_addVar_15 : decode cX0_addVar 15 = .ok (.getfield 18, 3) := by decide +kernel
theorem dX0_addVar_18 : decode cX0_addVar 18 = .ok (.iload_n 3, 1) := by decide +kernel
theorem dX0_addVar_19 : decode cX0_addVar 19 = .ok (.iastore, 1) := by decide +kernel
theorem dX0_addVar_20 : decode cX0_addVar 20 = .ok (.iload 4, 2) := by decide +kernel
theorem dX0_addVar_22 : decode cX0_addVar 22 = .ok (.ifCond .eq 30, 3) := by decide +kernel
theorem dX0_addVar_25 : decode cX0_addVar 25 = .ok (.aload_n 0, 1) := by decide +kernel
theorem dX0_addVar_26 : decode cX0_addVar 26 = .ok (.dup, 1) := by decide +kernel
theorem dX0_addVar_27 : decode cX0_addVar 27 = .ok (.getfield 21, 3) := by decide +kernel
theorem dX0_addVar_30 : decode cX0_addVar 30 = .ok (.iconst 1, 1) := by decide +kernel
theorem dX0_addVar_31 : decode cX0_addVar 31 = .ok (.iadd, 1) := by decide +kernel
theorem dX0_addVar_32 : decode cX0_addVar 32 = .ok (.putfield 21, 3) := by decide +kernel
theorem dX0_addVar_35 : decode cX0_addVar 35 = .ok (.aload_n 0, 1) := by decide +kernel
theorem dX0_addVar_36 : decode cX0_addVar 36 = .ok (.aload_n 0, 1) := by decide +kernel
theorem dX0_addVar_37 : decode cX0_addVar 37 = .ok (.getfield 30, 3) := by decide +kernel
theorem dX0_addVar_40 : decode cX0_addVar 40 = .ok (.aload_n 0, 1) := by decide +kernel
theorem dX0_addVar_41 : decode cX0_addVar 41 = .ok (.getfield 18, 3) := by decide +kernel
theorem dX0_addVar_44 : decode cX0_addVar 44 = .ok (.bipush 15, 2) := by decide +kernel
theorem dX0_addVar_46 : decode cX0_addVar 46 = .ok (.invokestatic 80, 3) := by decide +kernel
theorem dX0_addVar_49 : decode cX0_addVar 49 = .ok (.putfield 30, 3) := by decide +kernel
theorem dX0_addVar_52 : decode cX0_addVar 52 = .ok (.aload_n 0, 1) := by decide +kernel
theorem dX0_addVar_53 : decode cX0_addVar 53 = .ok (.dup, 1) := by decide +kernel
theorem dX0_addVar_54 : decode cX0_addVar 54 = .ok (.getfield 18, 3) := by decide +kernel
theorem dX0_addVar_57 : decode cX0_addVar 57 = .ok (.iconst 1, 1) := by decide +kernel
theorem dX0_addVar_58 : decode cX0_addVar 58 = .ok (.iadd, 1) := by decide +kernel
theorem dX0_addVar_59 : decode cX0_addVar 59 = .ok (.putfield 18, 3) := by decide +kernel
theorem dX0_addVar_62 : decode cX0_addVar 62 = .ok (.return_, 1) := by decide +kernel
theorem dX0_addWindow_0 : decode cX0_addWindow 0 = .ok (.aload_n 0, 1) := by decide +kernel
theorem dX0_addWindow_1 : decode cX0_addWindow 1 = .ok (.getfield 38, 3) := by decide +kernel
theorem dX0_addWindow_4 : decode cX0_addWindow 4 = .ok (.aload_n 0, 1) := by decide +kernel
theorem dX0_addWindow_5 : decode cX0_addWindow 5 = .ok (.getfield 9, 3) := by decide +kernel
theorem dX0_addWindow_8 : decode cX0_addWindow 8 = .ok (.lload_n 1, 1) := by decide +kernel
theorem dX0_addWindow_9 : decode cX0_addWindow 9 = .ok (.lastore, 1) := by decide +kernel
theorem dX0_addWindow_10 : decode cX0_addWindow 10 = .ok (.aload_n 0, 1) := by decide +kernel
theorem dX0_addWindow_11 : decode cX0_addWindow 11 = .ok (.getfield 48, 3) := by decide +kernel
theorem dX0_addWindow_14 : decode cX0_addWindow 14 = .ok (.aload_n 0, 1) := by decide +kernel
theorem dX0_addWindow_15 : decode cX0_addWindow 15 = .ok (.getfield 9, 3) := by decide +kernel
theorem dX0_addWindow_18 : decode cX0_addWindow 18 = .ok (.iconst 0, 1) := by decide +kernel
theorem dX0_addWindow_19 : decode cX0_addWindow 19 = .ok (.iastore, 1) := by decide +kernel
theorem dX0_addWindow_20 : decode cX0_addWindow 20 = .ok (.aload_n 0, 1) := by decide +kernel
theorem dX0_addWindow_21 : decode cX0_addWindow 21 = .ok (.getfield 54, 3) := by decide +kernel
theorem dX0_addWindow_24 : decode cX0_addWindow 24 = .ok (.aload_n 0, 1) := by decide +kernel
theorem dX0_addWindow_25 : decode cX0_addWindow 25 = .ok (.getfield 9, 3) := by decide +kernel
theorem dX0_addWindow_28 : decode cX0_addWindow 28 = .ok (.iconst 0, 1) := by decide +kernel
theorem dX0_addWindow_29 : decode cX0_addWindow 29 = .ok (.iastore, 1) := by decide +kernel
theorem dX0_addWindow_30 : decode cX0_addWindow 30 = .ok (.aload_n 0, 1) := by decide +kernel
theorem dX0_addWindow_31 : decode cX0_addWindow 31 = .ok (.getfield 76, 3) := by decide +kernel
theorem dX0_addWindow_34 : decode cX0_addWindow 34 = .ok (.getfield 86, 3) := by decide +kernel
theorem dX0_addWindow_37 : decode cX0_addWindow 37 = .ok (.aload_n 0, 1) := by decide +kernel
theorem dX0_addWindow_38 : decode cX0_addWindow 38 = .ok (.getfield 9, 3) := by decide +kernel
theorem dX0_addWindow_41 : decode cX0_addWindow 41 = .ok (.invokestatic 89, 3) := by decide +kernel
theorem dX0_addWindow_44 : decode cX0_addWindow 44 = .ok (.iconst 0, 1) := by decide +kernel
theorem dX0_addWindow_45 : decode cX0_addWindow 45 = .ok (.iastore, 1) := by decide +kernel
theorem dX0_addWindow_46 : decode cX0_addWindow 46 = .ok (.aload_n 0, 1) := by decide +kernel
theorem dX0_addWindow_47 : decode cX0_addWindow 47 = .ok (.getfield 57, 3) := by decide +kernel
theorem dX0_addWindow_50 : decode cX0_addWindow 50 = .ok (.aload_n 0, 1) := by decide +kernel
theorem dX0_addWindow_51 : decode cX0_addWindow 51 = .ok (.getfield 9, 3) := by decide +kernel
theorem dX0_addWindow_54 : decode cX0_addWindow 54 = .ok (.aload_n 0, 1) := by decide +kernel
theorem dX0_addWindow_55 : decode cX0_addWindow 55 = .ok (.getfield 15, 3) := by decide +kernel
theorem dX0_addWindow_58 : decode cX0_addWindow 58 = .ok (.iastore, 1) := by decide +kernel
theorem dX0_addWindow_59 : decode cX0_addWindow 59 = .ok (.aload_n 0, 1) := by decide +kernel
theorem dX0_addWindow_60 : decode cX0_addWindow 60 = .ok (.getfield 60, 3) := by decide +kernel
theorem dX0_addWindow_63 : decode cX0_addWindow 63 = .ok (.aload_n 0, 1) := by decide +kernel
theorem dX0_addWindow_64 : decode cX0_addWindow 64 = .ok (.getfield 9, 3) := by decide +kernel
theorem dX0_addWindow_67 : decode cX0_addWindow 67 = .ok (.aload_n 0, 1) := by decide +kernel
theorem dX0_addWindow_68 : decode cX0_addWindow 68 = .ok (.getfield 15, 3) := by decide +kernel
theorem dX0_addWindow_71 : decode cX0_addWindow 71 = .ok (.iastore, 1) := by decide +kernel
theorem dX0_addWindow_72 : decode cX0_addWindow 72 = .ok (.aload_n 0, 1) := by decide +kernel
theorem dX0_addWindow_73 : decode cX0_addWindow 73 = .ok (.dup, 1) := by decide +kernel
theorem dX0_addWindow_74 : decode cX0_addWindow 74 = .ok (.getfield 9, 3) := by decide +kernel
theorem dX0_addWindow_77 : decode cX0_addWindow 77 = .ok (.iconst 1, 1) := by decide +kernel
theorem dX0_addWindow_78 : decode cX0_addWindow 78 = .ok (.iadd, 1) := by decide +kernel
theorem dX0_addWindow_79 : decode cX0_addWindow 79 = .ok (.putfield 9, 3) := by decide +kernel
theorem dX0_addWindow_82 : decode cX0_addWindow 82 = .ok (.return_, 1) := by decide +kernel
theorem dX0_addShow_0 : decode cX0_addShow 0 = .ok (.aload_n 0, 1) := by decide +kernel
theorem dX0_addShow_1 : decode cX0_addShow 1 = .ok (.getfield 51, 3) := by decide +kernel
theorem dX0_addShow_4 : decode cX0_addShow 4 = .ok (.iload_n 1, 1) := by decide +kernel
theorem dX0_addShow_5 : decode cX0_addShow 5 = .ok (.bipush 6, 2) := by decide +kernel
theorem dX0_addShow_7 : decode cX0_addShow 7 = .ok (.imul, 1) := by decide +kernel
theorem dX0_addShow_8 : decode cX0_addShow 8 = .ok (.aload_n 0, 1) := by decide +kernel
theorem dX0_addShow_9 : decode cX0_addShow 9 = .ok (.getfield 48, 3) := by decide +kernel
theorem dX0_addShow_12 : decode cX0_addShow 12 = .ok (.iload_n 1, 1) := by decide +kernel
theorem dX0_addShow_13 : decode cX0_addShow 13 = .ok (.iaload, 1) := by decide +kernel
theorem dX0_addShow_14 : decode cX0_addShow 14 = .ok (.iadd, 1) := by decide +kernel
theorem dX0_addShow_15 : decode cX0_addShow 15 = .ok (.iload_n 2, 1) := by decide +kernel
theorem dX0_addShow_16 : decode cX0_addShow 16 = .ok (.iastore, 1) := by decide +kernel
theorem dX0_addShow_17 : decode cX0_addShow 17 = .ok (.aload_n 0, 1) := by decide +kernel
theorem dX0_addShow_18 : decode cX0_addShow 18 = .ok (.getfield 48, 3) := by decide +kernel
theorem dX0_addShow_21 : decode cX0_addShow 21 = .ok (.iload_n 1, 1) := by decide +kernel
theorem dX0_addShow_22 : decode cX0_addShow 22 = .ok (.dup2, 1) := by decide +kernel
theorem dX0_addShow_23 : decode cX0_addShow 23 = .ok (.iaload, 1) := by decide +kernel
theorem dX0_addShow_24 : decode cX0_addShow 24 = .ok (.iconst 1, 1) := by decide +kernel
theorem dX0_addShow_25 : decode cX0_addShow 25 = .ok (.iadd, 1) := by decide +kernel
theorem dX0_addShow_26 : decode cX0_addShow 26 = .ok (.iastore, 1) := by decide +kernel
theorem dX0_addShow_27 : decode cX0_addShow 27 = .ok (.aload_n 0, 1) := by decide +kernel
theorem dX0_addShow_28 : decode cX0_addShow 28 = .ok (.dup, 1) := by decide +kernel
theorem dX0_addShow_29 : decode cX0_addShow 29 = .ok (.getfield 24, 3) := by decide +kernel
theorem dX0_addShow_32 : decode cX0_addShow 32 = .ok (.iconst 1, 1) := by decide +kernel
theorem dX0_addShow_33 : decode cX0_addShow 33 = .ok (.iadd, 1) := by decide +kernel
theorem dX0_addShow_34 : decode cX0_addShow 34 = .ok (.putfield 24, 3) := by decide +kernel
theorem dX0_addShow_37 : decode cX0_addShow 37 = .ok (.return_, 1) := by decide +kernel
theorem dX0_addButton_0 : decode cX0_addButton 0 = .ok (.aload_n 0, 1) := by decide +kernel
theorem dX0_addButton_1 : decode cX0_addButton 1 = .ok (.getfield 41, 3) := by decide +kernel
theorem dX0_addButton_4 : decode cX0_addButton 4 = .ok (.aload_n 0, 1) := by decide +kernel
theorem dX0_addButton_5 : decode cX0_addButton 5 = .ok (.getfield 15, 3) := by decide +kernel
theorem dX0_addButton_8 : decode cX0_addButton 8 = .ok (.lload_n 2, 1) := by decide +kernel
theorem dX0_addButton_9 : decode cX0_addButton 9 = .ok (.lastore, 1) := by decide +kernel
theorem dX0_addButton_10 : decode cX0_addButton 10 = .ok (.aload_n 0, 1) := by decide +kernel
theorem dX0_addButton_11 : decode cX0_addButton 11 = .ok (.getfield 63, 3) := by decide +kernel
theorem dX0_addButton_14 : decode cX0_addButton 14 = .ok (.aload_n 0, 1) := by decide +kernel
theorem dX0_addButton_15 : decode cX0_addButton 15 = .ok (.getfield 15, 3) := by decide +kernel
theorem dX0_addButton_18 : decode cX0_addButton 18 = .ok (.iload_n 1, 1) := by decide +kernel
theorem dX0_addButton_19 : decode cX0_addButton 19 = .ok (.iastore, 1) := by decide +kernel
theorem dX0_addButton_20 : decode cX0_addButton 20 = .ok (.aload_n 0, 1) := by decide +kernel
theorem dX0_addButton_21 : decode cX0_addButton 21 = .ok (.getfield 69, 3) := by decide +kernel
theorem dX0_addButton_24 : decode cX0_addButton 24 = .ok (.getfield 93, 3) := by decide +kernel
theorem dX0_addButton_27 : decode cX0_addButton 27 = .ok (.aload_n 0, 1) := by decide +kernel
theorem dX0_addButton_28 : decode cX0_addButton 28 = .ok (.getfield 15, 3) := by decide +kernel
theorem dX0_addButton_31 : decode cX0_addButton 31 = .ok (.iconst 0, 1) := by decide +kernel
theorem dX0_addButton_32 : decode cX0_addButton 32 = .ok (.iastore, 1) := by decide +kernel
theorem dX0_addButton_33 : decode cX0_addButton 33 = .ok (.aload_n 0, 1) := by decide +kernel
theorem dX0_addButton_34 : decode cX0_addButton 34 = .ok (.getfield 76, 3) := by decide +kernel
theorem dX0_addButton_37 : decode cX0_addButton 37 = .ok (.getfield 86, 3) := by decide +kernel
theorem dX0_addButton_40 : decode cX0_addButton 40 = .ok (.aload_n 0, 1) := by decide +kernel
theorem dX0_addButton_41 : decode cX0_addButton 41 = .ok (.getfield 15, 3) := by decide +kernel
theorem dX0_addButton_44 : decode cX0_addButton 44 = .ok (.iconst 0, 1) := by decide +kernel
theorem dX0_addButton_45 : decode cX0_addButton 45 = .ok (.iastore, 1) := by decide +kernel
theorem dX0_addButton_46 : decode cX0_addButton 46 = .ok (.aload_n 0, 1) := by decide +kernel
theorem dX0_addButton_47 : decode cX0_addButton 47 = .ok (.dup, 1) := by decide +kernel
theorem dX0_addButton_48 : decode cX0_addButton 48 = .ok (.getfield 15, 3) := by decide +kernel
theorem dX0_addButton_51 : decode cX0_addButton 51 = .ok (.iconst 1, 1) := by decide +kernel
theorem dX0_addButton_52 : decode cX0_addButton 52 = .ok (.iadd, 1) := by decide +kernel
theorem dX0_addButton_53 : decode cX0_addButton 53 = .ok (.putfield 15, 3) := by decide +kernel
theorem dX0_addButton_56 : decode cX0_addButton 56 = .ok (.aload_n 0, 1) := by decide +kernel
theorem dX0_addButton_57 : decode cX0_addButton 57 = .ok (.getfield 60, 3) := by decide +kernel
theorem dX0_addButton_60 : decode cX0_addButton 60 = .ok (.iload_n 1, 1) := by decide +kernel
theorem dX0_addButton_61 : decode cX0_addButton 61 = .ok (.aload_n 0, 1) := by decide +kernel
theorem dX0_addButton_62 : decode cX0_addButton 62 = .ok (.getfield 15, 3) := by decide +kernel
theorem dX0_addButton_65 : decode cX0_addButton 65 = .ok (.iastore, 1) := by decide +kernel
theorem dX0_addButton_66 : decode cX0_addButton 66 = .ok (.return_, 1) := by decide +kernel
theorem dX0_addTimer_0 : decode cX0_addTimer 0 = .ok (.aload_n 0, 1) := by decide +kernel
theorem dX0_addTimer_1 : decode cX0_addTimer 1 = .ok (.getfield 54, 3) := by decide +kernel
theorem dX0_addTimer_4 : decode cX0_addTimer 4 = .ok (.iload_n 1, 1) := by decide +kernel
theorem dX0_addTimer_5 : decode cX0_addTimer 5 = .ok (.iload_n 2, 1) := by decide +kernel
theorem dX0_addTimer_6 : decode cX0_addTimer 6 = .ok (.iastore, 1) := by decide +kernel
theorem dX0_addTimer_7 : decode cX0_addTimer 7 = .ok (.aload_n 0, 1) := by decide +kernel
theorem dX0_addTimer_8 : decode cX0_addTimer 8 = .ok (.dup, 1) := by decide +kernel
theorem dX0_addTimer_9 : decode cX0_addTimer 9 = .ok (.getfield 27, 3) := by decide +kernel
theorem dX0_addTimer_12 : decode cX0_addTimer 12 = .ok (.iconst 1, 1) := by decide +kernel
theorem dX0_addTimer_13 : decode cX0_addTimer 13 = .ok (.iadd, 1) := by decide +kernel
theorem dX0_addTimer_14 : decode cX0_addTimer 14 = .ok (.putfield 27, 3) := by decide +kernel
theorem dX0_addTimer_17 : decode cX0_addTimer 17 = .ok (.return_, 1) := by decide +kernel
theorem dX0_varNamed_0 : decode cX0_varNamed 0 = .ok (.lload_n 1, 1) := by decide +kernel
theorem dX0_varNamed_1 : decode cX0_varNamed 1 = .ok (.aload_n 0, 1) := by decide +kernel
theorem dX0_varNamed_2 : decode cX0_varNamed 2 = .ok (.getfield 34, 3) := by decide +kernel
theorem dX0_varNamed_5 : decode cX0_varNamed 5 = .ok (.iconst 0, 1) := by decide +kernel
theorem dX0_varNamed_6 : decode cX0_varNamed 6 = .ok (.aload_n 0, 1) := by decide +kernel
theorem dX0_varNamed_7 : decode cX0_varNamed 7 = .ok (.getfield 18, 3) := by decide +kernel
theorem dX0_varNamed_10 : decode cX0_varNamed 10 = .ok (.invokestatic 94, 3) := by decide +kernel
theorem dX0_varNamed_13 : decode cX0_varNamed 13 = .ok (.ireturn, 1) := by decide +kernel
theorem dX0_windowNamed_0 : decode cX0_windowNamed 0 = .ok (.lload_n 1, 1) := by decide +kernel
theorem dX0_windowNamed_1 : decode cX0_windowNamed 1 = .ok (.aload_n 0, 1) := by decide +kernel
theorem dX0_windowNamed_2 : decode cX0_windowNamed 2 = .ok (.getfield 38, 3) := by decide +kernel
theorem dX0_windowNamed_5 : decode cX0_windowNamed 5 = .ok (.iconst 0, 1) := by decide +kernel
theorem dX0_windowNamed_6 : decode cX0_windowNamed 6 = .ok (.aload_n 0, 1) := by decide +kernel
theorem dX0_windowNamed_7 : decode cX0_windowNamed 7 = .ok (.getfield 9, 3) := by decide +kernel
theorem dX0_windowNamed_10 : decode cX0_windowNamed 10 = .ok (.invokestatic 94, 3) := by decide +kernel
theorem dX0_windowNamed_13 : decode cX0_windowNamed 13 = .ok (.ireturn, 1) := by decide +kernel
theorem dX0_buttonNamed_0 : decode cX0_buttonNamed 0 = .ok (.lload_n 2, 1) := by decide +kernel
theorem dX0_buttonNamed_1 : decode cX0_buttonNamed 1 = .ok (.aload_n 0, 1) := by decide +kernel
theorem dX0_buttonNamed_2 : decode cX0_buttonNamed 2 = .ok (.getfield 41, 3) := by decide +kernel
theorem dX0_buttonNamed_5 : decode cX0_buttonNamed 5 = .ok (.aload_n 0, 1) := by decide +kernel
theorem dX0_buttonNamed_6 : decode cX0_buttonNamed 6 = .ok (.getfield 57, 3) := by decide +kernel
theorem dX0_buttonNamed_9 : decode cX0_buttonNamed 9 = .ok (.iload_n 1, 1) := by decide +kernel
theorem dX0_buttonNamed_10 : decode cX0_buttonNamed 10 = .ok (.iaload, 1) := by decide +kernel
theorem dX0_buttonNamed_11 : decode cX0_buttonNamed 11 = .ok (.aload_n 0, 1) := by decide +kernel
theorem dX0_buttonNamed_12 : decode cX0_buttonNamed 12 = .ok (.getfield 60, 3) := by decide +kernel
theorem dX0_buttonNamed_15 : decode cX0_buttonNamed 15 = .ok (.iload_n 1, 1) := by decide +kernel
theorem dX0_buttonNamed_16 : decode cX0_buttonNamed 16 = .ok (.iaload, 1) := by decide +kernel
theorem dX0_buttonNamed_17 : decode cX0_buttonNamed 17 = .ok (.invokestatic 94, 3) := by decide +kernel
theorem dX0_buttonNamed_20 : decode cX0_buttonNamed 20 = .ok (.ireturn, 1) := by decide +kernel
theorem dX0_placeOf_0 : decode cX0_placeOf 0 = .ok (.iload_n 3, 1) := by decide +kernel
theorem dX0_placeOf_1 : decode cX0_placeOf 1 = .ok (.istore 5, 2) := by decide +kernel
theorem dX0_placeOf_3 : decode cX0_placeOf 3 = .ok (.iload 5, 2) := by decide +kernel
theorem dX0_placeOf_5 : decode cX0_placeOf 5 = .ok (.iload 4, 2) := by decide +kernel
theorem dX0_placeOf_7 : decode cX0_placeOf 7 = .ok (.if_icmp .ge 21, 3) := by decide +kernel
theorem dX0_placeOf_10 : decode cX0_placeOf 10 = .ok (.aload_n 2, 1) := by decide +kernel
theorem dX0_placeOf_11 : decode cX0_placeOf 11 = .ok (.iload 5, 2) := by decide +kernel
theorem dX0_placeOf_13 : decode cX0_placeOf 13 = .ok (.laload, 1) := by decide +kernel
theorem dX0_placeOf_14 : decode cX0_placeOf 14 = .ok (.lload_n 0, 1) := by decide +kernel
theorem dX0_placeOf_15 : decode cX0_placeOf 15 = .ok (.lcmp, 1) := by decide +kernel
theorem dX0_placeOf_16 : decode cX0_placeOf 16 = .ok (.ifCond .ne 6, 3) := by decide +kernel
theorem dX0_placeOf_19 : decode cX0_placeOf 19 = .ok (.iload 5, 2) := by decide +kernel
theorem dX0_placeOf_21 : decode cX0_placeOf 21 = .ok (.ireturn, 1) := by decide +kernel
theorem dX0_placeOf_22 : decode cX0_placeOf 22 = .ok (.iinc 5 1, 3) := by decide +kernel
theorem dX0_placeOf_25 : decode cX0_placeOf 25 = .ok (.goto (-22), 3) := by decide +kernel
theorem dX0_placeOf_28 : decode cX0_placeOf 28 = .ok (.iconst (-1), 1) := by decide +kernel
theorem dX0_placeOf_29 : decode cX0_placeOf 29 = .ok (.ireturn, 1) := by decide +kernel
theorem dX0_beginning_0 : decode cX0_beginning 0 = .ok (.iconst 0, 1) := by decide +kernel
theorem dX0_beginning_1 : decode cX0_beginning 1 = .ok (.lconst 0, 1) := by decide +kernel
theorem dX0_beginning_2 : decode cX0_beginning 2 = .ok (.invokestatic 98, 3) := by decide +kernel
theorem dX0_beginning_5 : decode cX0_beginning 5 = .ok (.lreturn, 1) := by decide +kernel
theorem dX0_possible_0 : decode cX0_possible 0 = .ok (.iload_n 3, 1) := by decide +kernel
theorem dX0_possible_1 : decode cX0_possible 1 = .ok (.bipush 26, 2) := by decide +kernel
theorem dX0_possible_3 : decode cX0_possible 3 = .ok (.if_icmp .ne 5, 3) := by decide +kernel
theorem dX0_possible_6 : decode cX0_possible 6 = .ok (.iconst 1, 1) := by decide +kernel
theorem dX0_possible_7 : decode cX0_possible 7 = .ok (.ireturn, 1) := by decide +kernel
theorem dX0_possible_8 : decode cX0_possible 8 = .ok (.lload_n 1, 1) := by decide +kernel
theorem dX0_possible_9 : decode cX0_possible 9 = .ok (.invokestatic 102, 3) := by decide +kernel
theorem dX0_possible_12 : decode cX0_possible 12 = .ok (.istore 4, 2) := by decide +kernel
theorem dX0_possible_14 : decode cX0_possible 14 = .ok (.iload 4, 2) := by decide +kernel
theorem dX0_possible_16 : decode cX0_possible 16 = .ok (.iconst (-1), 1) := by decide +kernel
theorem dX0_possible_17 : decode cX0_possible 17 = .ok (.if_icmp .ne 5, 3) := by decide +kernel
theorem dX0_possible_20 : decode cX0_possible 20 = .ok (.iconst 0, 1) := by decide +kernel
theorem dX0_possible_21 : decode cX0_possible 21 = .ok (.ireturn, 1) := by decide +kernel
theorem dX0_possible_22 : decode cX0_possible 22 = .ok (.iload_n 3, 1) := by decide +kernel
theorem dX0_possible_23 : decode cX0_possible 23 = .ok (.bipush 24, 2) := by decide +kernel
theorem dX0_possible_25 : decode cX0_possible 25 = .ok (.if_icmp .ne 5, 3) := by decide +kernel
theorem dX0_possible_28 : decode cX0_possible 28 = .ok (.iconst 1, 1) := by decide +kernel
theorem dX0_possible_29 : decode cX0_possible 29 = .ok (.ireturn, 1) := by decide +kernel
theorem dX0_possible_30 : decode cX0_possible 30 = .ok (.iload_n 3, 1) := by decide +kernel
theorem dX0_possible_31 : decode cX0_possible 31 = .ok (.bipush 25, 2) := by decide +kernel
theorem dX0_possible_33 : decode cX0_possible 33 = .ok (.if_icmp .ne 17, 3) := by decide +kernel
theorem dX0_possible_36 : decode cX0_possible 36 = .ok (.lload_n 1, 1) := by decide +kernel
theorem dX0_possible_37 : decode cX0_possible 37 = .ok (.invokestatic 106, 3) := by decide +kernel
theorem dX0_possible_40 : decode cX0_possible 40 = .ok (.iconst 1, 1) := by decide +kernel
theorem dX0_possible_41 : decode cX0_possible 41 = .ok (.if_icmp .le 7, 3) := by decide +kernel
theorem dX0_possible_44 : decode cX0_possible 44 = .ok (.iconst 1, 1) := by decide +kernel
theorem dX0_possible_45 : decode cX0_possible 45 = .ok (.goto 4, 3) := by decide +kernel
theorem dX0_possible_48 : decode cX0_possible 48 = .ok (.iconst 0, 1) := by decide +kernel
theorem dX0_possible_49 : decode cX0_possible 49 = .ok (.ireturn, 1) := by decide +kernel
theorem dX0_possible_50 : decode cX0_possible 50 = .ok (.iload_n 3, 1) := by decide +kernel
theorem dX0_possible_51 : decode cX0_possible 51 = .ok (.aload_n 0, 1) := by decide +kernel
theorem dX0_possible_52 : decode cX0_possible 52 = .ok (.getfield 57, 3) := by decide +kernel
theorem dX0_possible_55 : decode cX0_possible 55 = .ok (.iload 4, 2) := by decide +kernel
theorem dX0_possible_57 : decode cX0_possible 57 = .ok (.iaload, 1) := by decide +kernel
theorem dX0_possible_58 : decode cX0_possible 58 = .ok (.if_icmp .lt 30, 3) := by decide +kernel
theorem dX0_possible_61 : decode cX0_possible 61 = .ok (.iload_n 3, 1) := by decide +kernel
theorem dX0_possible_62 : decode cX0_possible 62 = .ok (.aload_n 0, 1) := by decide +kernel
theorem dX0_possible_63 : decode cX0_possible 63 = .ok (.getfield 60, 3) := by decide +kernel
theorem dX0_possible_66 : decode cX0_possible 66 = .ok (.iload 4, 2) := by decide +kernel
theorem dX0_possible_68 : decode cX0_possible 68 = .ok (.iaload, 1) := by decide +kernel
theorem dX0_possible_69 : decode cX0_possible 69 = .ok (.if_icmp .ge 19, 3) := by decide +kernel
theorem dX0_possible_72 : decode cX0_possible 72 = .ok (.aload_n 0, 1) := by decide +kernel
theorem dX0_possible_73 : decode cX0_possible 73 = .ok (.getfield 69, 3) := by decide +kernel
theorem dX0_possible_76 : decode cX0_possible 76 = .ok (.iload_n 3, 1) := by decide +kernel
theorem dX0_possible_77 : decode cX0_possible 77 = .ok (.lload_n 1, 1) := by decide +kernel
theorem dX0_possible_78 : decode cX0_possible 78 = .ok (.invokevirtual 109, 3) := by decide +kernel
theorem dX0_possible_81 : decode cX0_possible 81 = .ok (.ifCond .eq 7, 3) := by decide +kernel
theorem dX0_possible_84 : decode cX0_possible 84 = .ok (.iconst 1, 1) := by decide +kernel
theorem dX0_possible_85 : decode cX0_possible 85 = .ok (.goto 4, 3) := by decide +kernel
theorem dX0_possible_88 : decode cX0_possible 88 = .ok (.iconst 0, 1) := by decide +kernel
theorem dX0_possible_89 : decode cX0_possible 89 = .ok (.ireturn, 1) := by decide +kernel
theorem dX0_possibleMany_0 : decode cX0_possibleMany 0 = .ok (.iconst 0, 1) := by decide +kernel
theorem dX0_possibleMany_1 : decode cX0_possibleMany 1 = .ok (.istore_n 3, 1) := by decide +kernel
theorem dX0_possibleMany_2 : decode cX0_possibleMany 2 = .ok (.iconst 0, 1) := by decide +kernel
theorem dX0_possibleMany_3 : decode cX0_possibleMany 3 = .ok (.istore 4, 2) := by decide +kernel
theorem dX0_possibleMany_5 : decode cX0_possibleMany 5 = .ok (.iload 4, 2) := by decide +kernel
theorem dX0_possibleMany_7 : decode cX0_possibleMany 7 = .ok (.bipush 27, 2) := by decide +kernel
theorem dX0_possibleMany_9 : decode cX0_possibleMany 9 = .ok (.if_icmp .ge 22, 3) := by decide +kernel
theorem dX0_possibleMany_12 : decode cX0_possibleMany 12 = .ok (.aload_n 0, 1) := by decide +kernel
theorem dX0_possibleMany_13 : decode cX0_possibleMany 13 = .ok (.lload_n 1, 1) := by decide +kernel
theorem dX0_possibleMany_14 : decode cX0_possibleMany 14 = .ok (.iload 4, 2) := by decide +kernel
theorem dX0_possibleMany_16 : decode cX0_possibleMany 16 = .ok (.invokevirtual 113, 3) := by decide +kernel
theorem dX0_possibleMany_19 : decode cX0_possibleMany 19 = .ok (.ifCond .eq 6, 3) := by decide +kernel
theorem dX0_possibleMany_22 : decode cX0_possibleMany 22 = .ok (.iinc 3 1, 3) := by decide +kernel
theorem dX0_possibleMany_25 : decode cX0_possibleMany 25 = .ok (.iinc 4 1, 3) := by decide +kernel
theorem dX0_possibleMany_28 : decode cX0_possibleMany 28 = .ok (.goto (-23), 3) := by decide +kernel
theorem dX0_possibleMany_31 : decode cX0_possibleMany 31 = .ok (.iload_n 3, 1) := by decide +kernel
theorem dX0_possibleMany_32 : decode cX0_possibleMany 32 = .ok (.ireturn, 1) := by decide +kernel
theorem dX0_after_0 : decode cX0_after 0 = .ok (.iload_n 3, 1) := by decide +kernel
theorem dX0_after_1 : decode cX0_after 1 = .ok (.bipush 26, 2) := by decide +kernel
theorem dX0_after_3 : decode cX0_after 3 = .ok (.if_icmp .ne 14, 3) := by decide +kernel
theorem dX0_after_6 : decode cX0_after 6 = .ok (.iconst 0, 1) := by decide +kernel
theorem dX0_after_7 : decode cX0_after 7 = .ok (.lload_n 1, 1) := by decide +kernel
theorem dX0_after_8 : decode cX0_after 8 = .ok (.aload_n 0, 1) := by decide +kernel
theorem dX0_after_9 : decode cX0_after 9 = .ok (.getfield 30, 3) := by decide +kernel
theorem dX0_after_12 : decode cX0_after 12 = .ok (.land, 1) := by decide +kernel
theorem dX0_after_13 : decode cX0_after 13 = .ok (.invokestatic 98, 3) := by decide +kernel
theorem dX0_after_16 : decode cX0_after 16 = .ok (.lreturn, 1) := by decide +kernel
theorem dX0_after_17 : decode cX0_after 17 = .ok (.iload_n 3, 1) := by decide +kernel
theorem dX0_after_18 : decode cX0_after 18 = .ok (.bipush 25, 2) := by decide +kernel
theorem dX0_after_20 : decode cX0_after 20 = .ok (.if_icmp .ne 8, 3) := by decide +kernel
theorem dX0_after_23 : decode cX0_after 23 = .ok (.lload_n 1, 1) := by decide +kernel
theorem dX0_after_24 : decode cX0_after 24 = .ok (.invokestatic 117, 3) := by decide +kernel
theorem dX0_after_27 : decode cX0_after 27 = .ok (.lreturn, 1) := by decide +kernel
theorem dX0_after_28 : decode cX0_after 28 = .ok (.iload_n 3, 1) := by decide +kernel
theorem dX0_after_29 : decode cX0_after 29 = .ok (.bipush 24, 2) := by decide +kernel
theorem dX0_after_31 : decode cX0_after 31 = .ok (.if_icmp .eq 10, 3) := by decide +kernel
theorem dX0_after_34 : decode cX0_after 34 = .ok (.aload_n 0, 1) := by decide +kernel
theorem dX0_after_35 : decode cX0_after 35 = .ok (.lload_n 1, 1) := by decide +kernel
theorem dX0_after_36 : decode cX0_after 36 = .ok (.iload_n 3, 1) := by decide +kernel
theorem dX0_after_37 : decode cX0_after 37 = .ok (.invokevirtual 121, 3) := by decide +kernel
theorem dX0_after_40 : decode cX0_after 40 = .ok (.lreturn, 1) := by decide +kernel
theorem dX0_after_41 : decode cX0_after 41 = .ok (.lload_n 1, 1) := by decide +kernel
theorem dX0_after_42 : decode cX0_after 42 = .ok (.invokestatic 102, 3) := by decide +kernel
theorem dX0_after_45 : decode cX0_after 45 = .ok (.istore 4, 2) := by decide +kernel
theorem dX0_after_47 : decode cX0_after 47 = .ok (.iload 4, 2) := by decide +kernel
theorem dX0_after_49 : decode cX0_after 49 = .ok (.iconst (-1), 1) := by decide +kernel
theorem dX0_after_50 : decode cX0_after 50 = .ok (.if_icmp .eq 13, 3) := by decide +kernel
theorem dX0_after_53 : decode cX0_after 53 = .ok (.aload_n 0, 1) := by decide +kernel
theorem dX0_after_54 : decode cX0_after 54 = .ok (.getfield 54, 3) := by decide +kernel
theorem dX0_after_57 : decode cX0_after 57 = .ok (.iload 4, 2) := by decide +kernel
theorem dX0_after_59 : decode cX0_after 59 = .ok (.iaload, 1) := by decide +kernel
theorem dX0_after_60 : decode cX0_after 60 = .ok (.ifCond .ne 5, 3) := by decide +kernel
theorem dX0_after_63 : decode cX0_after 63 = .ok (.lload_n 1, 1) := by decide +kernel
theorem dX0_after_64 : decode cX0_after 64 = .ok (.lreturn, 1) := by decide +kernel
theorem dX0_after_65 : decode cX0_after 65 = .ok (.lload_n 1, 1) := by decide +kernel
theorem dX0_after_66 : decode cX0_after 66 = .ok (.invokestatic 125, 3) := by decide +kernel
theorem dX0_after_69 : decode cX0_after 69 = .ok (.iconst 1, 1) := by decide +kernel
theorem dX0_after_70 : decode cX0_after 70 = .ok (.iadd, 1) := by decide +kernel
theorem dX0_after_71 : decode cX0_after 71 = .ok (.istore 5, 2) := by decide +kernel
theorem dX0_after_73 : decode cX0_after 73 = .ok (.iload 5, 2) := by decide +kernel
theorem dX0_after_75 : decode cX0_after 75 = .ok (.aload_n 0, 1) := by decide +kernel
theorem dX0_after_76 : decode cX0_after 76 = .ok (.getfield 54, 3) := by decide +kernel
theorem dX0_after_79 : decode cX0_after 79 = .ok (.iload 4, 2) := by decide +kernel
theorem dX0_after_81 : decode cX0_after 81 = .ok (.iaload, 1) := by decide +kernel
theorem dX0_after_82 : decode cX0_after 82 = .ok (.if_icmp .ge 10, 3) := by decide +kernel
theorem dX0_after_85 : decode cX0_after 85 = .ok (.lload_n 1, 1) := by decide +kernel
theorem dX0_after_86 : decode cX0_after 86 = .ok (.iload 5, 2) := by decide +kernel
theorem dX0_after_88 : decode cX0_after 88 = .ok (.invokestatic 128, 3) := by decide +kernel
theorem dX0_after_91 : decode cX0_after 91 = .ok (.lreturn, 1) := by decide +kernel
theorem dX0_after_92 : decode cX0_after 92 = .ok (.aload_n 0, 1) := by decide +kernel
theorem dX0_after_93 : decode cX0_after 93 = .ok (.lload_n 1, 1) := by decide +kernel
theorem dX0_after_94 : decode cX0_after 94 = .ok (.iconst 0, 1) := by decide +kernel
theorem dX0_after_95 : decode cX0_after 95 = .ok (.invokestatic 128, 3) := by decide +kernel
theorem dX0_after_98 : decode cX0_after 98 = .ok (.iload 4, 2) := by decide +kernel
theorem dX0_after_100 : decode cX0_after 100 = .ok (.invokestatic 89, 3) := by decide +kernel
theorem dX0_after_103 : decode cX0_after 103 = .ok (.invokevirtual 121, 3) := by decide +kernel
theorem dX0_after_106 : decode cX0_after 106 = .ok (.lreturn, 1) := by decide +kernel
theorem dX0_tryAct_0 : decode cX0_tryAct 0 = .ok (.lload_n 1, 1) := by decide +kernel
theorem dX0_tryAct_1 : decode cX0_tryAct 1 = .ok (.invokestatic 131, 3) := by decide +kernel
theorem dX0_tryAct_4 : decode cX0_tryAct 4 = .ok (.ifCond .gt 12, 3) := by decide +kernel
theorem dX0_tryAct_7 : decode cX0_tryAct 7 = .ok (.aload_n 0, 1) := by decide +kernel
theorem dX0_tryAct_8 : decode cX0_tryAct 8 = .ok (.lload_n 1, 1) := by decide +kernel
theorem dX0_tryAct_9 : decode cX0_tryAct 9 = .ok (.iload_n 3, 1) := by decide +kernel
theorem dX0_tryAct_10 : decode cX0_tryAct 10 = .ok (.invokevirtual 113, 3) := by decide +kernel
theorem dX0_tryAct_13 : decode cX0_tryAct 13 = .ok (.ifCond .ne 7, 3) := by decide +kernel
theorem dX0_tryAct_16 : decode cX0_tryAct 16 = .ok (.lload_n 1, 1) := by decide +kernel
theorem dX0_tryAct_17 : decode cX0_tryAct 17 = .ok (.goto 9, 3) := by decide +kernel
theorem dX0_tryAct_20 : decode cX0_tryAct 20 = .ok (.aload_n 0, 1) := by decide +kernel
theorem dX0_tryAct_21 : decode cX0_tryAct 21 = .ok (.lload_n 1, 1) := by decide +kernel
theorem dX0_tryAct_22 : decode cX0_tryAct 22 = .ok (.iload_n 3, 1) := by decide +kernel
theorem dX0_tryAct_23 : decode cX0_tryAct 23 = .ok (.invokevirtual 134, 3) := by decide +kernel
theorem dX0_tryAct_26 : decode cX0_tryAct 26 = .ok (.lreturn, 1) := by decide +kernel
theorem dX0_afterDeeds_0 : decode cX0_afterDeeds 0 = .ok (.iload_n 3, 1) := by decide +kernel
theorem dX0_afterDeeds_1 : decode cX0_afterDeeds 1 = .ok (.ifCond .lt 9, 3) := by decide +kernel
theorem dX0_afterDeeds_4 : decode cX0_afterDeeds 4 = .ok (.iload_n 3, 1) := by decide +kernel
theorem dX0_afterDeeds_5 : decode cX0_afterDeeds 5 = .ok (.bipush 32, 2) := by decide +kernel
theorem dX0_afterDeeds_7 : decode cX0_afterDeeds 7 = .ok (.if_icmp .lt 5, 3) := by decide +kernel
theorem dX0_afterDeeds_10 : decode cX0_afterDeeds 10 = .ok (.lload_n 1, 1) := by decide +kernel
theorem dX0_afterDeeds_11 : decode cX0_afterDeeds 11 = .ok (.lreturn, 1) := by decide +kernel
theorem dX0_afterDeeds_12 : decode cX0_afterDeeds 12 = .ok (.lload_n 1, 1) := by decide +kernel
theorem dX0_afterDeeds_13 : decode cX0_afterDeeds 13 = .ok (.lstore 4, 2) := by decide +kernel
theorem dX0_afterDeeds_15 : decode cX0_afterDeeds 15 = .ok (.iload_n 3, 1) := by decide +kernel
theorem dX0_afterDeeds_16 : decode cX0_afterDeeds 16 = .ok (.iconst 4, 1) := by decide +kernel
theorem dX0_afterDeeds_17 : decode cX0_afterDeeds 17 = .ok (.imul, 1) := by decide +kernel
theorem dX0_afterDeeds_18 : decode cX0_afterDeeds 18 = .ok (.istore 6, 2) := by decide +kernel
theorem dX0_afterDeeds_20 : decode cX0_afterDeeds 20 = .ok (.iload 6, 2) := by decide +kernel
theorem dX0_afterDeeds_22 : decode cX0_afterDeeds 22 = .ok (.istore 7, 2) := by decide +kernel
theorem dX0_afterDeeds_24 : decode cX0_afterDeeds 24 = .ok (.iload 7, 2) := by decide +kernel
theorem dX0_afterDeeds_26 : decode cX0_afterDeeds 26 = .ok (.iload 6, 2) := by decide +kernel
theorem dX0_afterDeeds_28 : decode cX0_afterDeeds 28 = .ok (.aload_n 0, 1) := by decide +kernel
theorem dX0_afterDeeds_29 : decode cX0_afterDeeds 29 = .ok (.getfield 76, 3) := by decide +kernel
theorem dX0_afterDeeds_32 : decode cX0_afterDeeds 32 = .ok (.getfield 86, 3) := by decide +kernel
theorem dX0_afterDeeds_35 : decode cX0_afterDeeds 35 = .ok (.iload_n 3, 1) := by decide +kernel
theorem dX0_afterDeeds_36 : decode cX0_afterDeeds 36 = .ok (.iaload, 1) := by decide +kernel
theorem dX0_afterDeeds_37 : decode cX0_afterDeeds 37 = .ok (.iadd, 1) := by decide +kernel
theorem dX0_afterDeeds_38 : decode cX0_afterDeeds 38 = .ok (.if_icmp .ge 149, 3) := by decide +kernel
theorem dX0_afterDeeds_41 : decode cX0_afterDeeds 41 = .ok (.aload_n 0, 1) := by decide +kernel
theorem dX0_afterDeeds_42 : decode cX0_afterDeeds 42 = .ok (.getfield 76, 3) := by decide +kernel
theorem dX0_afterDeeds_45 : decode cX0_afterDeeds 45 = .ok (.getfield 137, 3) := by decide +kernel
theorem dX0_afterDeeds_48 : decode cX0_afterDeeds 48 = .ok (.iload 7, 2) := by decide +kernel
theorem dX0_afterDeeds_50 : decode cX0_afterDeeds 50 = .ok (.iaload, 1) := by decide +kernel
theorem dX0_afterDeeds_51 : decode cX0_afterDeeds 51 = .ok (.istore 8, 2) := by decide +kernel
theorem dX0_afterDeeds_53 : decode cX0_afterDeeds 53 = .ok (.aload_n 0, 1) := by decide +kernel
theorem dX0_afterDeeds_54 : decode cX0_afterDeeds 54 = .ok (.getfield 76, 3) := by decide +kernel
theorem dX0_afterDeeds_57 : decode cX0_afterDeeds 57 = .ok (.getfield 140, 3) := by decide +kernel
theorem dX0_afterDeeds_60 : decode cX0_afterDeeds 60 = .ok (.iload 7, 2) := by decide +kernel
theorem dX0_afterDeeds_62 : decode cX0_afterDeeds 62 = .ok (.iaload, 1) := by decide +kernel
theorem dX0_afterDeeds_63 : decode cX0_afterDeeds 63 = .ok (.istore 9, 2) := by decide +kernel
theorem dX0_afterDeeds_65 : decode cX0_afterDeeds 65 = .ok (.aload_n 0, 1) := by decide +kernel
theorem dX0_afterDeeds_66 : decode cX0_afterDeeds 66 = .ok (.getfield 76, 3) := by decide +kernel
theorem dX0_afterDeeds_69 : decode cX0_afterDeeds 69 = .ok (.getfield 143, 3) := by decide +kernel
theorem dX0_afterDeeds_72 : decode cX0_afterDeeds 72 = .ok (.iload 7, 2) := by decide +kernel
theorem dX0_afterDeeds_74 : decode cX0_afterDeeds 74 = .ok (.iaload, 1) := by decide +kernel
theorem dX0_afterDeeds_75 : decode cX0_afterDeeds 75 = .ok (.tableswitch 93 0 3 #[29, 41, 51, 65], 29) := by decide +kernel
theorem dX0_afterDeeds_104 : decode cX0_afterDeeds 104 = .ok (.lload 4, 2) := by decide +kernel
theorem dX0_afterDeeds_106 : decode cX0_afterDeeds 106 = .ok (.iload 8, 2) := by decide +kernel
theorem dX0_afterDeeds_108 : decode cX0_afterDeeds 108 = .ok (.invokestatic 146, 3) := by decide +kernel
theorem dX0_afterDeeds_111 : decode cX0_afterDeeds 111 = .ok (.lstore 4, 2) := by decide +kernel
theorem dX0_afterDeeds_113 : decode cX0_afterDeeds 113 = .ok (.goto 68, 3) := by decide +kernel
theorem dX0_afterDeeds_116 : decode cX0_afterDeeds 116 = .ok (.lload 4, 2) := by decide +kernel
theorem dX0_afterDeeds_118 : decode cX0_afterDeeds 118 = .ok (.invokestatic 117, 3) := by decide +kernel
theorem dX0_afterDeeds_121 : decode cX0_afterDeeds 121 = .ok (.lstore 4, 2) := by decide +kernel
theorem dX0_afterDeeds_123 : decode cX0_afterDeeds 123 = .ok (.goto 58, 3) := by decide +kernel
theorem dX0_afterDeeds_126 : decode cX0_afterDeeds 126 = .ok (.lload 4, 2) := by decide +kernel
theorem dX0_afterDeeds_128 : decode cX0_afterDeeds 128 = .ok (.iload 8, 2) := by decide +kernel
theorem dX0_afterDeeds_130 : decode cX0_afterDeeds 130 = .ok (.iload 9, 2) := by decide +kernel
theorem dX0_afterDeeds_132 : decode cX0_afterDeeds 132 = .ok (.invokestatic 80, 3) := by decide +kernel
theorem dX0_afterDeeds_135 : decode cX0_afterDeeds 135 = .ok (.lstore 4, 2) := by decide +kernel
theorem dX0_afterDeeds_137 : decode cX0_afterDeeds 137 = .ok (.goto 44, 3) := by decide +kernel
theorem dX0_afterDeeds_140 : decode cX0_afterDeeds 140 = .ok (.lload 4, 2) := by decide +kernel
theorem dX0_afterDeeds_142 : decode cX0_afterDeeds 142 = .ok (.iload 8, 2) := by decide +kernel
theorem dX0_afterDeeds_144 : decode cX0_afterDeeds 144 = .ok (.aload_n 0, 1) := by decide +kernel
theorem dX0_afterDeeds_145 : decode cX0_afterDeeds 145 = .ok (.iload 8, 2) := by decide +kernel
theorem dX0_afterDeeds_147 : decode cX0_afterDeeds 147 = .ok (.lload 4, 2) := by decide +kernel
theorem dX0_afterDeeds_149 : decode cX0_afterDeeds 149 = .ok (.iload 8, 2) := by decide +kernel
theorem dX0_afterDeeds_151 : decode cX0_afterDeeds 151 = .ok (.invokestatic 149, 3) := by decide +kernel
theorem dX0_afterDeeds_154 : decode cX0_afterDeeds 154 = .ok (.iload 9, 2) := by decide +kernel
theorem dX0_afterDeeds_156 : decode cX0_afterDeeds 156 = .ok (.iadd, 1) := by decide +kernel
theorem dX0_afterDeeds_157 : decode cX0_afterDeeds 157 = .ok (.invokevirtual 153, 3) := by decide +kernel
theorem dX0_afterDeeds_160 : decode cX0_afterDeeds 160 = .ok (.invokestatic 80, 3) := by decide +kernel
theorem dX0_afterDeeds_163 : decode cX0_afterDeeds 163 = .ok (.lstore 4, 2) := by decide +kernel
theorem dX0_afterDeeds_165 : decode cX0_afterDeeds 165 = .ok (.goto 16, 3) := by decide +kernel
theorem dX0_afterDeeds_168 : decode cX0_afterDeeds 168 = .ok (.iload 9, 2) := by decide +kernel
theorem dX0_afterDeeds_170 : decode cX0_afterDeeds 170 = .ok (.lload 4, 2) := by decide +kernel
theorem dX0_afterDeeds_172 : decode cX0_afterDeeds 172 = .ok (.aload_n 0, 1) := by decide +kernel
theorem dX0_afterDeeds_173 : decode cX0_afterDeeds 173 = .ok (.getfield 30, 3) := by decide +kernel
theorem dX0_afterDeeds_176 : decode cX0_afterDeeds 176 = .ok (.land, 1) := by decide +kernel
theorem dX0_afterDeeds_177 : decode cX0_afterDeeds 177 = .ok (.invokestatic 157, 3) := by decide +kernel
theorem dX0_afterDeeds_180 : decode cX0_afterDeeds 180 = .ok (.lreturn, 1) := by decide +kernel
theorem dX0_afterDeeds_181 : decode cX0_afterDeeds 181 = .ok (.iinc 7 1, 3) := by decide +kernel
theorem dX0_afterDeeds_184 : decode cX0_afterDeeds 184 = .ok (.goto (-160), 3) := by decide +kernel
theorem dX0_afterDeeds_187 : decode cX0_afterDeeds 187 = .ok (.lload 4, 2) := by decide +kernel
theorem dX0_afterDeeds_189 : decode cX0_afterDeeds 189 = .ok (.lreturn, 1) := by decide +kernel
theorem dX0_sumIn_0 : decode cX0_sumIn 0 = .ok (.aload_n 0, 1) := by decide +kernel
theorem dX0_sumIn_1 : decode cX0_sumIn 1 = .ok (.getfield 44, 3) := by decide +kernel
theorem dX0_sumIn_4 : decode cX0_sumIn 4 = .ok (.iload_n 1, 1) := by decide +kernel
theorem dX0_sumIn_5 : decode cX0_sumIn 5 = .ok (.iaload, 1) := by decide +kernel
theorem dX0_sumIn_6 : decode cX0_sumIn 6 = .ok (.iconst 1, 1) := by decide +kernel
theorem dX0_sumIn_7 : decode cX0_sumIn 7 = .ok (.iadd, 1) := by decide +kernel
theorem dX0_sumIn_8 : decode cX0_sumIn 8 = .ok (.istore_n 3, 1) := by decide +kernel
theorem dX0_sumIn_9 : decode cX0_sumIn 9 = .ok (.iload_n 3, 1) := by decide +kernel
theorem dX0_sumIn_10 : decode cX0_sumIn 10 = .ok (.ifCond .le 9, 3) := by decide +kernel
theorem dX0_sumIn_13 : decode cX0_sumIn 13 = .ok (.iload_n 2, 1) := by decide +kernel
theorem dX0_sumIn_14 : decode cX0_sumIn 14 = .ok (.iload_n 3, 1) := by decide +kernel
theorem dX0_sumIn_15 : decode cX0_sumIn 15 = .ok (.irem, 1) := by decide +kernel
theorem dX0_sumIn_16 : decode cX0_sumIn 16 = .ok (.goto 4, 3) := by decide +kernel
theorem dX0_sumIn_19 : decode cX0_sumIn 19 = .ok (.iconst 0, 1) := by decide +kernel
theorem dX0_sumIn_20 : decode cX0_sumIn 20 = .ok (.ireturn, 1) := by decide +kernel
theorem dX0_viewOf_0 : decode cX0_viewOf 0 = .ok (.lload_n 1, 1) := by decide +kernel
theorem dX0_viewOf_1 : decode cX0_viewOf 1 = .ok (.invokestatic 102, 3) := by decide +kernel
theorem dX0_viewOf_4 : decode cX0_viewOf 4 = .ok (.istore_n 3, 1) := by decide +kernel
theorem dX0_viewOf_5 : decode cX0_viewOf 5 = .ok (.iload_n 3, 1) := by decide +kernel
theorem dX0_viewOf_6 : decode cX0_viewOf 6 = .ok (.iconst (-1), 1) := by decide +kernel
theorem dX0_viewOf_7 : decode cX0_viewOf 7 = .ok (.if_icmp .ne 10, 3) := by decide +kernel
theorem dX0_viewOf_10 : decode cX0_viewOf 10 = .ok (.lload_n 1, 1) := by decide +kernel
theorem dX0_viewOf_11 : decode cX0_viewOf 11 = .ok (.invokestatic 131, 3) := by decide +kernel
theorem dX0_viewOf_14 : decode cX0_viewOf 14 = .ok (.ineg, 1) := by decide +kernel
theorem dX0_viewOf_15 : decode cX0_viewOf 15 = .ok (.i2l, 1) := by decide +kernel
theorem dX0_viewOf_16 : decode cX0_viewOf 16 = .ok (.lreturn, 1) := by decide +kernel
theorem dX0_viewOf_17 : decode cX0_viewOf 17 = .ok (.lconst 0, 1) := by decide +kernel
theorem dX0_viewOf_18 : decode cX0_viewOf 18 = .ok (.lstore 4, 2) := by decide +kernel
theorem dX0_viewOf_20 : decode cX0_viewOf 20 = .ok (.iconst 0, 1) := by decide +kernel
theorem dX0_viewOf_21 : decode cX0_viewOf 21 = .ok (.istore 6, 2) := by decide +kernel
theorem dX0_viewOf_23 : decode cX0_viewOf 23 = .ok (.iload 6, 2) := by decide +kernel
theorem dX0_viewOf_25 : decode cX0_viewOf 25 = .ok (.aload_n 0, 1) := by decide +kernel
theorem dX0_viewOf_26 : decode cX0_viewOf 26 = .ok (.getfield 48, 3) := by decide +kernel
theorem dX0_viewOf_29 : decode cX0_viewOf 29 = .ok (.iload_n 3, 1) := by decide +kernel
theorem dX0_viewOf_30 : decode cX0_viewOf 30 = .ok (.iaload, 1) := by decide +kernel
theorem dX0_viewOf_31 : decode cX0_viewOf 31 = .ok (.if_icmp .ge 25, 3) := by decide +kernel
theorem dX0_viewOf_34 : decode cX0_viewOf 34 = .ok (.lload 4, 2) := by decide +kernel
theorem dX0_viewOf_36 : decode cX0_viewOf 36 = .ok (.iconst 4, 1) := by decide +kernel
theorem dX0_viewOf_37 : decode cX0_viewOf 37 = .ok (.lshl, 1) := by decide +kernel
theorem dX0_viewOf_38 : decode cX0_viewOf 38 = .ok (.aload_n 0, 1) := by decide +kernel
theorem dX0_viewOf_39 : decode cX0_viewOf 39 = .ok (.lload_n 1, 1) := by decide +kernel
theorem dX0_viewOf_40 : decode cX0_viewOf 40 = .ok (.iload_n 3, 1) := by decide +kernel
theorem dX0_viewOf_41 : decode cX0_viewOf 41 = .ok (.iload 6, 2) := by decide +kernel
theorem dX0_viewOf_43 : decode cX0_viewOf 43 = .ok (.invokevirtual 160, 3) := by decide +kernel
theorem dX0_viewOf_46 : decode cX0_viewOf 46 = .ok (.i2l, 1) := by decide +kernel
theorem dX0_viewOf_47 : decode cX0_viewOf 47 = .ok (.lor, 1) := by decide +kernel
theorem dX0_viewOf_48 : decode cX0_viewOf 48 = .ok (.lstore 4, 2) := by decide +kernel
theorem dX0_viewOf_50 : decode cX0_viewOf 50 = .ok (.iinc 6 1, 3) := by decide +kernel
theorem dX0_viewOf_53 : decode cX0_viewOf 53 = .ok (.goto (-30), 3) := by decide +kernel
theorem dX0_viewOf_56 : decode cX0_viewOf 56 = .ok (.aload_n 0, 1) := by decide +kernel
theorem dX0_viewOf_57 : decode cX0_viewOf 57 = .ok (.getfield 57, 3) := by decide +kernel
theorem dX0_viewOf_60 : decode cX0_viewOf 60 = .ok (.iload_n 3, 1) := by decide +kernel
theorem dX0_viewOf_61 : decode cX0_viewOf 61 = .ok (.iaload, 1) := by decide +kernel
theorem dX0_viewOf_62 : decode cX0_viewOf 62 = .ok (.istore 6, 2) := by decide +kernel
theorem dX0_viewOf_64 : decode cX0_viewOf 64 = .ok (.iload 6, 2) := by decide +kernel
theorem dX0_viewOf_66 : decode cX0_viewOf 66 = .ok (.aload_n 0, 1) := by decide +kernel
theorem dX0_viewOf_67 : decode cX0_viewOf 67 = .ok (.getfield 60, 3) := by decide +kernel
theorem dX0_viewOf_70 : decode cX0_viewOf 70 = .ok (.iload_n 3, 1) := by decide +kernel
theorem dX0_viewOf_71 : decode cX0_viewOf 71 = .ok (.iaload, 1) := by decide +kernel
theorem dX0_viewOf_72 : decode cX0_viewOf 72 = .ok (.if_icmp .ge 35, 3) := by decide +kernel
theorem dX0_viewOf_75 : decode cX0_viewOf 75 = .ok (.lload 4, 2) := by decide +kernel
theorem dX0_viewOf_77 : decode cX0_viewOf 77 = .ok (.iconst 1, 1) := by decide +kernel
theorem dX0_viewOf_78 : decode cX0_viewOf 78 = .ok (.lshl, 1) := by decide +kernel
theorem dX0_viewOf_79 : decode cX0_viewOf 79 = .ok (.aload_n 0, 1) := by decide +kernel
theorem dX0_viewOf_80 : decode cX0_viewOf 80 = .ok (.getfield 69, 3) := by decide +kernel
theorem dX0_viewOf_83 : decode cX0_viewOf 83 = .ok (.iload 6, 2) := by decide +kernel
theorem dX0_viewOf_85 : decode cX0_viewOf 85 = .ok (.lload_n 1, 1) := by decide +kernel
theorem dX0_viewOf_86 : decode cX0_viewOf 86 = .ok (.invokevirtual 109, 3) := by decide +kernel
theorem dX0_viewOf_89 : decode cX0_viewOf 89 = .ok (.ifCond .eq 7, 3) := by decide +kernel
theorem dX0_viewOf_92 : decode cX0_viewOf 92 = .ok (.iconst 1, 1) := by decide +kernel
theorem dX0_viewOf_93 : decode cX0_viewOf 93 = .ok (.goto 4, 3) := by decide +kernel
theorem dX0_viewOf_96 : decode cX0_viewOf 96 = .ok (.iconst 0, 1) := by decide +kernel
theorem dX0_viewOf_97 : decode cX0_viewOf 97 = .ok (.i2l, 1) := by decide +kernel
theorem dX0_viewOf_98 : decode cX0_viewOf 98 = .ok (.lor, 1) := by decide +kernel
theorem dX0_viewOf_99 : decode cX0_viewOf 99 = .ok (.lstore 4, 2) := by decide +kernel
theorem dX0_viewOf_101 : decode cX0_viewOf 101 = .ok (.iinc 6 1, 3) := by decide +kernel
theorem dX0_viewOf_104 : decode cX0_viewOf 104 = .ok (.goto (-40), 3) := by decide +kernel
theorem dX0_viewOf_107 : decode cX0_viewOf 107 = .ok (.lload 4, 2) := by decide +kernel
theorem dX0_viewOf_109 : decode cX0_viewOf 109 = .ok (.iconst 3, 1) := by decide +kernel
theorem dX0_viewOf_110 : decode cX0_viewOf 110 = .ok (.lshl, 1) := by decide +kernel
theorem dX0_viewOf_111 : decode cX0_viewOf 111 = .ok (.iload_n 3, 1) := by decide +kernel
theorem dX0_viewOf_112 : decode cX0_viewOf 112 = .ok (.i2l, 1) := by decide +kernel
theorem dX0_viewOf_113 : decode cX0_viewOf 113 = .ok (.lor, 1) := by decide +kernel
theorem dX0_viewOf_114 : decode cX0_viewOf 114 = .ok (.lreturn, 1) := by decide +kernel
theorem dX0_shownIn_0 : decode cX0_shownIn 0 = .ok (.lload_n 1, 1) := by decide +kernel
theorem dX0_shownIn_1 : decode cX0_shownIn 1 = .ok (.aload_n 0, 1) := by decide +kernel
theorem dX0_shownIn_2 : decode cX0_shownIn 2 = .ok (.getfield 51, 3) := by decide +kernel
theorem dX0_shownIn_5 : decode cX0_shownIn 5 = .ok (.iload_n 3, 1) := by decide +kernel
theorem dX0_shownIn_6 : decode cX0_shownIn 6 = .ok (.bipush 6, 2) := by decide +kernel
theorem dX0_shownIn_8 : decode cX0_shownIn 8 = .ok (.imul, 1) := by decide +kernel
theorem dX0_shownIn_9 : decode cX0_shownIn 9 = .ok (.iload 4, 2) := by decide +kernel
theorem dX0_shownIn_11 : decode cX0_shownIn 11 = .ok (.iadd, 1) := by decide +kernel
theorem dX0_shownIn_12 : decode cX0_shownIn 12 = .ok (.iaload, 1) := by decide +kernel
theorem dX0_shownIn_13 : decode cX0_shownIn 13 = .ok (.invokestatic 149, 3) := by decide +kernel
theorem dX0_shownIn_16 : decode cX0_shownIn 16 = .ok (.ireturn, 1) := by decide +kernel
theorem dX1_init_0 : decode cX1_init 0 = .ok (.aload_n 0, 1) := by decide +kernel
theorem dX1_init_1 : decode cX1_init 1 = .ok (.invokespecial 3, 3) := by decide +kernel
theorem dX1_init_4 : decode cX1_init 4 = .ok (.aload_n 0, 1) := by decide +kernel
theorem dX1_init_5 : decode cX1_init 5 = .ok (.iconst (-1), 1) := by decide +kernel
theorem dX1_init_6 : decode cX1_init 6 = .ok (.putfield 9, 3) := by decide +kernel
theorem dX1_init_9 : decode cX1_init 9 = .ok (.aload_n 0, 1) := by decide +kernel
theorem dX1_init_10 : decode cX1_init 10 = .ok (.new 15, 3) := by decide +kernel
theorem dX1_init_13 : decode cX1_init 13 = .ok (.dup, 1) := by decide +kernel
theorem dX1_init_14 : decode cX1_init 14 = .ok (.invokespecial 17, 3) := by decide +kernel
theorem dX1_init_17 : decode cX1_init 17 = .ok (.putfield 18, 3) := by decide +kernel
theorem dX1_init_20 : decode cX1_init 20 = .ok (.aload_n 0, 1) := by decide +kernel
theorem dX1_init_21 : decode cX1_init 21 = .ok (.sipush 10800, 3) := by decide +kernel
theorem dX1_init_24 : decode cX1_init 24 = .ok (.newarray .int, 2) := by decide +kernel
theorem dX1_init_26 : decode cX1_init 26 = .ok (.putfield 22, 3) := by decide +kernel
theorem dX1_init_29 : decode cX1_init 29 = .ok (.aload_n 0, 1) := by decide +kernel
theorem dX1_init_30 : decode cX1_init 30 = .ok (.new 15, 3) := by decide +kernel
theorem dX1_init_33 : decode cX1_init 33 = .ok (.dup, 1) := by decide +kernel
theorem dX1_init_34 : decode cX1_init 34 = .ok (.invokespecial 17, 3) := by decide +kernel
theorem dX1_init_37 : decode cX1_init 37 = .ok (.putfield 26, 3) := by decide +kernel
theorem dX1_init_40 : decode cX1_init 40 = .ok (.aload_n 0, 1) := by decide +kernel
theorem dX1_init_41 : decode cX1_init 41 = .ok (.iconst 0, 1) := by decide +kernel
theorem dX1_init_42 : decode cX1_init 42 = .ok (.putfield 29, 3) := by decide +kernel
theorem dX1_init_45 : decode cX1_init 45 = .ok (.aload_n 0, 1) := by decide +kernel
theorem dX1_init_46 : decode cX1_init 46 = .ok (.sipush 400, 3) := by decide +kernel
theorem dX1_init_49 : decode cX1_init 49 = .ok (.newarray .int, 2) := by decide +kernel
theorem dX1_init_51 : decode cX1_init 51 = .ok (.putfield 32, 3) := by decide +kernel
theorem dX1_init_54 : decode cX1_init 54 = .ok (.aload_n 0, 1) := by decide +kernel
theorem dX1_init_55 : decode cX1_init 55 = .ok (.sipush 400, 3) := by decide +kernel
theorem dX1_init_58 : decode cX1_init 58 = .ok (.newarray .int, 2) := by decide +kernel
theorem dX1_init_60 : decode cX1_init 60 = .ok (.putfield 35, 3) := by decide +kernel
theorem dX1_init_63 : decode cX1_init 63 = .ok (.aload_n 0, 1) := by decide +kernel
theorem dX1_init_64 : decode cX1_init 64 = .ok (.sipush 400, 3) := by decide +kernel
theorem dX1_init_67 : decode cX1_init 67 = .ok (.newarray .boolean, 2) := by decide +kernel
theorem dX1_init_69 : decode cX1_init 69 = .ok (.putfield 38, 3) := by decide +kernel
theorem dX1_init_72 : decode cX1_init 72 = .ok (.aload_n 0, 1) := by decide +kernel
theorem dX1_init_73 : decode cX1_init 73 = .ok (.aload_n 1, 1) := by decide +kernel
theorem dX1_init_74 : decode cX1_init 74 = .ok (.putfield 42, 3) := by decide +kernel
theorem dX1_init_77 : decode cX1_init 77 = .ok (.return_, 1) := by decide +kernel
theorem dX1_drop_0 : decode cX1_drop 0 = .ok (.aload_n 0, 1) := by decide +kernel
theorem dX1_drop_1 : decode cX1_drop 1 = .ok (.iconst (-1), 1) := by decide +kernel
theorem dX1_drop_2 : decode cX1_drop 2 = .ok (.putfield 9, 3) := by decide +kernel
theorem dX1_drop_5 : decode cX1_drop 5 = .ok (.aload_n 0, 1) := by decide +kernel
theorem dX1_drop_6 : decode cX1_drop 6 = .ok (.iconst 0, 1) := by decide +kernel
theorem dX1_drop_7 : decode cX1_drop 7 = .ok (.putfield 29, 3) := by decide +kernel
theorem dX1_drop_10 : decode cX1_drop 10 = .ok (.return_, 1) := by decide +kernel
theorem dX1_stands_0 : decode cX1_stands 0 = .ok (.aload_n 0, 1) := by decide +kernel
theorem dX1_stands_1 : decode cX1_stands 1 = .ok (.getfield 9, 3) := by decide +kernel
theorem dX1_stands_4 : decode cX1_stands 4 = .ok (.iconst (-1), 1) := by decide +kernel
theorem dX1_stands_5 : decode cX1_stands 5 = .ok (.if_icmp .eq 7, 3) := by decide +kernel
theorem dX1_stands_8 : decode cX1_stands 8 = .ok (.iconst 1, 1) := by decide +kernel
theorem dX1_stands_9 : decode cX1_stands 9 = .ok (.goto 4, 3) := by decide +kernel
theorem dX1_stands_12 : decode cX1_stands 12 = .ok (.iconst 0, 1) := by decide +kernel
theorem dX1_stands_13 : decode cX1_stands 13 = .ok (.ireturn, 1) := by decide +kernel
theorem dX1_many_0 : decode cX1_many 0 = .ok (.aload_n 0, 1) := by decide +kernel
theorem dX1_many_1 : decode cX1_many 1 = .ok (.invokevirtual 46, 3) := by decide +kernel
theorem dX1_many_4 : decode cX1_many 4 = .ok (.ifCond .eq 13, 3) := by decide +kernel
theorem dX1_many_7 : decode cX1_many 7 = .ok (.aload_n 0, 1) := by decide +kernel
theorem dX1_many_8 : decode cX1_many 8 = .ok (.getfield 18, 3) := by decide +kernel
theorem dX1_many_11 : decode cX1_many 11 = .ok (.getfield 50, 3) := by decide +kernel
theorem dX1_many_14 : decode cX1_many 14 = .ok (.goto 4, 3) := by decide +kernel
theorem dX1_many_17 : decode cX1_many 17 = .ok (.iconst 0, 1) := by decide +kernel
theorem dX1_many_18 : decode cX1_many 18 = .ok (.ireturn, 1) := by decide +kernel
theorem dX1_made_0 : decode cX1_made 0 = .ok (.aload_n 0, 1) := by decide +kernel
theorem dX1_made_1 : decode cX1_made 1 = .ok (.invokevirtual 53, 3) := by decide +kernel
theorem dX1_made_4 : decode cX1_made 4 = .ok (.aload_n 0, 1) := by decide +kernel
theorem dX1_made_5 : decode cX1_made 5 = .ok (.getfield 18, 3) := by decide +kernel
theorem dX1_made_8 : decode cX1_made 8 = .ok (.invokevirtual 56, 3) := by decide +kernel
theorem dX1_made_11 : decode cX1_made 11 = .ok (.aload_n 0, 1) := by decide +kernel
theorem dX1_made_12 : decode cX1_made 12 = .ok (.getfield 18, 3) := by decide +kernel
theorem dX1_made_15 : decode cX1_made 15 = .ok (.aload_n 1, 1) := by decide +kernel
theorem dX1_made_16 : decode cX1_made 16 = .ok (.invokevirtual 59, 3) := by decide +kernel
theorem dX1_made_19 : decode cX1_made 19 = .ok (.lconst 0, 1) := by decide +kernel
theorem dX1_made_20 : decode cX1_made 20 = .ok (.iconst (-1), 1) := by decide +kernel
theorem dX1_made_21 : decode cX1_made 21 = .ok (.iconst (-1), 1) := by decide +kernel
theorem dX1_made_22 : decode cX1_made 22 = .ok (.invokevirtual 65, 3) := by decide +kernel
theorem dX1_made_25 : decode cX1_made 25 = .ok (.pop, 1) := by decide +kernel
theorem dX1_made_26 : decode cX1_made 26 = .ok (.iconst 0, 1) := by decide +kernel
theorem dX1_made_27 : decode cX1_made 27 = .ok (.istore_n 3, 1) := by decide +kernel
theorem dX1_made_28 : decode cX1_made 28 = .ok (.iload_n 3, 1) := by decide +kernel
theorem dX1_made_29 : decode cX1_made 29 = .ok (.aload_n 0, 1) := by decide +kernel
theorem dX1_made_30 : decode cX1_made 30 = .ok (.getfield 18, 3) := by decide +kernel
theorem dX1_made_33 : decode cX1_made 33 = .ok (.getfield 50, 3) := by decide +kernel
theorem dX1_made_36 : decode cX1_made 36 = .ok (.if_icmp .ge 27, 3) := by decide +kernel
theorem dX1_made_39 : decode cX1_made 39 = .ok (.iload_n 3, 1) := by decide +kernel
theorem dX1_made_40 : decode cX1_made 40 = .ok (.sipush 400, 3) := by decide +kernel
theorem dX1_made_43 : decode cX1_made 43 = .ok (.if_icmp .ge 20, 3) := by decide +kernel
theorem dX1_made_46 : decode cX1_made 46 = .ok (.aload_n 0, 1) := by decide +kernel
theorem dX1_made_47 : decode cX1_made 47 = .ok (.aload_n 1, 1) := by decide +kernel
theorem dX1_made_48 : decode cX1_made 48 = .ok (.iload_n 3, 1) := by decide +kernel
theorem dX1_made_49 : decode cX1_made 49 = .ok (.invokevirtual 69, 3) := by decide +kernel
theorem dX1_made_52 : decode cX1_made 52 = .ok (.ifCond .ne 5, 3) := by decide +kernel
theorem dX1_made_55 : decode cX1_made 55 = .ok (.iconst 0, 1) := by decide +kernel
theorem dX1_made_56 : decode cX1_made 56 = .ok (.ireturn, 1) := by decide +kernel
theorem dX1_made_57 : decode cX1_made 57 = .ok (.iinc 3 1, 3) := by decide +kernel
theorem dX1_made_60 : decode cX1_made 60 = .ok (.goto (-32), 3) := by decide +kernel
theorem dX1_made_63 : decode cX1_made 63 = .ok (.aload_n 0, 1) := by decide +kernel
theorem dX1_made_64 : decode cX1_made 64 = .ok (.aload_n 1, 1) := by decide +kernel
theorem dX1_made_65 : decode cX1_made 65 = .ok (.putfield 42, 3) := by decide +kernel
theorem dX1_made_68 : decode cX1_made 68 = .ok (.aload_n 0, 1) := by decide +kernel
theorem dX1_made_69 : decode cX1_made 69 = .ok (.iload_n 2, 1) := by decide +kernel
theorem dX1_made_70 : decode cX1_made 70 = .ok (.putfield 9, 3) := by decide +kernel
theorem dX1_made_73 : decode cX1_made 73 = .ok (.iconst 1, 1) := by decide +kernel
theorem dX1_made_74 : decode cX1_made 74 = .ok (.ireturn, 1) := by decide +kernel
theorem dX1_goneFrom_0 : decode cX1_goneFrom 0 = .ok (.aload_n 0, 1) := by decide +kernel
theorem dX1_goneFrom_1 : decode cX1_goneFrom 1 = .ok (.getfield 18, 3) := by decide +kernel
theorem dX1_goneFrom_4 : decode cX1_goneFrom 4 = .ok (.getfield 73, 3) := by decide +kernel
theorem dX1_goneFrom_7 : decode cX1_goneFrom 7 = .ok (.iload_n 2, 1) := by decide +kernel
theorem dX1_goneFrom_8 : decode cX1_goneFrom 8 = .ok (.laload, 1) := by decide +kernel
theorem dX1_goneFrom_9 : decode cX1_goneFrom 9 = .ok (.lstore_n 3, 1) := by decide +kernel
theorem dX1_goneFrom_10 : decode cX1_goneFrom 10 = .ok (.iconst 0, 1) := by decide +kernel
theorem dX1_goneFrom_11 : decode cX1_goneFrom 11 = .ok (.istore 5, 2) := by decide +kernel
theorem dX1_goneFrom_13 : decode cX1_goneFrom 13 = .ok (.iload 5, 2) := by decide +kernel
theorem dX1_goneFrom_15 : decode cX1_goneFrom 15 = .ok (.bipush 27, 2) := by decide +kernel
theorem dX1_goneFrom_17 : decode cX1_goneFrom 17 = .ok (.if_icmp .ge 65, 3) := by decide +kernel
theorem dX1_goneFrom_20 : decode cX1_goneFrom 20 = .ok (.bipush (-2), 2) := by decide +kernel
theorem dX1_goneFrom_22 : decode cX1_goneFrom 22 = .ok (.istore 6, 2) := by decide +kernel
theorem dX1_goneFrom_24 : decode cX1_goneFrom 24 = .ok (.aload_n 1, 1) := by decide +kernel
theorem dX1_goneFrom_25 : decode cX1_goneFrom 25 = .ok (.lload_n 3, 1) := by decide +kernel
theorem dX1_goneFrom_26 : decode cX1_goneFrom 26 = .ok (.iload 5, 2) := by decide +kernel
theorem dX1_goneFrom_28 : decode cX1_goneFrom 28 = .ok (.invokevirtual 77, 3) := by decide +kernel
theorem dX1_goneFrom_31 : decode cX1_goneFrom 31 = .ok (.ifCond .eq 31, 3) := by decide +kernel
theorem dX1_goneFrom_34 : decode cX1_goneFrom 34 = .ok (.aload_n 0, 1) := by decide +kernel
theorem dX1_goneFrom_35 : decode cX1_goneFrom 35 = .ok (.getfield 18, 3) := by decide +kernel
theorem dX1_goneFrom_38 : decode cX1_goneFrom 38 = .ok (.aload_n 1, 1) := by decide +kernel
theorem dX1_goneFrom_39 : decode cX1_goneFrom 39 = .ok (.lload_n 3, 1) := by decide +kernel
theorem dX1_goneFrom_40 : decode cX1_goneFrom 40 = .ok (.iload 5, 2) := by decide +kernel
theorem dX1_goneFrom_42 : decode cX1_goneFrom 42 = .ok (.invokevirtual 81, 3) := by decide +kernel
theorem dX1_goneFrom_45 : decode cX1_goneFrom 45 = .ok (.lconst 0, 1) := by decide +kernel
theorem dX1_goneFrom_46 : decode cX1_goneFrom 46 = .ok (.iload_n 2, 1) := by decide +kernel
theorem dX1_goneFrom_47 : decode cX1_goneFrom 47 = .ok (.iload 5, 2) := by decide +kernel
theorem dX1_goneFrom_49 : decode cX1_goneFrom 49 = .ok (.invokevirtual 65, 3) := by decide +kernel
theorem dX1_goneFrom_52 : decode cX1_goneFrom 52 = .ok (.istore 6, 2) := by decide +kernel
theorem dX1_goneFrom_54 : decode cX1_goneFrom 54 = .ok (.iload 6, 2) := by decide +kernel
theorem dX1_goneFrom_56 : decode cX1_goneFrom 56 = .ok (.iconst (-1), 1) := by decide +kernel
theorem dX1_goneFrom_57 : decode cX1_goneFrom 57 = .ok (.if_icmp .ne 5, 3) := by decide +kernel
theorem dX1_goneFrom_60 : decode cX1_goneFrom 60 = .ok (.iconst 0, 1) := by decide +kernel
theorem dX1_goneFrom_61 : decode cX1_goneFrom 61 = .ok (.ireturn, 1) := by decide +kernel
theorem dX1_goneFrom_62 : decode cX1_goneFrom 62 = .ok (.aload_n 0, 1) := by decide +kernel
theorem dX1_goneFrom_63 : decode cX1_goneFrom 63 = .ok (.getfield 22, 3) := by decide +kernel
theorem dX1_goneFrom_66 : decode cX1_goneFrom 66 = .ok (.iload_n 2, 1) := by decide +kernel
theorem dX1_goneFrom_67 : decode cX1_goneFrom 67 = .ok (.bipush 27, 2) := by decide +kernel
theorem dX1_goneFrom_69 : decode cX1_goneFrom 69 = .ok (.imul, 1) := by decide +kernel
theorem dX1_goneFrom_70 : decode cX1_goneFrom 70 = .ok (.iload 5, 2) := by decide +kernel
theorem dX1_goneFrom_72 : decode cX1_goneFrom 72 = .ok (.iadd, 1) := by decide +kernel
theorem dX1_goneFrom_73 : decode cX1_goneFrom 73 = .ok (.iload 6, 2) := by decide +kernel
theorem dX1_goneFrom_75 : decode cX1_goneFrom 75 = .ok (.iastore, 1) := by decide +kernel
theorem dX1_goneFrom_76 : decode cX1_goneFrom 76 = .ok (.iinc 5 1, 3) := by decide +kernel
theorem dX1_goneFrom_79 : decode cX1_goneFrom 79 = .ok (.goto (-66), 3) := by decide +kernel
theorem dX1_goneFrom_82 : decode cX1_goneFrom 82 = .ok (.iconst 1, 1) := by decide +kernel
theorem dX1_goneFrom_83 : decode cX1_goneFrom 83 = .ok (.ireturn, 1) := by decide +kernel
theorem dX1_waysFrom_0 : decode cX1_waysFrom 0 = .ok (.iconst 0, 1) := by decide +kernel
theorem dX1_waysFrom_1 : decode cX1_waysFrom 1 = .ok (.istore_n 2, 1) := by decide +kernel
theorem dX1_waysFrom_2 : decode cX1_waysFrom 2 = .ok (.iconst 0, 1) := by decide +kernel
theorem dX1_waysFrom_3 : decode cX1_waysFrom 3 = .ok (.istore_n 3, 1) := by decide +kernel
theorem dX1_waysFrom_4 : decode cX1_waysFrom 4 = .ok (.iload_n 3, 1) := by decide +kernel
theorem dX1_waysFrom_5 : decode cX1_waysFrom 5 = .ok (.bipush 27, 2) := by decide +kernel
theorem dX1_waysFrom_7 : decode cX1_waysFrom 7 = .ok (.if_icmp .ge 26, 3) := by decide +kernel
theorem dX1_waysFrom_10 : decode cX1_waysFrom 10 = .ok (.aload_n 0, 1) := by decide +kernel
theorem dX1_waysFrom_11 : decode cX1_waysFrom 11 = .ok (.getfield 22, 3) := by decide +kernel
theorem dX1_waysFrom_14 : decode cX1_waysFrom 14 = .ok (.iload_n 1, 1) := by decide +kernel
theorem dX1_waysFrom_15 : decode cX1_waysFrom 15 = .ok (.bipush 27, 2) := by decide +kernel
theorem dX1_waysFrom_17 : decode cX1_waysFrom 17 = .ok (.imul, 1) := by decide +kernel
theorem dX1_waysFrom_18 : decode cX1_waysFrom 18 = .ok (.iload_n 3, 1) := by decide +kernel
theorem dX1_waysFrom_19 : decode cX1_waysFrom 19 = .ok (.iadd, 1) := by decide +kernel
theorem dX1_waysFrom_20 : decode cX1_waysFrom 20 = .ok (.iaload, 1) := by decide +kernel
theorem dX1_waysFrom_21 : decode cX1_waysFrom 21 = .ok (.ifCond .lt 6, 3) := by decide +kernel
theorem dX1_waysFrom_24 : decode cX1_waysFrom 24 = .ok (.iinc 2 1, 3) := by decide +kernel
theorem dX1_waysFrom_27 : decode cX1_waysFrom 27 = .ok (.iinc 3 1, 3) := by decide +kernel
theorem dX1_waysFrom_30 : decode cX1_waysFrom 30 = .ok (.goto (-26), 3) := by decide +kernel
theorem dX1_waysFrom_33 : decode cX1_waysFrom 33 = .ok (.iload_n 2, 1) := by decide +kernel
theorem dX1_waysFrom_34 : decode cX1_waysFrom 34 = .ok (.ireturn, 1) := by decide +kernel
theorem dX1_waysMany_0 : decode cX1_waysMany 0 = .ok (.iconst 0, 1) := by decide +kernel
theorem dX1_waysMany_1 : decode cX1_waysMany 1 = .ok (.istore_n 1, 1) := by decide +kernel
theorem dX1_waysMany_2 : decode cX1_waysMany 2 = .ok (.iconst 0, 1) := by decide +kernel
theorem dX1_waysMany_3 : decode cX1_waysMany 3 = .ok (.istore_n 2, 1) := by decide +kernel
theorem dX1_waysMany_4 : decode cX1_waysMany 4 = .ok (.iload_n 2, 1) := by decide +kernel
theorem dX1_waysMany_5 : decode cX1_waysMany 5 = .ok (.aload_n 0, 1) := by decide +kernel
theorem dX1_waysMany_6 : decode cX1_waysMany 6 = .ok (.getfield 18, 3) := by decide +kernel
theorem dX1_waysMany_9 : decode cX1_waysMany 9 = .ok (.getfield 50, 3) := by decide +kernel
theorem dX1_waysMany_12 : decode cX1_waysMany 12 = .ok (.if_icmp .ge 17, 3) := by decide +kernel
theorem dX1_waysMany_15 : decode cX1_waysMany 15 = .ok (.iload_n 1, 1) := by decide +kernel
theorem dX1_waysMany_16 : decode cX1_waysMany 16 = .ok (.aload_n 0, 1) := by decide +kernel
theorem dX1_waysMany_17 : decode cX1_waysMany 17 = .ok (.iload_n 2, 1) := by decide +kernel
theorem dX1_waysMany_18 : decode cX1_waysMany 18 = .ok (.invokevirtual 85, 3) := by decide +kernel
theorem dX1_waysMany_21 : decode cX1_waysMany 21 = .ok (.iadd, 1) := by decide +kernel
theorem dX1_waysMany_22 : decode cX1_waysMany 22 = .ok (.istore_n 1, 1) := by decide +kernel
theorem dX1_waysMany_23 : decode cX1_waysMany 23 = .ok (.iinc 2 1, 3) := by decide +kernel
theorem dX1_waysMany_26 : decode cX1_waysMany 26 = .ok (.goto (-22), 3) := by decide +kernel
theorem dX1_waysMany_29 : decode cX1_waysMany 29 = .ok (.iload_n 1, 1) := by decide +kernel
theorem dX1_waysMany_30 : decode cX1_waysMany 30 = .ok (.ireturn, 1) := by decide +kernel
theorem dX1_deepest_0 : decode cX1_deepest 0 = .ok (.iconst 0, 1) := by decide +kernel
theorem dX1_deepest_1 : decode cX1_deepest 1 = .ok (.istore_n 1, 1) := by decide +kernel
theorem dX1_deepest_2 : decode cX1_deepest 2 = .ok (.iconst 0, 1) := by decide +kernel
theorem dX1_deepest_3 : decode cX1_deepest 3 = .ok (.istore_n 2, 1) := by decide +kernel
theorem dX1_deepest_4 : decode cX1_deepest 4 = .ok (.iload_n 2, 1) := by decide +kernel
theorem dX1_deepest_5 : decode cX1_deepest 5 = .ok (.aload_n 0, 1) := by decide +kernel
theorem dX1_deepest_6 : decode cX1_deepest 6 = .ok (.getfield 18, 3) := by decide +kernel
theorem dX1_deepest_9 : decode cX1_deepest 9 = .ok (.getfield 50, 3) := by decide +kernel
theorem dX1_deepest_12 : decode cX1_deepest 12 = .ok (.if_icmp .ge 23, 3) := by decide +kernel
theorem dX1_deepest_15 : decode cX1_deepest 15 = .ok (.iload_n 1, 1) := by decide +kernel
theorem dX1_deepest_16 : decode cX1_deepest 16 = .ok (.aload_n 0, 1) := by decide +kernel
theorem dX1_deepest_17 : decode cX1_deepest 17 = .ok (.getfield 18, 3) := by decide +kernel
theorem dX1_deepest_20 : decode cX1_deepest 20 = .ok (.getfield 89, 3) := by decide +kernel
theorem dX1_deepest_23 : decode cX1_deepest 23 = .ok (.iload_n 2, 1) := by decide +kernel
theorem dX1_deepest_24 : decode cX1_deepest 24 = .ok (.iaload, 1) := by decide +kernel
theorem dX1_deepest_25 : decode cX1_deepest 25 = .ok (.invokestatic 92, 3) := by decide +kernel
theorem dX1_deepest_28 : decode cX1_deepest 28 = .ok (.istore_n 1, 1) := by decide +kernel
theorem dX1_deepest_29 : decode cX1_deepest 29 = .ok (.iinc 2 1, 3) := by decide +kernel
theorem dX1_deepest_32 : decode cX1_deepest 32 = .ok (.goto (-28), 3) := by decide +kernel
theorem dX1_deepest_35 : decode cX1_deepest 35 = .ok (.iload_n 1, 1) := by decide +kernel
theorem dX1_deepest_36 : decode cX1_deepest 36 = .ok (.ireturn, 1) := by decide +kernel
theorem dX1_firstOfFault_0 : decode cX1_firstOfFault 0 = .ok (.iconst 0, 1) := by decide +kernel
theorem dX1_firstOfFault_1 : decode cX1_firstOfFault 1 = .ok (.istore_n 2, 1) := by decide +kernel
theorem dX1_firstOfFault_2 : decode cX1_firstOfFault 2 = .ok (.iload_n 2, 1) := by decide +kernel
theorem dX1_firstOfFault_3 : decode cX1_firstOfFault 3 = .ok (.aload_n 0, 1) := by decide +kernel
theorem dX1_firstOfFault_4 : decode cX1_firstOfFault 4 = .ok (.getfield 18, 3) := by decide +kernel
theorem dX1_firstOfFault_7 : decode cX1_firstOfFault 7 = .ok (.getfield 50, 3) := by decide +kernel
theorem dX1_firstOfFault_10 : decode cX1_firstOfFault 10 = .ok (.if_icmp .ge 27, 3) := by decide +kernel
theorem dX1_firstOfFault_13 : decode cX1_firstOfFault 13 = .ok (.aload_n 0, 1) := by decide +kernel
theorem dX1_firstOfFault_14 : decode cX1_firstOfFault 14 = .ok (.getfield 18, 3) := by decide +kernel
theorem dX1_firstOfFault_17 : decode cX1_firstOfFault 17 = .ok (.getfield 73, 3) := by decide +kernel
theorem dX1_firstOfFault_20 : decode cX1_firstOfFault 20 = .ok (.iload_n 2, 1) := by decide +kernel
theorem dX1_firstOfFault_21 : decode cX1_firstOfFault 21 = .ok (.laload, 1) := by decide +kernel
theorem dX1_firstOfFault_22 : decode cX1_firstOfFault 22 = .ok (.invokestatic 98, 3) := by decide +kernel
theorem dX1_firstOfFault_25 : decode cX1_firstOfFault 25 = .ok (.iload_n 1, 1) := by decide +kernel
theorem dX1_firstOfFault_26 : decode cX1_firstOfFault 26 = .ok (.if_icmp .ne 5, 3) := by decide +kernel
theorem dX1_firstOfFault_29 : decode cX1_firstOfFault 29 = .ok (.iload_n 2, 1) := by decide +kernel
theorem dX1_firstOfFault_30 : decode cX1_firstOfFault 30 = .ok (.ireturn, 1) := by decide +kernel
theorem dX1_firstOfFault_31 : decode cX1_firstOfFault 31 = .ok (.iinc 2 1, 3) := by decide +kernel
theorem dX1_firstOfFault_34 : decode cX1_firstOfFault 34 = .ok (.goto (-32), 3) := by decide +kernel
theorem dX1_firstOfFault_37 : decode cX1_firstOfFault 37 = .ok (.bipush (-2), 2) := by decide +kernel
theorem dX1_firstOfFault_39 : decode cX1_firstOfFault 39 = .ok (.ireturn, 1) := by decide +kernel
theorem dX1_firstOfPressed_0 : decode cX1_firstOfPressed 0 = .ok (.iconst 0, 1) := by decide +kernel
theorem dX1_firstOfPressed_1 : decode cX1_firstOfPressed 1 = .ok (.istore_n 2, 1) := by decide +kernel
theorem dX1_firstOfPressed_2 : decode cX1_firstOfPressed 2 = .ok (.iload_n 2, 1) := by decide +kernel
theorem dX1_firstOfPressed_3 : decode cX1_firstOfPressed 3 = .ok (.aload_n 0, 1) := by decide +kernel
theorem dX1_firstOfPressed_4 : decode cX1_firstOfPressed 4 = .ok (.getfield 18, 3) := by decide +kernel
theorem dX1_firstOfPressed_7 : decode cX1_firstOfPressed 7 = .ok (.getfield 50, 3) := by decide +kernel
theorem dX1_firstOfPressed_10 : decode cX1_firstOfPressed 10 = .ok (.if_icmp .ge 25, 3) := by decide +kernel
theorem dX1_firstOfPressed_13 : decode cX1_firstOfPressed 13 = .ok (.aload_n 0, 1) := by decide +kernel
theorem dX1_firstOfPressed_14 : decode cX1_firstOfPressed 14 = .ok (.getfield 22, 3) := by decide +kernel
theorem dX1_firstOfPressed_17 : decode cX1_firstOfPressed 17 = .ok (.iload_n 2, 1) := by decide +kernel
theorem dX1_firstOfPressed_18 : decode cX1_firstOfPressed 18 = .ok (.bipush 27, 2) := by decide +kernel
theorem dX1_firstOfPressed_20 : decode cX1_firstOfPressed 20 = .ok (.imul, 1) := by decide +kernel
theorem dX1_firstOfPressed_21 : decode cX1_firstOfPressed 21 = .ok (.iload_n 1, 1) := by decide +kernel
theorem dX1_firstOfPressed_22 : decode cX1_firstOfPressed 22 = .ok (.iadd, 1) := by decide +kernel
theorem dX1_firstOfPressed_23 : decode cX1_firstOfPressed 23 = .ok (.iaload, 1) := by decide +kernel
theorem dX1_firstOfPressed_24 : decode cX1_firstOfPressed 24 = .ok (.ifCond .lt 5, 3) := by decide +kernel
theorem dX1_firstOfPressed_27 : decode cX1_firstOfPressed 27 = .ok (.iload_n 2, 1) := by decide +kernel
theorem dX1_firstOfPressed_28 : decode cX1_firstOfPressed 28 = .ok (.ireturn, 1) := by decide +kernel
theorem dX1_firstOfPressed_29 : decode cX1_firstOfPressed 29 = .ok (.iinc 2 1, 3) := by decide +kernel
theorem dX1_firstOfPressed_32 : decode cX1_firstOfPressed 32 = .ok (.goto (-30), 3) := by decide +kernel
theorem dX1_firstOfPressed_35 : decode cX1_firstOfPressed 35 = .ok (.bipush (-2), 2) := by decide +kernel
theorem dX1_firstOfPressed_37 : decode cX1_firstOfPressed 37 = .ok (.ireturn, 1) := by decide +kernel
theorem dX1_neverMany_0 : decode cX1_neverMany 0 = .ok (.iconst 0, 1) := by decide +kernel
theorem dX1_neverMany_1 : decode cX1_neverMany 1 = .ok (.istore_n 1, 1) := by decide +kernel
theorem dX1_neverMany_2 : decode cX1_neverMany 2 = .ok (.iconst 0, 1) := by decide +kernel
theorem dX1_neverMany_3 : decode cX1_neverMany 3 = .ok (.istore_n 2, 1) := by decide +kernel
theorem dX1_neverMany_4 : decode cX1_neverMany 4 = .ok (.iload_n 2, 1) := by decide +kernel
theorem dX1_neverMany_5 : decode cX1_neverMany 5 = .ok (.aload_n 0, 1) := by decide +kernel
theorem dX1_neverMany_6 : decode cX1_neverMany 6 = .ok (.getfield 42, 3) := by decide +kernel
theorem dX1_neverMany_9 : decode cX1_neverMany 9 = .ok (.getfield 104, 3) := by decide +kernel
theorem dX1_neverMany_12 : decode cX1_neverMany 12 = .ok (.if_icmp .ge 22, 3) := by decide +kernel
theorem dX1_neverMany_15 : decode cX1_neverMany 15 = .ok (.aload_n 0, 1) := by decide +kernel
theorem dX1_neverMany_16 : decode cX1_neverMany 16 = .ok (.iload_n 2, 1) := by decide +kernel
theorem dX1_neverMany_17 : decode cX1_neverMany 17 = .ok (.invokevirtual 107, 3) := by decide +kernel
theorem dX1_neverMany_20 : decode cX1_neverMany 20 = .ok (.bipush (-2), 2) := by decide +kernel
theorem dX1_neverMany_22 : decode cX1_neverMany 22 = .ok (.if_icmp .ne 6, 3) := by decide +kernel
theorem dX1_neverMany_25 : decode cX1_neverMany 25 = .ok (.iinc 1 1, 3) := by decide +kernel
theorem dX1_neverMany_28 : decode cX1_neverMany 28 = .ok (.iinc 2 1, 3) := by decide +kernel
theorem dX1_neverMany_31 : decode cX1_neverMany 31 = .ok (.goto (-27), 3) := by decide +kernel
theorem dX1_neverMany_34 : decode cX1_neverMany 34 = .ok (.iload_n 1, 1) := by decide +kernel
theorem dX1_neverMany_35 : decode cX1_neverMany 35 = .ok (.ireturn, 1) := by decide +kernel
theorem dX1_firstOfValue_0 : decode cX1_firstOfValue 0 = .ok (.iconst 0, 1) := by decide +kernel
theorem dX1_firstOfValue_1 : decode cX1_firstOfValue 1 = .ok (.istore_n 3, 1) := by decide +kernel
theorem dX1_firstOfValue_2 : decode cX1_firstOfValue 2 = .ok (.iload_n 3, 1) := by decide +kernel
theorem dX1_firstOfValue_3 : decode cX1_firstOfValue 3 = .ok (.aload_n 0, 1) := by decide +kernel
theorem dX1_firstOfValue_4 : decode cX1_firstOfValue 4 = .ok (.getfield 18, 3) := by decide +kernel
theorem dX1_firstOfValue_7 : decode cX1_firstOfValue 7 = .ok (.getfield 50, 3) := by decide +kernel
theorem dX1_firstOfValue_10 : decode cX1_firstOfValue 10 = .ok (.if_icmp .ge 28, 3) := by decide +kernel
theorem dX1_firstOfValue_13 : decode cX1_firstOfValue 13 = .ok (.aload_n 0, 1) := by decide +kernel
theorem dX1_firstOfValue_14 : decode cX1_firstOfValue 14 = .ok (.getfield 18, 3) := by decide +kernel
theorem dX1_firstOfValue_17 : decode cX1_firstOfValue 17 = .ok (.getfield 73, 3) := by decide +kernel
theorem dX1_firstOfValue_20 : decode cX1_firstOfValue 20 = .ok (.iload_n 3, 1) := by decide +kernel
theorem dX1_firstOfValue_21 : decode cX1_firstOfValue 21 = .ok (.laload, 1) := by decide +kernel
theorem dX1_firstOfValue_22 : decode cX1_firstOfValue 22 = .ok (.iload_n 1, 1) := by decide +kernel
theorem dX1_firstOfValue_23 : decode cX1_firstOfValue 23 = .ok (.invokestatic 110, 3) := by decide +kernel
theorem dX1_firstOfValue_26 : decode cX1_firstOfValue 26 = .ok (.iload_n 2, 1) := by decide +kernel
theorem dX1_firstOfValue_27 : decode cX1_firstOfValue 27 = .ok (.if_icmp .ne 5, 3) := by decide +kernel
theorem dX1_firstOfValue_30 : decode cX1_firstOfValue 30 = .ok (.iload_n 3, 1) := by decide +kernel
theorem dX1_firstOfValue_31 : decode cX1_firstOfValue 31 = .ok (.ireturn, 1) := by decide +kernel
theorem dX1_firstOfValue_32 : decode cX1_firstOfValue 32 = .ok (.iinc 3 1, 3) := by decide +kernel
theorem dX1_firstOfValue_35 : decode cX1_firstOfValue 35 = .ok (.goto (-33), 3) := by decide +kernel
theorem dX1_firstOfValue_38 : decode cX1_firstOfValue 38 = .ok (.bipush (-2), 2) := by decide +kernel
theorem dX1_firstOfValue_40 : decode cX1_firstOfValue 40 = .ok (.ireturn, 1) := by decide +kernel
theorem dX1_firstWithoutWayTo_0 : decode cX1_firstWithoutWayTo 0 = .ok (.iconst 0, 1) := by decide +kernel
theorem dX1_firstWithoutWayTo_1 : decode cX1_firstWithoutWayTo 1 = .ok (.istore_n 2, 1) := by decide +kernel
theorem dX1_firstWithoutWayTo_2 : decode cX1_firstWithoutWayTo 2 = .ok (.iload_n 2, 1) := by decide +kernel
theorem dX1_firstWithoutWayTo_3 : decode cX1_firstWithoutWayTo 3 = .ok (.aload_n 0, 1) := by decide +kernel
theorem dX1_firstWithoutWayTo_4 : decode cX1_firstWithoutWayTo 4 = .ok (.getfield 18, 3) := by decide +kernel
theorem dX1_firstWithoutWayTo_7 : decode cX1_firstWithoutWayTo 7 = .ok (.getfield 50, 3) := by decide +kernel
theorem dX1_firstWithoutWayTo_10 : decode cX1_firstWithoutWayTo 10 = .ok (.if_icmp .ge 36, 3) := by decide +kernel
theorem dX1_firstWithoutWayTo_13 : decode cX1_firstWithoutWayTo 13 = .ok (.aload_n 0, 1) := by decide +kernel
theorem dX1_firstWithoutWayTo_14 : decode cX1_firstWithoutWayTo 14 = .ok (.getfield 38, 3) := by decide +kernel
theorem dX1_firstWithoutWayTo_17 : decode cX1_firstWithoutWayTo 17 = .ok (.iload_n 2, 1) := by decide +kernel
theorem dX1_firstWithoutWayTo_18 : decode cX1_firstWithoutWayTo 18 = .ok (.aload_n 0, 1) := by decide +kernel
theorem dX1_firstWithoutWayTo_19 : decode cX1_firstWithoutWayTo 19 = .ok (.getfield 18, 3) := by decide +kernel
theorem dX1_firstWithoutWayTo_22 : decode cX1_firstWithoutWayTo 22 = .ok (.getfield 73, 3) := by decide +kernel
theorem dX1_firstWithoutWayTo_25 : decode cX1_firstWithoutWayTo 25 = .ok (.iload_n 2, 1) := by decide +kernel
theorem dX1_firstWithoutWayTo_26 : decode cX1_firstWithoutWayTo 26 = .ok (.laload, 1) := by decide +kernel
theorem dX1_firstWithoutWayTo_27 : decode cX1_firstWithoutWayTo 27 = .ok (.invokestatic 114, 3) := by decide +kernel
theorem dX1_firstWithoutWayTo_30 : decode cX1_firstWithoutWayTo 30 = .ok (.iload_n 1, 1) := by decide +kernel
theorem dX1_firstWithoutWayTo_31 : decode cX1_firstWithoutWayTo 31 = .ok (.if_icmp .ne 7, 3) := by decide +kernel
theorem dX1_firstWithoutWayTo_34 : decode cX1_firstWithoutWayTo 34 = .ok (.iconst 1, 1) := by decide +kernel
theorem dX1_firstWithoutWayTo_35 : decode cX1_firstWithoutWayTo 35 = .ok (.goto 4, 3) := by decide +kernel
theorem dX1_firstWithoutWayTo_38 : decode cX1_firstWithoutWayTo 38 = .ok (.iconst 0, 1) := by decide +kernel
theorem dX1_firstWithoutWayTo_39 : decode cX1_firstWithoutWayTo 39 = .ok (.bastore, 1) := by decide +kernel
theorem dX1_firstWithoutWayTo_40 : decode cX1_firstWithoutWayTo 40 = .ok (.iinc 2 1, 3) := by decide +kernel
theorem dX1_firstWithoutWayTo_43 : decode cX1_firstWithoutWayTo 43 = .ok (.goto (-41), 3) := by decide +kernel
theorem dX1_firstWithoutWayTo_46 : decode cX1_firstWithoutWayTo 46 = .ok (.iconst 1, 1) := by decide +kernel
theorem dX1_firstWithoutWayTo_47 : decode cX1_firstWithoutWayTo 47 = .ok (.istore_n 2, 1) := by decide +kernel
theorem dX1_firstWithoutWayTo_48 : decode cX1_firstWithoutWayTo 48 = .ok (.iconst 0, 1) := by decide +kernel
theorem dX1_firstWithoutWayTo_49 : decode cX1_firstWithoutWayTo 49 = .ok (.istore_n 3, 1) := by decide +kernel
theorem dX1_firstWithoutWayTo_50 : decode cX1_firstWithoutWayTo 50 = .ok (.iload_n 2, 1) := by decide +kernel
theorem dX1_firstWithoutWayTo_51 : decode cX1_firstWithoutWayTo 51 = .ok (.ifCond .eq 21, 3) := by decide +kernel
theorem dX1_firstWithoutWayTo_54 : decode cX1_firstWithoutWayTo 54 = .ok (.iload_n 3, 1) := by decide +kernel
theorem dX1_firstWithoutWayTo_55 : decode cX1_firstWithoutWayTo 55 = .ok (.sipush 400, 3) := by decide +kernel
theorem dX1_firstWithoutWayTo_58 : decode cX1_firstWithoutWayTo 58 = .ok (.if_icmp .gt 14, 3) := by decide +kernel
theorem dX1_firstWithoutWayTo_61 : decode cX1_firstWithoutWayTo 61 = .ok (.aload_n 0, 1) := by decide +kernel
theorem dX1_firstWithoutWayTo_62 : decode cX1_firstWithoutWayTo 62 = .ok (.invokevirtual 117, 3) := by decide +kernel
theorem dX1_firstWithoutWayTo_65 : decode cX1_firstWithoutWayTo 65 = .ok (.istore_n 2, 1) := by decide +kernel
theorem dX1_firstWithoutWayTo_66 : decode cX1_firstWithoutWayTo 66 = .ok (.iinc 3 1, 3) := by decide +kernel
theorem dX1_firstWithoutWayTo_69 : decode cX1_firstWithoutWayTo 69 = .ok (.goto (-19), 3) := by decide +kernel
theorem dX1_firstWithoutWayTo_72 : decode cX1_firstWithoutWayTo 72 = .ok (.iconst 0, 1) := by decide +kernel
theorem dX1_firstWithoutWayTo_73 : decode cX1_firstWithoutWayTo 73 = .ok (.istore_n 3, 1) := by decide +kernel
theorem dX1_firstWithoutWayTo_74 : decode cX1_firstWithoutWayTo 74 = .ok (.iload_n 3, 1) := by decide +kernel
theorem dX1_firstWithoutWayTo_75 : decode cX1_firstWithoutWayTo 75 = .ok (.aload_n 0, 1) := by decide +kernel
theorem dX1_firstWithoutWayTo_76 : decode cX1_firstWithoutWayTo 76 = .ok (.getfield 18, 3) := by decide +kernel
theorem dX1_firstWithoutWayTo_79 : decode cX1_firstWithoutWayTo 79 = .ok (.getfield 50, 3) := by decide +kernel
theorem dX1_firstWithoutWayTo_82 : decode cX1_firstWithoutWayTo 82 = .ok (.if_icmp .ge 20, 3) := by decide +kernel
theorem dX1_firstWithoutWayTo_85 : decode cX1_firstWithoutWayTo 85 = .ok (.aload_n 0, 1) := by decide +kernel
theorem dX1_firstWithoutWayTo_86 : decode cX1_firstWithoutWayTo 86 = .ok (.getfield 38, 3) := by decide +kernel
theorem dX1_firstWithoutWayTo_89 : decode cX1_firstWithoutWayTo 89 = .ok (.iload_n 3, 1) := by decide +kernel
theorem dX1_firstWithoutWayTo_90 : decode cX1_firstWithoutWayTo 90 = .ok (.baload, 1) := by decide +kernel
theorem dX1_firstWithoutWayTo_91 : decode cX1_firstWithoutWayTo 91 = .ok (.ifCond .ne 5, 3) := by decide +kernel
theorem dX1_firstWithoutWayTo_94 : decode cX1_firstWithoutWayTo 94 = .ok (.iload_n 3, 1) := by decide +kernel
theorem dX1_firstWithoutWayTo_95 : decode cX1_firstWithoutWayTo 95 = .ok (.ireturn, 1) := by decide +kernel
theorem dX1_firstWithoutWayTo_96 : decode cX1_firstWithoutWayTo 96 = .ok (.iinc 3 1, 3) := by decide +kernel
theorem dX1_firstWithoutWayTo_99 : decode cX1_firstWithoutWayTo 99 = .ok (.goto (-25), 3) := by decide +kernel
theorem dX1_firstWithoutWayTo_102 : decode cX1_firstWithoutWayTo 102 = .ok (.bipush (-2), 2) := by decide +kernel
theorem dX1_firstWithoutWayTo_104 : decode cX1_firstWithoutWayTo 104 = .ok (.ireturn, 1) := by decide +kernel
theorem dX1_markMore_0 : decode cX1_markMore 0 = .ok (.iconst 0, 1) := by decide +kernel
theorem dX1_markMore_1 : decode cX1_markMore 1 = .ok (.istore_n 1, 1) := by decide +kernel
theorem dX1_markMore_2 : decode cX1_markMore 2 = .ok (.aload_n 0, 1) := by decide +kernel
theorem dX1_markMore_3 : decode cX1_markMore 3 = .ok (.getfield 18, 3) := by decide +kernel
theorem dX1_markMore_6 : decode cX1_markMore 6 = .ok (.getfield 50, 3) := by decide +kernel
theorem dX1_markMore_9 : decode cX1_markMore 9 = .ok (.iconst 1, 1) := by decide +kernel
theorem dX1_markMore_10 : decode cX1_markMore 10 = .ok (.isub, 1) := by decide +kernel
theorem dX1_markMore_11 : decode cX1_markMore 11 = .ok (.istore_n 2, 1) := by decide +kernel
theorem dX1_markMore_12 : decode cX1_markMore 12 = .ok (.iload_n 2, 1) := by decide +kernel
theorem dX1_markMore_13 : decode cX1_markMore 13 = .ok (.ifCond .lt 35, 3) := by decide +kernel
theorem dX1_markMore_16 : decode cX1_markMore 16 = .ok (.aload_n 0, 1) := by decide +kernel
theorem dX1_markMore_17 : decode cX1_markMore 17 = .ok (.getfield 38, 3) := by decide +kernel
theorem dX1_markMore_20 : decode cX1_markMore 20 = .ok (.iload_n 2, 1) := by decide +kernel
theorem dX1_markMore_21 : decode cX1_markMore 21 = .ok (.baload, 1) := by decide +kernel
theorem dX1_markMore_22 : decode cX1_markMore 22 = .ok (.ifCond .ne 20, 3) := by decide +kernel
theorem dX1_markMore_25 : decode cX1_markMore 25 = .ok (.aload_n 0, 1) := by decide +kernel
theorem dX1_markMore_26 : decode cX1_markMore 26 = .ok (.iload_n 2, 1) := by decide +kernel
theorem dX1_markMore_27 : decode cX1_markMore 27 = .ok (.invokevirtual 120, 3) := by decide +kernel
theorem dX1_markMore_30 : decode cX1_markMore 30 = .ok (.ifCond .eq 12, 3) := by decide +kernel
theorem dX1_markMore_33 : decode cX1_markMore 33 = .ok (.aload_n 0, 1) := by decide +kernel
theorem dX1_markMore_34 : decode cX1_markMore 34 = .ok (.getfield 38, 3) := by decide +kernel
theorem dX1_markMore_37 : decode cX1_markMore 37 = .ok (.iload_n 2, 1) := by decide +kernel
theorem dX1_markMore_38 : decode cX1_markMore 38 = .ok (.iconst 1, 1) := by decide +kernel
theorem dX1_markMore_39 : decode cX1_markMore 39 = .ok (.bastore, 1) := by decide +kernel
theorem dX1_markMore_40 : decode cX1_markMore 40 = .ok (.iconst 1, 1) := by decide +kernel
theorem dX1_markMore_41 : decode cX1_markMore 41 = .ok (.istore_n 1, 1) := by decide +kernel
theorem dX1_markMore_42 : decode cX1_markMore 42 = .ok (.iinc 2 (-1), 3) := by decide +kernel
theorem dX1_markMore_45 : decode cX1_markMore 45 = .ok (.goto (-33), 3) := by decide +kernel
theorem dX1_markMore_48 : decode cX1_markMore 48 = .ok (.iload_n 1, 1) := by decide +kernel
theorem dX1_markMore_49 : decode cX1_markMore 49 = .ok (.ireturn, 1) := by decide +kernel
theorem dX1_leadsToMarked_0 : decode cX1_leadsToMarked 0 = .ok (.iconst 0, 1) := by decide +kernel
theorem dX1_leadsToMarked_1 : decode cX1_leadsToMarked 1 = .ok (.istore_n 2, 1) := by decide +kernel
theorem dX1_leadsToMarked_2 : decode cX1_leadsToMarked 2 = .ok (.iload_n 2, 1) := by decide +kernel
theorem dX1_leadsToMarked_3 : decode cX1_leadsToMarked 3 = .ok (.bipush 26, 2) := by decide +kernel
theorem dX1_leadsToMarked_5 : decode cX1_leadsToMarked 5 = .ok (.if_icmp .ge 36, 3) := by decide +kernel
theorem dX1_leadsToMarked_8 : decode cX1_leadsToMarked 8 = .ok (.aload_n 0, 1) := by decide +kernel
theorem dX1_leadsToMarked_9 : decode cX1_leadsToMarked 9 = .ok (.getfield 22, 3) := by decide +kernel
theorem dX1_leadsToMarked_12 : decode cX1_leadsToMarked 12 = .ok (.iload_n 1, 1) := by decide +kernel
theorem dX1_leadsToMarked_13 : decode cX1_leadsToMarked 13 = .ok (.bipush 27, 2) := by decide +kernel
theorem dX1_leadsToMarked_15 : decode cX1_leadsToMarked 15 = .ok (.imul, 1) := by decide +kernel
theorem dX1_leadsToMarked_16 : decode cX1_leadsToMarked 16 = .ok (.iload_n 2, 1) := by decide +kernel
theorem dX1_leadsToMarked_17 : decode cX1_leadsToMarked 17 = .ok (.iadd, 1) := by decide +kernel
theorem dX1_leadsToMarked_18 : decode cX1_leadsToMarked 18 = .ok (.iaload, 1) := by decide +kernel
theorem dX1_leadsToMarked_19 : decode cX1_leadsToMarked 19 = .ok (.istore_n 3, 1) := by decide +kernel
theorem dX1_leadsToMarked_20 : decode cX1_leadsToMarked 20 = .ok (.iload_n 3, 1) := by decide +kernel
theorem dX1_leadsToMarked_21 : decode cX1_leadsToMarked 21 = .ok (.ifCond .lt 14, 3) := by decide +kernel
theorem dX1_leadsToMarked_24 : decode cX1_leadsToMarked 24 = .ok (.aload_n 0, 1) := by decide +kernel
theorem dX1_leadsToMarked_25 : decode cX1_leadsToMarked 25 = .ok (.getfield 38, 3) := by decide +kernel
theorem dX1_leadsToMarked_28 : decode cX1_leadsToMarked 28 = .ok (.iload_n 3, 1) := by decide +kernel
theorem dX1_leadsToMarked_29 : decode cX1_leadsToMarked 29 = .ok (.baload, 1) := by decide +kernel
theorem dX1_leadsToMarked_30 : decode cX1_leadsToMarked 30 = .ok (.ifCond .eq 5, 3) := by decide +kernel
theorem dX1_leadsToMarked_33 : decode cX1_leadsToMarked 33 = .ok (.iconst 1, 1) := by decide +kernel
theorem dX1_leadsToMarked_34 : decode cX1_leadsToMarked 34 = .ok (.ireturn, 1) := by decide +kernel
theorem dX1_leadsToMarked_35 : decode cX1_leadsToMarked 35 = .ok (.iinc 2 1, 3) := by decide +kernel
theorem dX1_leadsToMarked_38 : decode cX1_leadsToMarked 38 = .ok (.goto (-36), 3) := by decide +kernel
theorem dX1_leadsToMarked_41 : decode cX1_leadsToMarked 41 = .ok (.iconst 0, 1) := by decide +kernel
theorem dX1_leadsToMarked_42 : decode cX1_leadsToMarked 42 = .ok (.ireturn, 1) := by decide +kernel
theorem dX1_viewsMany_0 : decode cX1_viewsMany 0 = .ok (.aload_n 0, 1) := by decide +kernel
theorem dX1_viewsMany_1 : decode cX1_viewsMany 1 = .ok (.getfield 26, 3) := by decide +kernel
theorem dX1_viewsMany_4 : decode cX1_viewsMany 4 = .ok (.invokevirtual 56, 3) := by decide +kernel
theorem dX1_viewsMany_7 : decode cX1_viewsMany 7 = .ok (.iconst 0, 1) := by decide +kernel
theorem dX1_viewsMany_8 : decode cX1_viewsMany 8 = .ok (.istore_n 1, 1) := by decide +kernel
theorem dX1_viewsMany_9 : decode cX1_viewsMany 9 = .ok (.iload_n 1, 1) := by decide +kernel
theorem dX1_viewsMany_10 : decode cX1_viewsMany 10 = .ok (.aload_n 0, 1) := by decide +kernel
theorem dX1_viewsMany_11 : decode cX1_viewsMany 11 = .ok (.getfield 18, 3) := by decide +kernel
theorem dX1_viewsMany_14 : decode cX1_viewsMany 14 = .ok (.getfield 50, 3) := by decide +kernel
theorem dX1_viewsMany_17 : decode cX1_viewsMany 17 = .ok (.if_icmp .ge 36, 3) := by decide +kernel
theorem dX1_viewsMany_20 : decode cX1_viewsMany 20 = .ok (.aload_n 0, 1) := by decide +kernel
theorem dX1_viewsMany_21 : decode cX1_viewsMany 21 = .ok (.getfield 26, 3) := by decide +kernel
theorem dX1_viewsMany_24 : decode cX1_viewsMany 24 = .ok (.aload_n 0, 1) := by decide +kernel
theorem dX1_viewsMany_25 : decode cX1_viewsMany 25 = .ok (.getfield 42, 3) := by decide +kernel
theorem dX1_viewsMany_28 : decode cX1_viewsMany 28 = .ok (.aload_n 0, 1) := by decide +kernel
theorem dX1_viewsMany_29 : decode cX1_viewsMany 29 = .ok (.getfield 18, 3) := by decide +kernel
theorem dX1_viewsMany_32 : decode cX1_viewsMany 32 = .ok (.getfield 73, 3) := by decide +kernel
theorem dX1_viewsMany_35 : decode cX1_viewsMany 35 = .ok (.iload_n 1, 1) := by decide +kernel
theorem dX1_viewsMany_36 : decode cX1_viewsMany 36 = .ok (.laload, 1) := by decide +kernel
theorem dX1_viewsMany_37 : decode cX1_viewsMany 37 = .ok (.invokevirtual 124, 3) := by decide +kernel
theorem dX1_viewsMany_40 : decode cX1_viewsMany 40 = .ok (.lconst 0, 1) := by decide +kernel
theorem dX1_viewsMany_41 : decode cX1_viewsMany 41 = .ok (.iconst (-1), 1) := by decide +kernel
theorem dX1_viewsMany_42 : decode cX1_viewsMany 42 = .ok (.iconst (-1), 1) := by decide +kernel
theorem dX1_viewsMany_43 : decode cX1_viewsMany 43 = .ok (.invokevirtual 65, 3) := by decide +kernel
theorem dX1_viewsMany_46 : decode cX1_viewsMany 46 = .ok (.pop, 1) := by decide +kernel
theorem dX1_viewsMany_47 : decode cX1_viewsMany 47 = .ok (.iinc 1 1, 3) := by decide +kernel
theorem dX1_viewsMany_50 : decode cX1_viewsMany 50 = .ok (.goto (-41), 3) := by decide +kernel
theorem dX1_viewsMany_53 : decode cX1_viewsMany 53 = .ok (.aload_n 0, 1) := by decide +kernel
theorem dX1_viewsMany_54 : decode cX1_viewsMany 54 = .ok (.getfield 26, 3) := by decide +kernel
theorem dX1_viewsMany_57 : decode cX1_viewsMany 57 = .ok (.getfield 50, 3) := by decide +kernel
theorem dX1_viewsMany_60 : decode cX1_viewsMany 60 = .ok (.ireturn, 1) := by decide +kernel
theorem dX1_kindsMany_0 : decode cX1_kindsMany 0 = .ok (.aload_n 0, 1) := by decide +kernel
theorem dX1_kindsMany_1 : decode cX1_kindsMany 1 = .ok (.getfield 29, 3) := by decide +kernel
theorem dX1_kindsMany_4 : decode cX1_kindsMany 4 = .ok (.ifCond .ne 18, 3) := by decide +kernel
theorem dX1_kindsMany_7 : decode cX1_kindsMany 7 = .ok (.aload_n 0, 1) := by decide +kernel
theorem dX1_kindsMany_8 : decode cX1_kindsMany 8 = .ok (.invokevirtual 46, 3) := by decide +kernel
theorem dX1_kindsMany_11 : decode cX1_kindsMany 11 = .ok (.ifCond .eq 11, 3) := by decide +kernel
theorem dX1_kindsMany_14 : decode cX1_kindsMany 14 = .ok (.aload_n 0, 1) := by decide +kernel
theorem dX1_kindsMany_15 : decode cX1_kindsMany 15 = .ok (.invokevirtual 128, 3) := by decide +kernel
theorem dX1_kindsMany_18 : decode cX1_kindsMany 18 = .ok (.aload_n 0, 1) := by decide +kernel
theorem dX1_kindsMany_19 : decode cX1_kindsMany 19 = .ok (.invokevirtual 131, 3) := by decide +kernel
theorem dX1_kindsMany_22 : decode cX1_kindsMany 22 = .ok (.aload_n 0, 1) := by decide +kernel
theorem dX1_kindsMany_23 : decode cX1_kindsMany 23 = .ok (.getfield 29, 3) := by decide +kernel
theorem dX1_kindsMany_26 : decode cX1_kindsMany 26 = .ok (.ireturn, 1) := by decide +kernel
theorem dX1_kindOf_0 : decode cX1_kindOf 0 = .ok (.aload_n 0, 1) := by decide +kernel
theorem dX1_kindOf_1 : decode cX1_kindOf 1 = .ok (.invokevirtual 134, 3) := by decide +kernel
theorem dX1_kindOf_4 : decode cX1_kindOf 4 = .ok (.ifCond .le 12, 3) := by decide +kernel
theorem dX1_kindOf_7 : decode cX1_kindOf 7 = .ok (.aload_n 0, 1) := by decide +kernel
theorem dX1_kindOf_8 : decode cX1_kindOf 8 = .ok (.getfield 32, 3) := by decide +kernel
theorem dX1_kindOf_11 : decode cX1_kindOf 11 = .ok (.iload_n 1, 1) := by decide +kernel
theorem dX1_kindOf_12 : decode cX1_kindOf 12 = .ok (.iaload, 1) := by decide +kernel
theorem dX1_kindOf_13 : decode cX1_kindOf 13 = .ok (.goto 4, 3) := by decide +kernel
theorem dX1_kindOf_16 : decode cX1_kindOf 16 = .ok (.iconst (-1), 1) := by decide +kernel
theorem dX1_kindOf_17 : decode cX1_kindOf 17 = .ok (.ireturn, 1) := by decide +kernel
theorem dX1_partByViews_0 : decode cX1_partByViews 0 = .ok (.aload_n 0, 1) := by decide +kernel
theorem dX1_partByViews_1 : decode cX1_partByViews 1 = .ok (.getfield 26, 3) := by decide +kernel
theorem dX1_partByViews_4 : decode cX1_partByViews 4 = .ok (.invokevirtual 56, 3) := by decide +kernel
theorem dX1_partByViews_7 : decode cX1_partByViews 7 = .ok (.iconst 0, 1) := by decide +kernel
theorem dX1_partByViews_8 : decode cX1_partByViews 8 = .ok (.istore_n 1, 1) := by decide +kernel
theorem dX1_partByViews_9 : decode cX1_partByViews 9 = .ok (.iload_n 1, 1) := by decide +kernel
theorem dX1_partByViews_10 : decode cX1_partByViews 10 = .ok (.aload_n 0, 1) := by decide +kernel
theorem dX1_partByViews_11 : decode cX1_partByViews 11 = .ok (.getfield 18, 3) := by decide +kernel
theorem dX1_partByViews_14 : decode cX1_partByViews 14 = .ok (.getfield 50, 3) := by decide +kernel
theorem dX1_partByViews_17 : decode cX1_partByViews 17 = .ok (.if_icmp .ge 65, 3) := by decide +kernel
theorem dX1_partByViews_20 : decode cX1_partByViews 20 = .ok (.aload_n 0, 1) := by decide +kernel
theorem dX1_partByViews_21 : decode cX1_partByViews 21 = .ok (.getfield 18, 3) := by decide +kernel
theorem dX1_partByViews_24 : decode cX1_partByViews 24 = .ok (.getfield 73, 3) := by decide +kernel
theorem dX1_partByViews_27 : decode cX1_partByViews 27 = .ok (.iload_n 1, 1) := by decide +kernel
theorem dX1_partByViews_28 : decode cX1_partByViews 28 = .ok (.laload, 1) := by decide +kernel
theorem dX1_partByViews_29 : decode cX1_partByViews 29 = .ok (.lstore_n 2, 1) := by decide +kernel
theorem dX1_partByViews_30 : decode cX1_partByViews 30 = .ok (.aload_n 0, 1) := by decide +kernel
theorem dX1_partByViews_31 : decode cX1_partByViews 31 = .ok (.getfield 42, 3) := by decide +kernel
theorem dX1_partByViews_34 : decode cX1_partByViews 34 = .ok (.lload_n 2, 1) := by decide +kernel
theorem dX1_partByViews_35 : decode cX1_partByViews 35 = .ok (.bipush 25, 2) := by decide +kernel
theorem dX1_partByViews_37 : decode cX1_partByViews 37 = .ok (.invokevirtual 77, 3) := by decide +kernel
theorem dX1_partByViews_40 : decode cX1_partByViews 40 = .ok (.ifCond .eq 7, 3) := by decide +kernel
theorem dX1_partByViews_43 : decode cX1_partByViews 43 = .ok (.iconst 1, 1) := by decide +kernel
theorem dX1_partByViews_44 : decode cX1_partByViews 44 = .ok (.goto 4, 3) := by decide +kernel
theorem dX1_partByViews_47 : decode cX1_partByViews 47 = .ok (.iconst 0, 1) := by decide +kernel
theorem dX1_partByViews_48 : decode cX1_partByViews 48 = .ok (.istore 4, 2) := by decide +kernel
theorem dX1_partByViews_50 : decode cX1_partByViews 50 = .ok (.aload_n 0, 1) := by decide +kernel
theorem dX1_partByViews_51 : decode cX1_partByViews 51 = .ok (.getfield 32, 3) := by decide +kernel
theorem dX1_partByViews_54 : decode cX1_partByViews 54 = .ok (.iload_n 1, 1) := by decide +kernel
theorem dX1_partByViews_55 : decode cX1_partByViews 55 = .ok (.aload_n 0, 1) := by decide +kernel
theorem dX1_partByViews_56 : decode cX1_partByViews 56 = .ok (.getfield 26, 3) := by decide +kernel
theorem dX1_partByViews_59 : decode cX1_partByViews 59 = .ok (.aload_n 0, 1) := by decide +kernel
theorem dX1_partByViews_60 : decode cX1_partByViews 60 = .ok (.getfield 42, 3) := by decide +kernel
theorem dX1_partByViews_63 : decode cX1_partByViews 63 = .ok (.lload_n 2, 1) := by decide +kernel
theorem dX1_partByViews_64 : decode cX1_partByViews 64 = .ok (.invokevirtual 124, 3) := by decide +kernel
theorem dX1_partByViews_67 : decode cX1_partByViews 67 = .ok (.iload 4, 2) := by decide +kernel
theorem dX1_partByViews_69 : decode cX1_partByViews 69 = .ok (.i2l, 1) := by decide +kernel
theorem dX1_partByViews_70 : decode cX1_partByViews 70 = .ok (.iconst (-1), 1) := by decide +kernel
theorem dX1_partByViews_71 : decode cX1_partByViews 71 = .ok (.iconst (-1), 1) := by decide +kernel
theorem dX1_partByViews_72 : decode cX1_partByViews 72 = .ok (.invokevirtual 65, 3) := by decide +kernel
theorem dX1_partByViews_75 : decode cX1_partByViews 75 = .ok (.iastore, 1) := by decide +kernel
theorem dX1_partByViews_76 : decode cX1_partByViews 76 = .ok (.iinc 1 1, 3) := by decide +kernel
theorem dX1_partByViews_79 : decode cX1_partByViews 79 = .ok (.goto (-70), 3) := by decide +kernel
theorem dX1_partByViews_82 : decode cX1_partByViews 82 = .ok (.aload_n 0, 1) := by decide +kernel
theorem dX1_partByViews_83 : decode cX1_partByViews 83 = .ok (.aload_n 0, 1) := by decide +kernel
theorem dX1_partByViews_84 : decode cX1_partByViews 84 = .ok (.getfield 26, 3) := by decide +kernel
theorem dX1_partByViews_87 : decode cX1_partByViews 87 = .ok (.getfield 50, 3) := by decide +kernel
theorem dX1_partByViews_90 : decode cX1_partByViews 90 = .ok (.putfield 29, 3) := by decide +kernel
theorem dX1_partByViews_93 : decode cX1_partByViews 93 = .ok (.return_, 1) := by decide +kernel
theorem dX1_partByWays_0 : decode cX1_partByWays 0 = .ok (.iconst 0, 1) := by decide +kernel
theorem dX1_partByWays_1 : decode cX1_partByWays 1 = .ok (.istore_n 1, 1) := by decide +kernel
theorem dX1_partByWays_2 : decode cX1_partByWays 2 = .ok (.iconst 0, 1) := by decide +kernel
theorem dX1_partByWays_3 : decode cX1_partByWays 3 = .ok (.istore_n 2, 1) := by decide +kernel
theorem dX1_partByWays_4 : decode cX1_partByWays 4 = .ok (.iload_n 1, 1) := by decide +kernel
theorem dX1_partByWays_5 : decode cX1_partByWays 5 = .ok (.bipush 27, 2) := by decide +kernel
theorem dX1_partByWays_7 : decode cX1_partByWays 7 = .ok (.if_icmp .ge 35, 3) := by decide +kernel
theorem dX1_partByWays_10 : decode cX1_partByWays 10 = .ok (.iload_n 2, 1) := by decide +kernel
theorem dX1_partByWays_11 : decode cX1_partByWays 11 = .ok (.sipush 10827, 3) := by decide +kernel
theorem dX1_partByWays_14 : decode cX1_partByWays 14 = .ok (.if_icmp .ge 28, 3) := by decide +kernel
theorem dX1_partByWays_17 : decode cX1_partByWays 17 = .ok (.aload_n 0, 1) := by decide +kernel
theorem dX1_partByWays_18 : decode cX1_partByWays 18 = .ok (.iload_n 2, 1) := by decide +kernel
theorem dX1_partByWays_19 : decode cX1_partByWays 19 = .ok (.bipush 27, 2) := by decide +kernel
theorem dX1_partByWays_21 : decode cX1_partByWays 21 = .ok (.irem, 1) := by decide +kernel
theorem dX1_partByWays_22 : decode cX1_partByWays 22 = .ok (.invokevirtual 138, 3) := by decide +kernel
theorem dX1_partByWays_25 : decode cX1_partByWays 25 = .ok (.ifCond .eq 7, 3) := by decide +kernel
theorem dX1_partByWays_28 : decode cX1_partByWays 28 = .ok (.iconst 0, 1) := by decide +kernel
theorem dX1_partByWays_29 : decode cX1_partByWays 29 = .ok (.goto 6, 3) := by decide +kernel
theorem dX1_partByWays_32 : decode cX1_partByWays 32 = .ok (.iload_n 1, 1) := by decide +kernel
theorem dX1_partByWays_33 : decode cX1_partByWays 33 = .ok (.iconst 1, 1) := by decide +kernel
theorem dX1_partByWays_34 : decode cX1_partByWays 34 = .ok (.iadd, 1) := by decide +kernel
theorem dX1_partByWays_35 : decode cX1_partByWays 35 = .ok (.istore_n 1, 1) := by decide +kernel
theorem dX1_partByWays_36 : decode cX1_partByWays 36 = .ok (.iinc 2 1, 3) := by decide +kernel
theorem dX1_partByWays_39 : decode cX1_partByWays 39 = .ok (.goto (-35), 3) := by decide +kernel
theorem dX1_partByWays_42 : decode cX1_partByWays 42 = .ok (.return_, 1) := by decide +kernel
theorem dX1_partedBy_0 : decode cX1_partedBy 0 = .ok (.iload_n 1, 1) := by decide +kernel
theorem dX1_partedBy_1 : decode cX1_partedBy 1 = .ok (.aload_n 0, 1) := by decide +kernel
theorem dX1_partedBy_2 : decode cX1_partedBy 2 = .ok (.getfield 42, 3) := by decide +kernel
theorem dX1_partedBy_5 : decode cX1_partedBy 5 = .ok (.getfield 104, 3) := by decide +kernel
theorem dX1_partedBy_8 : decode cX1_partedBy 8 = .ok (.if_icmp .lt 11, 3) := by decide +kernel
theorem dX1_partedBy_11 : decode cX1_partedBy 11 = .ok (.iload_n 1, 1) := by decide +kernel
theorem dX1_partedBy_12 : decode cX1_partedBy 12 = .ok (.bipush 24, 2) := by decide +kernel
theorem dX1_partedBy_14 : decode cX1_partedBy 14 = .ok (.if_icmp .ge 5, 3) := by decide +kernel
theorem dX1_partedBy_17 : decode cX1_partedBy 17 = .ok (.iconst 0, 1) := by decide +kernel
theorem dX1_partedBy_18 : decode cX1_partedBy 18 = .ok (.ireturn, 1) := by decide +kernel
theorem dX1_partedBy_19 : decode cX1_partedBy 19 = .ok (.aload_n 0, 1) := by decide +kernel
theorem dX1_partedBy_20 : decode cX1_partedBy 20 = .ok (.getfield 26, 3) := by decide +kernel
theorem dX1_partedBy_23 : decode cX1_partedBy 23 = .ok (.invokevirtual 56, 3) := by decide +kernel
theorem dX1_partedBy_26 : decode cX1_partedBy 26 = .ok (.iconst 0, 1) := by decide +kernel
theorem dX1_partedBy_27 : decode cX1_partedBy 27 = .ok (.istore_n 2, 1) := by decide +kernel
theorem dX1_partedBy_28 : decode cX1_partedBy 28 = .ok (.iload_n 2, 1) := by decide +kernel
theorem dX1_partedBy_29 : decode cX1_partedBy 29 = .ok (.aload_n 0, 1) := by decide +kernel
theorem dX1_partedBy_30 : decode cX1_partedBy 30 = .ok (.getfield 18, 3) := by decide +kernel
theorem dX1_partedBy_33 : decode cX1_partedBy 33 = .ok (.getfield 50, 3) := by decide +kernel
theorem dX1_partedBy_36 : decode cX1_partedBy 36 = .ok (.if_icmp .ge 60, 3) := by decide +kernel
theorem dX1_partedBy_39 : decode cX1_partedBy 39 = .ok (.aload_n 0, 1) := by decide +kernel
theorem dX1_partedBy_40 : decode cX1_partedBy 40 = .ok (.getfield 22, 3) := by decide +kernel
theorem dX1_partedBy_43 : decode cX1_partedBy 43 = .ok (.iload_n 2, 1) := by decide +kernel
theorem dX1_partedBy_44 : decode cX1_partedBy 44 = .ok (.bipush 27, 2) := by decide +kernel
theorem dX1_partedBy_46 : decode cX1_partedBy 46 = .ok (.imul, 1) := by decide +kernel
theorem dX1_partedBy_47 : decode cX1_partedBy 47 = .ok (.iload_n 1, 1) := by decide +kernel
theorem dX1_partedBy_48 : decode cX1_partedBy 48 = .ok (.iadd, 1) := by decide +kernel
theorem dX1_partedBy_49 : decode cX1_partedBy 49 = .ok (.iaload, 1) := by decide +kernel
theorem dX1_partedBy_50 : decode cX1_partedBy 50 = .ok (.istore_n 3, 1) := by decide +kernel
theorem dX1_partedBy_51 : decode cX1_partedBy 51 = .ok (.aload_n 0, 1) := by decide +kernel
theorem dX1_partedBy_52 : decode cX1_partedBy 52 = .ok (.getfield 35, 3) := by decide +kernel
theorem dX1_partedBy_55 : decode cX1_partedBy 55 = .ok (.iload_n 2, 1) := by decide +kernel
theorem dX1_partedBy_56 : decode cX1_partedBy 56 = .ok (.aload_n 0, 1) := by decide +kernel
theorem dX1_partedBy_57 : decode cX1_partedBy 57 = .ok (.getfield 26, 3) := by decide +kernel
theorem dX1_partedBy_60 : decode cX1_partedBy 60 = .ok (.aload_n 0, 1) := by decide +kernel
theorem dX1_partedBy_61 : decode cX1_partedBy 61 = .ok (.getfield 32, 3) := by decide +kernel
theorem dX1_partedBy_64 : decode cX1_partedBy 64 = .ok (.iload_n 2, 1) := by decide +kernel
theorem dX1_partedBy_65 : decode cX1_partedBy 65 = .ok (.iaload, 1) := by decide +kernel
theorem dX1_partedBy_66 : decode cX1_partedBy 66 = .ok (.i2l, 1) := by decide +kernel
theorem dX1_partedBy_67 : decode cX1_partedBy 67 = .ok (.iload_n 3, 1) := by decide +kernel
theorem dX1_partedBy_68 : decode cX1_partedBy 68 = .ok (.ifCond .lt 13, 3) := by decide +kernel
theorem dX1_partedBy_71 : decode cX1_partedBy 71 = .ok (.aload_n 0, 1) := by decide +kernel
theorem dX1_partedBy_72 : decode cX1_partedBy 72 = .ok (.getfield 32, 3) := by decide +kernel
theorem dX1_partedBy_75 : decode cX1_partedBy 75 = .ok (.iload_n 3, 1) := by decide +kernel
theorem dX1_partedBy_76 : decode cX1_partedBy 76 = .ok (.iaload, 1) := by decide +kernel
theorem dX1_partedBy_77 : decode cX1_partedBy 77 = .ok (.i2l, 1) := by decide +kernel
theorem dX1_partedBy_78 : decode cX1_partedBy 78 = .ok (.goto 6, 3) := by decide +kernel
theorem dX1_partedBy_81 : decode cX1_partedBy 81 = .ok (.ldc2_w 141, 3) := by decide +kernel
theorem dX1_partedBy_84 : decode cX1_partedBy 84 = .ok (.iconst (-1), 1) := by decide +kernel
theorem dX1_partedBy_85 : decode cX1_partedBy 85 = .ok (.iconst (-1), 1) := by decide +kernel
theorem dX1_partedBy_86 : decode cX1_partedBy 86 = .ok (.invokevirtual 65, 3) := by decide +kernel
theorem dX1_partedBy_89 : decode cX1_partedBy 89 = .ok (.iastore, 1) := by decide +kernel
theorem dX1_partedBy_90 : decode cX1_partedBy 90 = .ok (.iinc 2 1, 3) := by decide +kernel
theorem dX1_partedBy_93 : decode cX1_partedBy 93 = .ok (.goto (-65), 3) := by decide +kernel
theorem dX1_partedBy_96 : decode cX1_partedBy 96 = .ok (.aload_n 0, 1) := by decide +kernel
theorem dX1_partedBy_97 : decode cX1_partedBy 97 = .ok (.getfield 35, 3) := by decide +kernel
theorem dX1_partedBy_100 : decode cX1_partedBy 100 = .ok (.iconst 0, 1) := by decide +kernel
theorem dX1_partedBy_101 : decode cX1_partedBy 101 = .ok (.aload_n 0, 1) := by decide +kernel
theorem dX1_partedBy_102 : decode cX1_partedBy 102 = .ok (.getfield 32, 3) := by decide +kernel
theorem dX1_partedBy_105 : decode cX1_partedBy 105 = .ok (.iconst 0, 1) := by decide +kernel
theorem dX1_partedBy_106 : decode cX1_partedBy 106 = .ok (.aload_n 0, 1) := by decide +kernel
theorem dX1_partedBy_107 : decode cX1_partedBy 107 = .ok (.getfield 18, 3) := by decide +kernel
theorem dX1_partedBy_110 : decode cX1_partedBy 110 = .ok (.getfield 50, 3) := by decide +kernel
theorem dX1_partedBy_113 : decode cX1_partedBy 113 = .ok (.invokestatic 143, 3) := by decide +kernel
theorem dX1_partedBy_116 : decode cX1_partedBy 116 = .ok (.aload_n 0, 1) := by decide +kernel
theorem dX1_partedBy_117 : decode cX1_partedBy 117 = .ok (.getfield 26, 3) := by decide +kernel
theorem dX1_partedBy_120 : decode cX1_partedBy 120 = .ok (.getfield 50, 3) := by decide +kernel
theorem dX1_partedBy_123 : decode cX1_partedBy 123 = .ok (.aload_n 0, 1) := by decide +kernel
theorem dX1_partedBy_124 : decode cX1_partedBy 124 = .ok (.getfield 29, 3) := by decide +kernel
theorem dX1_partedBy_127 : decode cX1_partedBy 127 = .ok (.if_icmp .le 7, 3) := by decide +kernel
theorem dX1_partedBy_130 : decode cX1_partedBy 130 = .ok (.iconst 1, 1) := by decide +kernel
theorem dX1_partedBy_131 : decode cX1_partedBy 131 = .ok (.goto 4, 3) := by decide +kernel
theorem dX1_partedBy_134 : decode cX1_partedBy 134 = .ok (.iconst 0, 1) := by decide +kernel
theorem dX1_partedBy_135 : decode cX1_partedBy 135 = .ok (.istore_n 2, 1) := by decide +kernel
theorem dX1_partedBy_136 : decode cX1_partedBy 136 = .ok (.aload_n 0, 1) := by decide +kernel
theorem dX1_partedBy_137 : decode cX1_partedBy 137 = .ok (.aload_n 0, 1) := by decide +kernel
theorem dX1_partedBy_138 : decode cX1_partedBy 138 = .ok (.getfield 26, 3) := by decide +kernel
theorem dX1_partedBy_141 : decode cX1_partedBy 141 = .ok (.getfield 50, 3) := by decide +kernel
theorem dX1_partedBy_144 : decode cX1_partedBy 144 = .ok (.putfield 29, 3) := by decide +kernel
theorem dX1_partedBy_147 : decode cX1_partedBy 147 = .ok (.iload_n 2, 1) := by decide +kernel
theorem dX1_partedBy_148 : decode cX1_partedBy 148 = .ok (.ireturn, 1) := by decide +kernel
theorem dX2_init_0 : decode cX2_init 0 = .ok (.aload_n 0, 1) := by decide +kernel
theorem dX2_init_1 : decode cX2_init 1 = .ok (.invokespecial 3, 3) := by decide +kernel
theorem dX2_init_4 : decode cX2_init 4 = .ok (.aload_n 0, 1) := by decide +kernel
theorem dX2_init_5 : decode cX2_init 5 = .ok (.new 9, 3) := by decide +kernel
theorem dX2_init_8 : decode cX2_init 8 = .ok (.dup, 1) := by decide +kernel
theorem dX2_init_9 : decode cX2_init 9 = .ok (.invokespecial 11, 3) := by decide +kernel
theorem dX2_init_12 : decode cX2_init 12 = .ok (.putfield 12, 3) := by decide +kernel
theorem dX2_init_15 : decode cX2_init 15 = .ok (.aload_n 0, 1) := by decide +kernel
theorem dX2_init_16 : decode cX2_init 16 = .ok (.iconst 0, 1) := by decide +kernel
theorem dX2_init_17 : decode cX2_init 17 = .ok (.putfield 18, 3) := by decide +kernel
theorem dX2_init_20 : decode cX2_init 20 = .ok (.aload_n 0, 1) := by decide +kernel
theorem dX2_init_21 : decode cX2_init 21 = .ok (.iconst (-1), 1) := by decide +kernel
theorem dX2_init_22 : decode cX2_init 22 = .ok (.putfield 22, 3) := by decide +kernel
theorem dX2_init_25 : decode cX2_init 25 = .ok (.aload_n 0, 1) := by decide +kernel
theorem dX2_init_26 : decode cX2_init 26 = .ok (.iconst (-1), 1) := by decide +kernel
theorem dX2_init_27 : decode cX2_init 27 = .ok (.putfield 26, 3) := by decide +kernel
theorem dX2_init_30 : decode cX2_init 30 = .ok (.aload_n 0, 1) := by decide +kernel
theorem dX2_init_31 : decode cX2_init 31 = .ok (.aload_n 1, 1) := by decide +kernel
theorem dX2_init_32 : decode cX2_init 32 = .ok (.putfield 29, 3) := by decide +kernel
theorem dX2_init_35 : decode cX2_init 35 = .ok (.aload_n 0, 1) := by decide +kernel
theorem dX2_init_36 : decode cX2_init 36 = .ok (.aload_n 2, 1) := by decide +kernel
theorem dX2_init_37 : decode cX2_init 37 = .ok (.putfield 33, 3) := by decide +kernel
theorem dX2_init_40 : decode cX2_init 40 = .ok (.return_, 1) := by decide +kernel
theorem dX2_goThrough_0 : decode cX2_goThrough 0 = .ok (.aload_n 0, 1) := by decide +kernel
theorem dX2_goThrough_1 : decode cX2_goThrough 1 = .ok (.aload_n 1, 1) := by decide +kernel
theorem dX2_goThrough_2 : decode cX2_goThrough 2 = .ok (.putfield 29, 3) := by decide +kernel
theorem dX2_goThrough_5 : decode cX2_goThrough 5 = .ok (.aload_n 0, 1) := by decide +kernel
theorem dX2_goThrough_6 : decode cX2_goThrough 6 = .ok (.aload_n 2, 1) := by decide +kernel
theorem dX2_goThrough_7 : decode cX2_goThrough 7 = .ok (.putfield 33, 3) := by decide +kernel
theorem dX2_goThrough_10 : decode cX2_goThrough 10 = .ok (.aload_n 0, 1) := by decide +kernel
theorem dX2_goThrough_11 : decode cX2_goThrough 11 = .ok (.iconst 0, 1) := by decide +kernel
theorem dX2_goThrough_12 : decode cX2_goThrough 12 = .ok (.putfield 18, 3) := by decide +kernel
theorem dX2_goThrough_15 : decode cX2_goThrough 15 = .ok (.aload_n 0, 1) := by decide +kernel
theorem dX2_goThrough_16 : decode cX2_goThrough 16 = .ok (.iconst (-1), 1) := by decide +kernel
theorem dX2_goThrough_17 : decode cX2_goThrough 17 = .ok (.putfield 22, 3) := by decide +kernel
theorem dX2_goThrough_20 : decode cX2_goThrough 20 = .ok (.aload_n 0, 1) := by decide +kernel
theorem dX2_goThrough_21 : decode cX2_goThrough 21 = .ok (.iconst (-1), 1) := by decide +kernel
theorem dX2_goThrough_22 : decode cX2_goThrough 22 = .ok (.putfield 26, 3) := by decide +kernel
theorem dX2_goThrough_25 : decode cX2_goThrough 25 = .ok (.aload_n 0, 1) := by decide +kernel
theorem dX2_goThrough_26 : decode cX2_goThrough 26 = .ok (.getfield 12, 3) := by decide +kernel
theorem dX2_goThrough_29 : decode cX2_goThrough 29 = .ok (.invokevirtual 36, 3) := by decide +kernel
theorem dX2_goThrough_32 : decode cX2_goThrough 32 = .ok (.aload_n 0, 1) := by decide +kernel
theorem dX2_goThrough_33 : decode cX2_goThrough 33 = .ok (.getfield 12, 3) := by decide +kernel
theorem dX2_goThrough_36 : decode cX2_goThrough 36 = .ok (.aload_n 1, 1) := by decide +kernel
theorem dX2_goThrough_37 : decode cX2_goThrough 37 = .ok (.invokevirtual 39, 3) := by decide +kernel
theorem dX2_goThrough_40 : decode cX2_goThrough 40 = .ok (.aload_n 2, 1) := by decide +kernel
theorem dX2_goThrough_41 : decode cX2_goThrough 41 = .ok (.invokevirtual 39, 3) := by decide +kernel
theorem dX2_goThrough_44 : decode cX2_goThrough 44 = .ok (.iconst (-1), 1) := by decide +kernel
theorem dX2_goThrough_45 : decode cX2_goThrough 45 = .ok (.iconst (-1), 1) := by decide +kernel
theorem dX2_goThrough_46 : decode cX2_goThrough 46 = .ok (.invokevirtual 45, 3) := by decide +kernel
theorem dX2_goThrough_49 : decode cX2_goThrough 49 = .ok (.pop, 1) := by decide +kernel
theorem dX2_goThrough_50 : decode cX2_goThrough 50 = .ok (.aload_n 0, 1) := by decide +kernel
theorem dX2_goThrough_51 : decode cX2_goThrough 51 = .ok (.iconst 0, 1) := by decide +kernel
theorem dX2_goThrough_52 : decode cX2_goThrough 52 = .ok (.invokevirtual 49, 3) := by decide +kernel
theorem dX2_goThrough_55 : decode cX2_goThrough 55 = .ok (.iconst 0, 1) := by decide +kernel
theorem dX2_goThrough_56 : decode cX2_goThrough 56 = .ok (.istore_n 3, 1) := by decide +kernel
theorem dX2_goThrough_57 : decode cX2_goThrough 57 = .ok (.iload_n 3, 1) := by decide +kernel
theorem dX2_goThrough_58 : decode cX2_goThrough 58 = .ok (.aload_n 0, 1) := by decide +kernel
theorem dX2_goThrough_59 : decode cX2_goThrough 59 = .ok (.getfield 12, 3) := by decide +kernel
theorem dX2_goThrough_62 : decode cX2_goThrough 62 = .ok (.getfield 53, 3) := by decide +kernel
theorem dX2_goThrough_65 : decode cX2_goThrough 65 = .ok (.if_icmp .ge 73, 3) := by decide +kernel
theorem dX2_goThrough_68 : decode cX2_goThrough 68 = .ok (.iload_n 3, 1) := by decide +kernel
theorem dX2_goThrough_69 : decode cX2_goThrough 69 = .ok (.sipush 400, 3) := by decide +kernel
theorem dX2_goThrough_72 : decode cX2_goThrough 72 = .ok (.if_icmp .ge 66, 3) := by decide +kernel
theorem dX2_goThrough_75 : decode cX2_goThrough 75 = .ok (.aload_n 0, 1) := by decide +kernel
theorem dX2_goThrough_76 : decode cX2_goThrough 76 = .ok (.invokevirtual 56, 3) := by decide +kernel
theorem dX2_goThrough_79 : decode cX2_goThrough 79 = .ok (.ifCond .ne 59, 3) := by decide +kernel
theorem dX2_goThrough_82 : decode cX2_goThrough 82 = .ok (.iconst 0, 1) := by decide +kernel
theorem dX2_goThrough_83 : decode cX2_goThrough 83 = .ok (.istore 4, 2) := by decide +kernel
theorem dX2_goThrough_85 : decode cX2_goThrough 85 = .ok (.iload 4, 2) := by decide +kernel
theorem dX2_goThrough_87 : decode cX2_goThrough 87 = .ok (.bipush 27, 2) := by decide +kernel
theorem dX2_goThrough_89 : decode cX2_goThrough 89 = .ok (.if_icmp .ge 38, 3) := by decide +kernel
theorem dX2_goThrough_92 : decode cX2_goThrough 92 = .ok (.aload_n 0, 1) := by decide +kernel
theorem dX2_goThrough_93 : decode cX2_goThrough 93 = .ok (.invokevirtual 56, 3) := by decide +kernel
theorem dX2_goThrough_96 : decode cX2_goThrough 96 = .ok (.ifCond .ne 31, 3) := by decide +kernel
theorem dX2_goThrough_99 : decode cX2_goThrough 99 = .ok (.aload_n 0, 1) := by decide +kernel
theorem dX2_goThrough_100 : decode cX2_goThrough 100 = .ok (.getfield 12, 3) := by decide +kernel
theorem dX2_goThrough_103 : decode cX2_goThrough 103 = .ok (.getfield 53, 3) := by decide +kernel
theorem dX2_goThrough_106 : decode cX2_goThrough 106 = .ok (.istore 5, 2) := by decide +kernel
theorem dX2_goThrough_108 : decode cX2_goThrough 108 = .ok (.aload_n 0, 1) := by decide +kernel
theorem dX2_goThrough_109 : decode cX2_goThrough 109 = .ok (.iload_n 3, 1) := by decide +kernel
theorem dX2_goThrough_110 : decode cX2_goThrough 110 = .ok (.iload 4, 2) := by decide +kernel
theorem dX2_goThrough_112 : decode cX2_goThrough 112 = .ok (.invokevirtual 60, 3) := by decide +kernel
theorem dX2_goThrough_115 : decode cX2_goThrough 115 = .ok (.aload_n 0, 1) := by decide +kernel
theorem dX2_goThrough_116 : decode cX2_goThrough 116 = .ok (.iload 5, 2) := by decide +kernel
theorem dX2_goThrough_118 : decode cX2_goThrough 118 = .ok (.invokevirtual 49, 3) := by decide +kernel
theorem dX2_goThrough_121 : decode cX2_goThrough 121 = .ok (.iinc 4 1, 3) := by decide +kernel
theorem dX2_goThrough_124 : decode cX2_goThrough 124 = .ok (.goto (-39), 3) := by decide +kernel
theorem dX2_goThrough_127 : decode cX2_goThrough 127 = .ok (.aload_n 0, 1) := by decide +kernel
theorem dX2_goThrough_128 : decode cX2_goThrough 128 = .ok (.iload_n 3, 1) := by decide +kernel
theorem dX2_goThrough_129 : decode cX2_goThrough 129 = .ok (.invokevirtual 64, 3) := by decide +kernel
theorem dX2_goThrough_132 : decode cX2_goThrough 132 = .ok (.iinc 3 1, 3) := by decide +kernel
theorem dX2_goThrough_135 : decode cX2_goThrough 135 = .ok (.goto (-78), 3) := by decide +kernel
theorem dX2_goThrough_138 : decode cX2_goThrough 138 = .ok (.return_, 1) := by decide +kernel
theorem dX2_ended_0 : decode cX2_ended 0 = .ok (.aload_n 0, 1) := by decide +kernel
theorem dX2_ended_1 : decode cX2_ended 1 = .ok (.getfield 18, 3) := by decide +kernel
theorem dX2_ended_4 : decode cX2_ended 4 = .ok (.ifCond .ne 11, 3) := by decide +kernel
theorem dX2_ended_7 : decode cX2_ended 7 = .ok (.aload_n 0, 1) := by decide +kernel
theorem dX2_ended_8 : decode cX2_ended 8 = .ok (.getfield 22, 3) := by decide +kernel
theorem dX2_ended_11 : decode cX2_ended 11 = .ok (.iconst (-1), 1) := by decide +kernel
theorem dX2_ended_12 : decode cX2_ended 12 = .ok (.if_icmp .eq 7, 3) := by decide +kernel
theorem dX2_ended_15 : decode cX2_ended 15 = .ok (.iconst 1, 1) := by decide +kernel
theorem dX2_ended_16 : decode cX2_ended 16 = .ok (.goto 4, 3) := by decide +kernel
theorem dX2_ended_19 : decode cX2_ended 19 = .ok (.iconst 0, 1) := by decide +kernel
theorem dX2_ended_20 : decode cX2_ended 20 = .ok (.ireturn, 1) := by decide +kernel
theorem dX2_goByFirst_0 : decode cX2_goByFirst 0 = .ok (.aload_n 0, 1) := by decide +kernel
theorem dX2_goByFirst_1 : decode cX2_goByFirst 1 = .ok (.getfield 12, 3) := by decide +kernel
theorem dX2_goByFirst_4 : decode cX2_goByFirst 4 = .ok (.getfield 67, 3) := by decide +kernel
theorem dX2_goByFirst_7 : decode cX2_goByFirst 7 = .ok (.iload_n 1, 1) := by decide +kernel
theorem dX2_goByFirst_8 : decode cX2_goByFirst 8 = .ok (.laload, 1) := by decide +kernel
theorem dX2_goByFirst_9 : decode cX2_goByFirst 9 = .ok (.lstore_n 3, 1) := by decide +kernel
theorem dX2_goByFirst_10 : decode cX2_goByFirst 10 = .ok (.aload_n 0, 1) := by decide +kernel
theorem dX2_goByFirst_11 : decode cX2_goByFirst 11 = .ok (.getfield 12, 3) := by decide +kernel
theorem dX2_goByFirst_14 : decode cX2_goByFirst 14 = .ok (.getfield 71, 3) := by decide +kernel
theorem dX2_goByFirst_17 : decode cX2_goByFirst 17 = .ok (.iload_n 1, 1) := by decide +kernel
theorem dX2_goByFirst_18 : decode cX2_goByFirst 18 = .ok (.laload, 1) := by decide +kernel
theorem dX2_goByFirst_19 : decode cX2_goByFirst 19 = .ok (.lstore 5, 2) := by decide +kernel
theorem dX2_goByFirst_21 : decode cX2_goByFirst 21 = .ok (.aload_n 0, 1) := by decide +kernel
theorem dX2_goByFirst_22 : decode cX2_goByFirst 22 = .ok (.getfield 29, 3) := by decide +kernel
theorem dX2_goByFirst_25 : decode cX2_goByFirst 25 = .ok (.lload_n 3, 1) := by decide +kernel
theorem dX2_goByFirst_26 : decode cX2_goByFirst 26 = .ok (.iload_n 2, 1) := by decide +kernel
theorem dX2_goByFirst_27 : decode cX2_goByFirst 27 = .ok (.invokevirtual 74, 3) := by decide +kernel
theorem dX2_goByFirst_30 : decode cX2_goByFirst 30 = .ok (.ifCond .ne 4, 3) := by decide +kernel
theorem dX2_goByFirst_33 : decode cX2_goByFirst 33 = .ok (.return_, 1) := by decide +kernel
theorem dX2_goByFirst_34 : decode cX2_goByFirst 34 = .ok (.aload_n 0, 1) := by decide +kernel
theorem dX2_goByFirst_35 : decode cX2_goByFirst 35 = .ok (.getfield 29, 3) := by decide +kernel
theorem dX2_goByFirst_38 : decode cX2_goByFirst 38 = .ok (.iload_n 2, 1) := by decide +kernel
theorem dX2_goByFirst_39 : decode cX2_goByFirst 39 = .ok (.aload_n 0, 1) := by decide +kernel
theorem dX2_goByFirst_40 : decode cX2_goByFirst 40 = .ok (.getfield 33, 3) := by decide +kernel
theorem dX2_goByFirst_43 : decode cX2_goByFirst 43 = .ok (.lload 5, 2) := by decide +kernel
theorem dX2_goByFirst_45 : decode cX2_goByFirst 45 = .ok (.invokestatic 78, 3) := by decide +kernel
theorem dX2_goByFirst_48 : decode cX2_goByFirst 48 = .ok (.istore 7, 2) := by decide +kernel
theorem dX2_goByFirst_50 : decode cX2_goByFirst 50 = .ok (.aload_n 0, 1) := by decide +kernel
theorem dX2_goByFirst_51 : decode cX2_goByFirst 51 = .ok (.getfield 33, 3) := by decide +kernel
theorem dX2_goByFirst_54 : decode cX2_goByFirst 54 = .ok (.lload 5, 2) := by decide +kernel
theorem dX2_goByFirst_56 : decode cX2_goByFirst 56 = .ok (.iload 7, 2) := by decide +kernel
theorem dX2_goByFirst_58 : decode cX2_goByFirst 58 = .ok (.invokevirtual 74, 3) := by decide +kernel
theorem dX2_goByFirst_61 : decode cX2_goByFirst 61 = .ok (.ifCond .ne 14, 3) := by decide +kernel
theorem dX2_goByFirst_64 : decode cX2_goByFirst 64 = .ok (.aload_n 0, 1) := by decide +kernel
theorem dX2_goByFirst_65 : decode cX2_goByFirst 65 = .ok (.iload_n 1, 1) := by decide +kernel
theorem dX2_goByFirst_66 : decode cX2_goByFirst 66 = .ok (.putfield 22, 3) := by decide +kernel
theorem dX2_goByFirst_69 : decode cX2_goByFirst 69 = .ok (.aload_n 0, 1) := by decide +kernel
theorem dX2_goByFirst_70 : decode cX2_goByFirst 70 = .ok (.iload_n 2, 1) := by decide +kernel
theorem dX2_goByFirst_71 : decode cX2_goByFirst 71 = .ok (.putfield 26, 3) := by decide +kernel
theorem dX2_goByFirst_74 : decode cX2_goByFirst 74 = .ok (.return_, 1) := by decide +kernel
theorem dX2_goByFirst_75 : decode cX2_goByFirst 75 = .ok (.aload_n 0, 1) := by decide +kernel
theorem dX2_goByFirst_76 : decode cX2_goByFirst 76 = .ok (.getfield 12, 3) := by decide +kernel
theorem dX2_goByFirst_79 : decode cX2_goByFirst 79 = .ok (.aload_n 0, 1) := by decide +kernel
theorem dX2_goByFirst_80 : decode cX2_goByFirst 80 = .ok (.getfield 29, 3) := by decide +kernel
theorem dX2_goByFirst_83 : decode cX2_goByFirst 83 = .ok (.lload_n 3, 1) := by decide +kernel
theorem dX2_goByFirst_84 : decode cX2_goByFirst 84 = .ok (.iload_n 2, 1) := by decide +kernel
theorem dX2_goByFirst_85 : decode cX2_goByFirst 85 = .ok (.invokevirtual 82, 3) := by decide +kernel
theorem dX2_goByFirst_88 : decode cX2_goByFirst 88 = .ok (.aload_n 0, 1) := by decide +kernel
theorem dX2_goByFirst_89 : decode cX2_goByFirst 89 = .ok (.getfield 33, 3) := by decide +kernel
theorem dX2_goByFirst_92 : decode cX2_goByFirst 92 = .ok (.lload 5, 2) := by decide +kernel
theorem dX2_goByFirst_94 : decode cX2_goByFirst 94 = .ok (.iload 7, 2) := by decide +kernel
theorem dX2_goByFirst_96 : decode cX2_goByFirst 96 = .ok (.invokevirtual 82, 3) := by decide +kernel
theorem dX2_goByFirst_99 : decode cX2_goByFirst 99 = .ok (.iload_n 1, 1) := by decide +kernel
theorem dX2_goByFirst_100 : decode cX2_goByFirst 100 = .ok (.iload_n 2, 1) := by decide +kernel
theorem dX2_goByFirst_101 : decode cX2_goByFirst 101 = .ok (.invokevirtual 45, 3) := by decide +kernel
theorem dX2_goByFirst_104 : decode cX2_goByFirst 104 = .ok (.istore 8, 2) := by decide +kernel
theorem dX2_goByFirst_106 : decode cX2_goByFirst 106 = .ok (.aload_n 0, 1) := by decide +kernel
theorem dX2_goByFirst_107 : decode cX2_goByFirst 107 = .ok (.iload 8, 2) := by decide +kernel
theorem dX2_goByFirst_109 : decode cX2_goByFirst 109 = .ok (.iconst (-1), 1) := by decide +kernel
theorem dX2_goByFirst_110 : decode cX2_goByFirst 110 = .ok (.if_icmp .ne 7, 3) := by decide +kernel
theorem dX2_goByFirst_113 : decode cX2_goByFirst 113 = .ok (.iconst 1, 1) := by decide +kernel
theorem dX2_goByFirst_114 : decode cX2_goByFirst 114 = .ok (.goto 4, 3) := by decide +kernel
theorem dX2_goByFirst_117 : decode cX2_goByFirst 117 = .ok (.iconst 0, 1) := by decide +kernel
theorem dX2_goByFirst_118 : decode cX2_goByFirst 118 = .ok (.putfield 18, 3) := by decide +kernel
theorem dX2_goByFirst_121 : decode cX2_goByFirst 121 = .ok (.return_, 1) := by decide +kernel
theorem dX2_findAloneInSecond_0 : decode cX2_findAloneInSecond 0 = .ok (.aload_n 0, 1) := by decide +kernel
theorem dX2_findAloneInSecond_1 : decode cX2_findAloneInSecond 1 = .ok (.getfield 33, 3) := by decide +kernel
theorem dX2_findAloneInSecond_4 : decode cX2_findAloneInSecond 4 = .ok (.aload_n 0, 1) := by decide +kernel
theorem dX2_findAloneInSecond_5 : decode cX2_findAloneInSecond 5 = .ok (.getfield 12, 3) := by decide +kernel
theorem dX2_findAloneInSecond_8 : decode cX2_findAloneInSecond 8 = .ok (.getfield 71, 3) := by decide +kernel
theorem dX2_findAloneInSecond_11 : decode cX2_findAloneInSecond 11 = .ok (.iload_n 1, 1) := by decide +kernel
theorem dX2_findAloneInSecond_12 : decode cX2_findAloneInSecond 12 = .ok (.laload, 1) := by decide +kernel
theorem dX2_findAloneInSecond_13 : decode cX2_findAloneInSecond 13 = .ok (.bipush 25, 2) := by decide +kernel
theorem dX2_findAloneInSecond_15 : decode cX2_findAloneInSecond 15 = .ok (.invokevirtual 74, 3) := by decide +kernel
theorem dX2_findAloneInSecond_18 : decode cX2_findAloneInSecond 18 = .ok (.ifCond .eq 28, 3) := by decide +kernel
theorem dX2_findAloneInSecond_21 : decode cX2_findAloneInSecond 21 = .ok (.aload_n 0, 1) := by decide +kernel
theorem dX2_findAloneInSecond_22 : decode cX2_findAloneInSecond 22 = .ok (.getfield 29, 3) := by decide +kernel
theorem dX2_findAloneInSecond_25 : decode cX2_findAloneInSecond 25 = .ok (.aload_n 0, 1) := by decide +kernel
theorem dX2_findAloneInSecond_26 : decode cX2_findAloneInSecond 26 = .ok (.getfield 12, 3) := by decide +kernel
theorem dX2_findAloneInSecond_29 : decode cX2_findAloneInSecond 29 = .ok (.getfield 67, 3) := by decide +kernel
theorem dX2_findAloneInSecond_32 : decode cX2_findAloneInSecond 32 = .ok (.iload_n 1, 1) := by decide +kernel
theorem dX2_findAloneInSecond_33 : decode cX2_findAloneInSecond 33 = .ok (.laload, 1) := by decide +kernel
theorem dX2_findAloneInSecond_34 : decode cX2_findAloneInSecond 34 = .ok (.bipush 25, 2) := by decide +kernel
theorem dX2_findAloneInSecond_36 : decode cX2_findAloneInSecond 36 = .ok (.invokevirtual 74, 3) := by decide +kernel
theorem dX2_findAloneInSecond_39 : decode cX2_findAloneInSecond 39 = .ok (.ifCond .ne 7, 3) := by decide +kernel
theorem dX2_findAloneInSecond_42 : decode cX2_findAloneInSecond 42 = .ok (.iconst 1, 1) := by decide +kernel
theorem dX2_findAloneInSecond_43 : decode cX2_findAloneInSecond 43 = .ok (.goto 4, 3) := by decide +kernel
theorem dX2_findAloneInSecond_46 : decode cX2_findAloneInSecond 46 = .ok (.iconst 0, 1) := by decide +kernel
theorem dX2_findAloneInSecond_47 : decode cX2_findAloneInSecond 47 = .ok (.istore_n 2, 1) := by decide +kernel
theorem dX2_findAloneInSecond_48 : decode cX2_findAloneInSecond 48 = .ok (.iload_n 2, 1) := by decide +kernel
theorem dX2_findAloneInSecond_49 : decode cX2_findAloneInSecond 49 = .ok (.ifCond .eq 21, 3) := by decide +kernel
theorem dX2_findAloneInSecond_52 : decode cX2_findAloneInSecond 52 = .ok (.aload_n 0, 1) := by decide +kernel
theorem dX2_findAloneInSecond_53 : decode cX2_findAloneInSecond 53 = .ok (.invokevirtual 56, 3) := by decide +kernel
theorem dX2_findAloneInSecond_56 : decode cX2_findAloneInSecond 56 = .ok (.ifCond .ne 14, 3) := by decide +kernel
theorem dX2_findAloneInSecond_59 : decode cX2_findAloneInSecond 59 = .ok (.aload_n 0, 1) := by decide +kernel
theorem dX2_findAloneInSecond_60 : decode cX2_findAloneInSecond 60 = .ok (.iload_n 1, 1) := by decide +kernel
theorem dX2_findAloneInSecond_61 : decode cX2_findAloneInSecond 61 = .ok (.putfield 22, 3) := by decide +kernel
theorem dX2_findAloneInSecond_64 : decode cX2_findAloneInSecond 64 = .ok (.aload_n 0, 1) := by decide +kernel
theorem dX2_findAloneInSecond_65 : decode cX2_findAloneInSecond 65 = .ok (.bipush 125, 2) := by decide +kernel
theorem dX2_findAloneInSecond_67 : decode cX2_findAloneInSecond 67 = .ok (.putfield 26, 3) := by decide +kernel
theorem dX2_findAloneInSecond_70 : decode cX2_findAloneInSecond 70 = .ok (.return_, 1) := by decide +kernel
theorem dX2_lookAt_0 : decode cX2_lookAt 0 = .ok (.iload_n 1, 1) := by decide +kernel
theorem dX2_lookAt_1 : decode cX2_lookAt 1 = .ok (.aload_n 0, 1) := by decide +kernel
theorem dX2_lookAt_2 : decode cX2_lookAt 2 = .ok (.getfield 12, 3) := by decide +kernel
theorem dX2_lookAt_5 : decode cX2_lookAt 5 = .ok (.getfield 53, 3) := by decide +kernel
theorem dX2_lookAt_8 : decode cX2_lookAt 8 = .ok (.if_icmp .ge 33, 3) := by decide +kernel
theorem dX2_lookAt_11 : decode cX2_lookAt 11 = .ok (.aload_n 0, 1) := by decide +kernel
theorem dX2_lookAt_12 : decode cX2_lookAt 12 = .ok (.aload_n 0, 1) := by decide +kernel
theorem dX2_lookAt_13 : decode cX2_lookAt 13 = .ok (.getfield 12, 3) := by decide +kernel
theorem dX2_lookAt_16 : decode cX2_lookAt 16 = .ok (.getfield 67, 3) := by decide +kernel
theorem dX2_lookAt_19 : decode cX2_lookAt 19 = .ok (.iload_n 1, 1) := by decide +kernel
theorem dX2_lookAt_20 : decode cX2_lookAt 20 = .ok (.laload, 1) := by decide +kernel
theorem dX2_lookAt_21 : decode cX2_lookAt 21 = .ok (.aload_n 0, 1) := by decide +kernel
theorem dX2_lookAt_22 : decode cX2_lookAt 22 = .ok (.getfield 12, 3) := by decide +kernel
theorem dX2_lookAt_25 : decode cX2_lookAt 25 = .ok (.getfield 71, 3) := by decide +kernel
theorem dX2_lookAt_28 : decode cX2_lookAt 28 = .ok (.iload_n 1, 1) := by decide +kernel
theorem dX2_lookAt_29 : decode cX2_lookAt 29 = .ok (.laload, 1) := by decide +kernel
theorem dX2_lookAt_30 : decode cX2_lookAt 30 = .ok (.invokevirtual 86, 3) := by decide +kernel
theorem dX2_lookAt_33 : decode cX2_lookAt 33 = .ok (.ifCond .eq 8, 3) := by decide +kernel
theorem dX2_lookAt_36 : decode cX2_lookAt 36 = .ok (.aload_n 0, 1) := by decide +kernel
theorem dX2_lookAt_37 : decode cX2_lookAt 37 = .ok (.iload_n 1, 1) := by decide +kernel
theorem dX2_lookAt_38 : decode cX2_lookAt 38 = .ok (.putfield 22, 3) := by decide +kernel
theorem dX2_lookAt_41 : decode cX2_lookAt 41 = .ok (.return_, 1) := by decide +kernel
theorem dX2_twin_0 : decode cX2_twin 0 = .ok (.iload_n 1, 1) := by decide +kernel
theorem dX2_twin_1 : decode cX2_twin 1 = .ok (.bipush 24, 2) := by decide +kernel
theorem dX2_twin_3 : decode cX2_twin 3 = .ok (.if_icmp .lt 5, 3) := by decide +kernel
theorem dX2_twin_6 : decode cX2_twin 6 = .ok (.iload_n 1, 1) := by decide +kernel
theorem dX2_twin_7 : decode cX2_twin 7 = .ok (.ireturn, 1) := by decide +kernel
theorem dX2_twin_8 : decode cX2_twin 8 = .ok (.lload_n 3, 1) := by decide +kernel
theorem dX2_twin_9 : decode cX2_twin 9 = .ok (.invokestatic 90, 3) := by decide +kernel
theorem dX2_twin_12 : decode cX2_twin 12 = .ok (.istore 5, 2) := by decide +kernel
theorem dX2_twin_14 : decode cX2_twin 14 = .ok (.iload 5, 2) := by decide +kernel
theorem dX2_twin_16 : decode cX2_twin 16 = .ok (.iconst (-1), 1) := by decide +kernel
theorem dX2_twin_17 : decode cX2_twin 17 = .ok (.if_icmp .ne 7, 3) := by decide +kernel
theorem dX2_twin_20 : decode cX2_twin 20 = .ok (.iconst (-1), 1) := by decide +kernel
theorem dX2_twin_21 : decode cX2_twin 21 = .ok (.goto 15, 3) := by decide +kernel
theorem dX2_twin_24 : decode cX2_twin 24 = .ok (.aload_n 2, 1) := by decide +kernel
theorem dX2_twin_25 : decode cX2_twin 25 = .ok (.iload 5, 2) := by decide +kernel
theorem dX2_twin_27 : decode cX2_twin 27 = .ok (.aload_n 0, 1) := by decide +kernel
theorem dX2_twin_28 : decode cX2_twin 28 = .ok (.getfield 96, 3) := by decide +kernel
theorem dX2_twin_31 : decode cX2_twin 31 = .ok (.iload_n 1, 1) := by decide +kernel
theorem dX2_twin_32 : decode cX2_twin 32 = .ok (.laload, 1) := by decide +kernel
theorem dX2_twin_33 : decode cX2_twin 33 = .ok (.invokevirtual 99, 3) := by decide +kernel
theorem dX2_twin_36 : decode cX2_twin 36 = .ok (.ireturn, 1) := by decide +kernel
theorem dX2_showUnlike_0 : decode cX2_showUnlike 0 = .ok (.lload_n 1, 1) := by decide +kernel
theorem dX2_showUnlike_1 : decode cX2_showUnlike 1 = .ok (.invokestatic 90, 3) := by decide +kernel
theorem dX2_showUnlike_4 : decode cX2_showUnlike 4 = .ok (.istore 5, 2) := by decide +kernel
theorem dX2_showUnlike_6 : decode cX2_showUnlike 6 = .ok (.lload_n 3, 1) := by decide +kernel
theorem dX2_showUnlike_7 : decode cX2_showUnlike 7 = .ok (.invokestatic 90, 3) := by decide +kernel
theorem dX2_showUnlike_10 : decode cX2_showUnlike 10 = .ok (.istore 6, 2) := by decide +kernel
theorem dX2_showUnlike_12 : decode cX2_showUnlike 12 = .ok (.iload 5, 2) := by decide +kernel
theorem dX2_showUnlike_14 : decode cX2_showUnlike 14 = .ok (.iconst (-1), 1) := by decide +kernel
theorem dX2_showUnlike_15 : decode cX2_showUnlike 15 = .ok (.if_icmp .eq 9, 3) := by decide +kernel
theorem dX2_showUnlike_18 : decode cX2_showUnlike 18 = .ok (.iload 6, 2) := by decide +kernel
theorem dX2_showUnlike_20 : decode cX2_showUnlike 20 = .ok (.iconst (-1), 1) := by decide +kernel
theorem dX2_showUnlike_21 : decode cX2_showUnlike 21 = .ok (.if_icmp .ne 20, 3) := by decide +kernel
theorem dX2_showUnlike_24 : decode cX2_showUnlike 24 = .ok (.lload_n 1, 1) := by decide +kernel
theorem dX2_showUnlike_25 : decode cX2_showUnlike 25 = .ok (.invokestatic 103, 3) := by decide +kernel
theorem dX2_showUnlike_28 : decode cX2_showUnlike 28 = .ok (.lload_n 3, 1) := by decide +kernel
theorem dX2_showUnlike_29 : decode cX2_showUnlike 29 = .ok (.invokestatic 103, 3) := by decide +kernel
theorem dX2_showUnlike_32 : decode cX2_showUnlike 32 = .ok (.if_icmp .eq 7, 3) := by decide +kernel
theorem dX2_showUnlike_35 : decode cX2_showUnlike 35 = .ok (.iconst 1, 1) := by decide +kernel
theorem dX2_showUnlike_36 : decode cX2_showUnlike 36 = .ok (.goto 4, 3) := by decide +kernel
theorem dX2_showUnlike_39 : decode cX2_showUnlike 39 = .ok (.iconst 0, 1) := by decide +kernel
theorem dX2_showUnlike_40 : decode cX2_showUnlike 40 = .ok (.ireturn, 1) := by decide +kernel
theorem dX2_showUnlike_41 : decode cX2_showUnlike 41 = .ok (.aload_n 0, 1) := by decide +kernel
theorem dX2_showUnlike_42 : decode cX2_showUnlike 42 = .ok (.getfield 29, 3) := by decide +kernel
theorem dX2_showUnlike_45 : decode cX2_showUnlike 45 = .ok (.getfield 106, 3) := by decide +kernel
theorem dX2_showUnlike_48 : decode cX2_showUnlike 48 = .ok (.iload 5, 2) := by decide +kernel
theorem dX2_showUnlike_50 : decode cX2_showUnlike 50 = .ok (.laload, 1) := by decide +kernel
theorem dX2_showUnlike_51 : decode cX2_showUnlike 51 = .ok (.aload_n 0, 1) := by decide +kernel
theorem dX2_showUnlike_52 : decode cX2_showUnlike 52 = .ok (.getfield 33, 3) := by decide +kernel
theorem dX2_showUnlike_55 : decode cX2_showUnlike 55 = .ok (.getfield 106, 3) := by decide +kernel
theorem dX2_showUnlike_58 : decode cX2_showUnlike 58 = .ok (.iload 6, 2) := by decide +kernel
theorem dX2_showUnlike_60 : decode cX2_showUnlike 60 = .ok (.laload, 1) := by decide +kernel
theorem dX2_showUnlike_61 : decode cX2_showUnlike 61 = .ok (.lcmp, 1) := by decide +kernel
theorem dX2_showUnlike_62 : decode cX2_showUnlike 62 = .ok (.ifCond .ne 48, 3) := by decide +kernel
theorem dX2_showUnlike_65 : decode cX2_showUnlike 65 = .ok (.aload_n 0, 1) := by decide +kernel
theorem dX2_showUnlike_66 : decode cX2_showUnlike 66 = .ok (.lload_n 1, 1) := by decide +kernel
theorem dX2_showUnlike_67 : decode cX2_showUnlike 67 = .ok (.iload 5, 2) := by decide +kernel
theorem dX2_showUnlike_69 : decode cX2_showUnlike 69 = .ok (.lload_n 3, 1) := by decide +kernel
theorem dX2_showUnlike_70 : decode cX2_showUnlike 70 = .ok (.iload 6, 2) := by decide +kernel
theorem dX2_showUnlike_72 : decode cX2_showUnlike 72 = .ok (.invokevirtual 109, 3) := by decide +kernel
theorem dX2_showUnlike_75 : decode cX2_showUnlike 75 = .ok (.ifCond .ne 35, 3) := by decide +kernel
theorem dX2_showUnlike_78 : decode cX2_showUnlike 78 = .ok (.aload_n 0, 1) := by decide +kernel
theorem dX2_showUnlike_79 : decode cX2_showUnlike 79 = .ok (.getfield 29, 3) := by decide +kernel
theorem dX2_showUnlike_82 : decode cX2_showUnlike 82 = .ok (.lload_n 1, 1) := by decide +kernel
theorem dX2_showUnlike_83 : decode cX2_showUnlike 83 = .ok (.aload_n 0, 1) := by decide +kernel
theorem dX2_showUnlike_84 : decode cX2_showUnlike 84 = .ok (.getfield 33, 3) := by decide +kernel
theorem dX2_showUnlike_87 : decode cX2_showUnlike 87 = .ok (.lload_n 3, 1) := by decide +kernel
theorem dX2_showUnlike_88 : decode cX2_showUnlike 88 = .ok (.invokestatic 113, 3) := by decide +kernel
theorem dX2_showUnlike_91 : decode cX2_showUnlike 91 = .ok (.ifCond .ne 19, 3) := by decide +kernel
theorem dX2_showUnlike_94 : decode cX2_showUnlike 94 = .ok (.aload_n 0, 1) := by decide +kernel
theorem dX2_showUnlike_95 : decode cX2_showUnlike 95 = .ok (.getfield 33, 3) := by decide +kernel
theorem dX2_showUnlike_98 : decode cX2_showUnlike 98 = .ok (.lload_n 3, 1) := by decide +kernel
theorem dX2_showUnlike_99 : decode cX2_showUnlike 99 = .ok (.aload_n 0, 1) := by decide +kernel
theorem dX2_showUnlike_100 : decode cX2_showUnlike 100 = .ok (.getfield 29, 3) := by decide +kernel
theorem dX2_showUnlike_103 : decode cX2_showUnlike 103 = .ok (.lload_n 1, 1) := by decide +kernel
theorem dX2_showUnlike_104 : decode cX2_showUnlike 104 = .ok (.invokestatic 113, 3) := by decide +kernel
theorem dX2_showUnlike_107 : decode cX2_showUnlike 107 = .ok (.ifCond .eq 7, 3) := by decide +kernel
theorem dX2_showUnlike_110 : decode cX2_showUnlike 110 = .ok (.iconst 1, 1) := by decide +kernel
theorem dX2_showUnlike_111 : decode cX2_showUnlike 111 = .ok (.goto 4, 3) := by decide +kernel
theorem dX2_showUnlike_114 : decode cX2_showUnlike 114 = .ok (.iconst 0, 1) := by decide +kernel
theorem dX2_showUnlike_115 : decode cX2_showUnlike 115 = .ok (.ireturn, 1) := by decide +kernel
theorem dX2_numbersUnlike_0 : decode cX2_numbersUnlike 0 = .ok (.aload_n 0, 1) := by decide +kernel
theorem dX2_numbersUnlike_1 : decode cX2_numbersUnlike 1 = .ok (.getfield 29, 3) := by decide +kernel
theorem dX2_numbersUnlike_4 : decode cX2_numbersUnlike 4 = .ok (.getfield 117, 3) := by decide +kernel
theorem dX2_numbersUnlike_7 : decode cX2_numbersUnlike 7 = .ok (.iload_n 3, 1) := by decide +kernel
theorem dX2_numbersUnlike_8 : decode cX2_numbersUnlike 8 = .ok (.iaload, 1) := by decide +kernel
theorem dX2_numbersUnlike_9 : decode cX2_numbersUnlike 9 = .ok (.istore 7, 2) := by decide +kernel
theorem dX2_numbersUnlike_11 : decode cX2_numbersUnlike 11 = .ok (.iload 7, 2) := by decide +kernel
theorem dX2_numbersUnlike_13 : decode cX2_numbersUnlike 13 = .ok (.aload_n 0, 1) := by decide +kernel
theorem dX2_numbersUnlike_14 : decode cX2_numbersUnlike 14 = .ok (.getfield 33, 3) := by decide +kernel
theorem dX2_numbersUnlike_17 : decode cX2_numbersUnlike 17 = .ok (.getfield 117, 3) := by decide +kernel
theorem dX2_numbersUnlike_20 : decode cX2_numbersUnlike 20 = .ok (.iload 6, 2) := by decide +kernel
theorem dX2_numbersUnlike_22 : decode cX2_numbersUnlike 22 = .ok (.iaload, 1) := by decide +kernel
theorem dX2_numbersUnlike_23 : decode cX2_numbersUnlike 23 = .ok (.if_icmp .eq 5, 3) := by decide +kernel
theorem dX2_numbersUnlike_26 : decode cX2_numbersUnlike 26 = .ok (.iconst 1, 1) := by decide +kernel
theorem dX2_numbersUnlike_27 : decode cX2_numbersUnlike 27 = .ok (.ireturn, 1) := by decide +kernel
theorem dX2_numbersUnlike_28 : decode cX2_numbersUnlike 28 = .ok (.iconst 0, 1) := by decide +kernel
theorem dX2_numbersUnlike_29 : decode cX2_numbersUnlike 29 = .ok (.istore 8, 2) := by decide +kernel
theorem dX2_numbersUnlike_31 : decode cX2_numbersUnlike 31 = .ok (.iload 8, 2) := by decide +kernel
theorem dX2_numbersUnlike_33 : decode cX2_numbersUnlike 33 = .ok (.iload 7, 2) := by decide +kernel
theorem dX2_numbersUnlike_35 : decode cX2_numbersUnlike 35 = .ok (.if_icmp .ge 38, 3) := by decide +kernel
theorem dX2_numbersUnlike_38 : decode cX2_numbersUnlike 38 = .ok (.aload_n 0, 1) := by decide +kernel
theorem dX2_numbersUnlike_39 : decode cX2_numbersUnlike 39 = .ok (.getfield 29, 3) := by decide +kernel
theorem dX2_numbersUnlike_42 : decode cX2_numbersUnlike 42 = .ok (.lload_n 1, 1) := by decide +kernel
theorem dX2_numbersUnlike_43 : decode cX2_numbersUnlike 43 = .ok (.iload_n 3, 1) := by decide +kernel
theorem dX2_numbersUnlike_44 : decode cX2_numbersUnlike 44 = .ok (.iload 8, 2) := by decide +kernel
theorem dX2_numbersUnlike_46 : decode cX2_numbersUnlike 46 = .ok (.invokevirtual 121, 3) := by decide +kernel
theorem dX2_numbersUnlike_49 : decode cX2_numbersUnlike 49 = .ok (.aload_n 0, 1) := by decide +kernel
theorem dX2_numbersUnlike_50 : decode cX2_numbersUnlike 50 = .ok (.getfield 33, 3) := by decide +kernel
theorem dX2_numbersUnlike_53 : decode cX2_numbersUnlike 53 = .ok (.lload 4, 2) := by decide +kernel
theorem dX2_numbersUnlike_55 : decode cX2_numbersUnlike 55 = .ok (.iload 6, 2) := by decide +kernel
theorem dX2_numbersUnlike_57 : decode cX2_numbersUnlike 57 = .ok (.iload 8, 2) := by decide +kernel
theorem dX2_numbersUnlike_59 : decode cX2_numbersUnlike 59 = .ok (.invokevirtual 121, 3) := by decide +kernel
theorem dX2_numbersUnlike_62 : decode cX2_numbersUnlike 62 = .ok (.if_icmp .eq 5, 3) := by decide +kernel
theorem dX2_numbersUnlike_65 : decode cX2_numbersUnlike 65 = .ok (.iconst 1, 1) := by decide +kernel
theorem dX2_numbersUnlike_66 : decode cX2_numbersUnlike 66 = .ok (.ireturn, 1) := by decide +kernel
theorem dX2_numbersUnlike_67 : decode cX2_numbersUnlike 67 = .ok (.iinc 8 1, 3) := by decide +kernel
theorem dX2_numbersUnlike_70 : decode cX2_numbersUnlike 70 = .ok (.goto (-39), 3) := by decide +kernel
theorem dX2_numbersUnlike_73 : decode cX2_numbersUnlike 73 = .ok (.iconst 0, 1) := by decide +kernel
theorem dX2_numbersUnlike_74 : decode cX2_numbersUnlike 74 = .ok (.ireturn, 1) := by decide +kernel
theorem dX2_oneMorePressed_0 : decode cX2_oneMorePressed 0 = .ok (.lload_n 1, 1) := by decide +kernel
theorem dX2_oneMorePressed_1 : decode cX2_oneMorePressed 1 = .ok (.invokestatic 90, 3) := by decide +kernel
theorem dX2_oneMorePressed_4 : decode cX2_oneMorePressed 4 = .ok (.istore 6, 2) := by decide +kernel
theorem dX2_oneMorePressed_6 : decode cX2_oneMorePressed 6 = .ok (.lload 4, 2) := by decide +kernel
theorem dX2_oneMorePressed_8 : decode cX2_oneMorePressed 8 = .ok (.invokestatic 90, 3) := by decide +kernel
theorem dX2_oneMorePressed_11 : decode cX2_oneMorePressed 11 = .ok (.istore 7, 2) := by decide +kernel
theorem dX2_oneMorePressed_13 : decode cX2_oneMorePressed 13 = .ok (.iload 6, 2) := by decide +kernel
theorem dX2_oneMorePressed_15 : decode cX2_oneMorePressed 15 = .ok (.iconst (-1), 1) := by decide +kernel
theorem dX2_oneMorePressed_16 : decode cX2_oneMorePressed 16 = .ok (.if_icmp .eq 9, 3) := by decide +kernel
theorem dX2_oneMorePressed_19 : decode cX2_oneMorePressed 19 = .ok (.iload 7, 2) := by decide +kernel
theorem dX2_oneMorePressed_21 : decode cX2_oneMorePressed 21 = .ok (.iconst (-1), 1) := by decide +kernel
theorem dX2_oneMorePressed_22 : decode cX2_oneMorePressed 22 = .ok (.if_icmp .ne 5, 3) := by decide +kernel
theorem dX2_oneMorePressed_25 : decode cX2_oneMorePressed 25 = .ok (.iconst 0, 1) := by decide +kernel
theorem dX2_oneMorePressed_26 : decode cX2_oneMorePressed 26 = .ok (.ireturn, 1) := by decide +kernel
theorem dX2_oneMorePressed_27 : decode cX2_oneMorePressed 27 = .ok (.aload_n 0, 1) := by decide +kernel
theorem dX2_oneMorePressed_28 : decode cX2_oneMorePressed 28 = .ok (.getfield 125, 3) := by decide +kernel
theorem dX2_oneMorePressed_31 : decode cX2_oneMorePressed 31 = .ok (.iload 6, 2) := by decide +kernel
theorem dX2_oneMorePressed_33 : decode cX2_oneMorePressed 33 = .ok (.iaload, 1) := by decide +kernel
theorem dX2_oneMorePressed_34 : decode cX2_oneMorePressed 34 = .ok (.istore 8, 2) := by decide +kernel
theorem dX2_oneMorePressed_36 : decode cX2_oneMorePressed 36 = .ok (.iload 8, 2) := by decide +kernel
theorem dX2_oneMorePressed_38 : decode cX2_oneMorePressed 38 = .ok (.aload_n 0, 1) := by decide +kernel
theorem dX2_oneMorePressed_39 : decode cX2_oneMorePressed 39 = .ok (.getfield 128, 3) := by decide +kernel
theorem dX2_oneMorePressed_42 : decode cX2_oneMorePressed 42 = .ok (.iload 6, 2) := by decide +kernel
theorem dX2_oneMorePressed_44 : decode cX2_oneMorePressed 44 = .ok (.iaload, 1) := by decide +kernel
theorem dX2_oneMorePressed_45 : decode cX2_oneMorePressed 45 = .ok (.if_icmp .ge 59, 3) := by decide +kernel
theorem dX2_oneMorePressed_48 : decode cX2_oneMorePressed 48 = .ok (.aload_n 0, 1) := by decide +kernel
theorem dX2_oneMorePressed_49 : decode cX2_oneMorePressed 49 = .ok (.getfield 131, 3) := by decide +kernel
theorem dX2_oneMorePressed_52 : decode cX2_oneMorePressed 52 = .ok (.iload 8, 2) := by decide +kernel
theorem dX2_oneMorePressed_54 : decode cX2_oneMorePressed 54 = .ok (.lload_n 1, 1) := by decide +kernel
theorem dX2_oneMorePressed_55 : decode cX2_oneMorePressed 55 = .ok (.invokevirtual 135, 3) := by decide +kernel
theorem dX2_oneMorePressed_58 : decode cX2_oneMorePressed 58 = .ok (.ifCond .eq 40, 3) := by decide +kernel
theorem dX2_oneMorePressed_61 : decode cX2_oneMorePressed 61 = .ok (.aload_n 3, 1) := by decide +kernel
theorem dX2_oneMorePressed_62 : decode cX2_oneMorePressed 62 = .ok (.iload 7, 2) := by decide +kernel
theorem dX2_oneMorePressed_64 : decode cX2_oneMorePressed 64 = .ok (.aload_n 0, 1) := by decide +kernel
theorem dX2_oneMorePressed_65 : decode cX2_oneMorePressed 65 = .ok (.getfield 96, 3) := by decide +kernel
theorem dX2_oneMorePressed_68 : decode cX2_oneMorePressed 68 = .ok (.iload 8, 2) := by decide +kernel
theorem dX2_oneMorePressed_70 : decode cX2_oneMorePressed 70 = .ok (.laload, 1) := by decide +kernel
theorem dX2_oneMorePressed_71 : decode cX2_oneMorePressed 71 = .ok (.invokevirtual 99, 3) := by decide +kernel
theorem dX2_oneMorePressed_74 : decode cX2_oneMorePressed 74 = .ok (.istore 9, 2) := by decide +kernel
theorem dX2_oneMorePressed_76 : decode cX2_oneMorePressed 76 = .ok (.iload 9, 2) := by decide +kernel
theorem dX2_oneMorePressed_78 : decode cX2_oneMorePressed 78 = .ok (.iconst (-1), 1) := by decide +kernel
theorem dX2_oneMorePressed_79 : decode cX2_oneMorePressed 79 = .ok (.if_icmp .eq 17, 3) := by decide +kernel
theorem dX2_oneMorePressed_82 : decode cX2_oneMorePressed 82 = .ok (.aload_n 3, 1) := by decide +kernel
theorem dX2_oneMorePressed_83 : decode cX2_oneMorePressed 83 = .ok (.getfield 131, 3) := by decide +kernel
theorem dX2_oneMorePressed_86 : decode cX2_oneMorePressed 86 = .ok (.iload 9, 2) := by decide +kernel
theorem dX2_oneMorePressed_88 : decode cX2_oneMorePressed 88 = .ok (.lload 4, 2) := by decide +kernel
theorem dX2_oneMorePressed_90 : decode cX2_oneMorePressed 90 = .ok (.invokevirtual 135, 3) := by decide +kernel
theorem dX2_oneMorePressed_93 : decode cX2_oneMorePressed 93 = .ok (.ifCond .ne 5, 3) := by decide +kernel
theorem dX2_oneMorePressed_96 : decode cX2_oneMorePressed 96 = .ok (.iconst 1, 1) := by decide +kernel
theorem dX2_oneMorePressed_97 : decode cX2_oneMorePressed 97 = .ok (.ireturn, 1) := by decide +kernel
theorem dX2_oneMorePressed_98 : decode cX2_oneMorePressed 98 = .ok (.iinc 8 1, 3) := by decide +kernel
theorem dX2_oneMorePressed_101 : decode cX2_oneMorePressed 101 = .ok (.goto (-65), 3) := by decide +kernel
theorem dX2_oneMorePressed_104 : decode cX2_oneMorePressed 104 = .ok (.iconst 0, 1) := by decide +kernel
theorem dX2_oneMorePressed_105 : decode cX2_oneMorePressed 105 = .ok (.ireturn, 1) := by decide +kernel
theorem dX2_rowInto_0 : decode cX2_rowInto 0 = .ok (.aload_n 0, 1) := by decide +kernel
theorem dX2_rowInto_1 : decode cX2_rowInto 1 = .ok (.getfield 22, 3) := by decide +kernel
theorem dX2_rowInto_4 : decode cX2_rowInto 4 = .ok (.iconst (-1), 1) := by decide +kernel
theorem dX2_rowInto_5 : decode cX2_rowInto 5 = .ok (.if_icmp .ne 5, 3) := by decide +kernel
theorem dX2_rowInto_8 : decode cX2_rowInto 8 = .ok (.iconst 0, 1) := by decide +kernel
theorem dX2_rowInto_9 : decode cX2_rowInto 9 = .ok (.ireturn, 1) := by decide +kernel
theorem dX2_rowInto_10 : decode cX2_rowInto 10 = .ok (.aload_n 0, 1) := by decide +kernel
theorem dX2_rowInto_11 : decode cX2_rowInto 11 = .ok (.getfield 12, 3) := by decide +kernel
theorem dX2_rowInto_14 : decode cX2_rowInto 14 = .ok (.aload_n 0, 1) := by decide +kernel
theorem dX2_rowInto_15 : decode cX2_rowInto 15 = .ok (.getfield 22, 3) := by decide +kernel
theorem dX2_rowInto_18 : decode cX2_rowInto 18 = .ok (.aload_n 1, 1) := by decide +kernel
theorem dX2_rowInto_19 : decode cX2_rowInto 19 = .ok (.invokevirtual 141, 3) := by decide +kernel
theorem dX2_rowInto_22 : decode cX2_rowInto 22 = .ok (.istore_n 2, 1) := by decide +kernel
theorem dX2_rowInto_23 : decode cX2_rowInto 23 = .ok (.aload_n 0, 1) := by decide +kernel
theorem dX2_rowInto_24 : decode cX2_rowInto 24 = .ok (.getfield 26, 3) := by decide +kernel
theorem dX2_rowInto_27 : decode cX2_rowInto 27 = .ok (.iconst (-1), 1) := by decide +kernel
theorem dX2_rowInto_28 : decode cX2_rowInto 28 = .ok (.if_icmp .eq 9, 3) := by decide +kernel
theorem dX2_rowInto_31 : decode cX2_rowInto 31 = .ok (.iload_n 2, 1) := by decide +kernel
theorem dX2_rowInto_32 : decode cX2_rowInto 32 = .ok (.aload_n 1, 1) := by decide +kernel
theorem dX2_rowInto_33 : decode cX2_rowInto 33 = .ok (.arraylength, 1) := by decide +kernel
theorem dX2_rowInto_34 : decode cX2_rowInto 34 = .ok (.if_icmp .lt 5, 3) := by decide +kernel
theorem dX2_rowInto_37 : decode cX2_rowInto 37 = .ok (.iload_n 2, 1) := by decide +kernel
theorem dX2_rowInto_38 : decode cX2_rowInto 38 = .ok (.ireturn, 1) := by decide +kernel
theorem dX2_rowInto_39 : decode cX2_rowInto 39 = .ok (.aload_n 1, 1) := by decide +kernel
theorem dX2_rowInto_40 : decode cX2_rowInto 40 = .ok (.iload_n 2, 1) := by decide +kernel
theorem dX2_rowInto_41 : decode cX2_rowInto 41 = .ok (.aload_n 0, 1) := by decide +kernel
theorem dX2_rowInto_42 : decode cX2_rowInto 42 = .ok (.getfield 26, 3) := by decide +kernel
theorem dX2_rowInto_45 : decode cX2_rowInto 45 = .ok (.iastore, 1) := by decide +kernel
theorem dX2_rowInto_46 : decode cX2_rowInto 46 = .ok (.iload_n 2, 1) := by decide +kernel
theorem dX2_rowInto_47 : decode cX2_rowInto 47 = .ok (.iconst 1, 1) := by decide +kernel
theorem dX2_rowInto_48 : decode cX2_rowInto 48 = .ok (.iadd, 1) := by decide +kernel
theorem dX2_rowInto_49 : decode cX2_rowInto 49 = .ok (.ireturn, 1) := by decide +kernel
theorem dX3_packed_0 : decode cX3_packed 0 = .ok (.lload_n 0, 1) := by decide +kernel
theorem dX3_packed_1 : decode cX3_packed 1 = .ok (.bipush 27, 2) := by decide +kernel
theorem dX3_packed_3 : decode cX3_packed 3 = .ok (.lshl, 1) := by decide +kernel
theorem dX3_packed_4 : decode cX3_packed 4 = .ok (.iload_n 2, 1) := by decide +kernel
theorem dX3_packed_5 : decode cX3_packed 5 = .ok (.i2l, 1) := by decide +kernel
theorem dX3_packed_6 : decode cX3_packed 6 = .ok (.bipush 24, 2) := by decide +kernel
theorem dX3_packed_8 : decode cX3_packed 8 = .ok (.lshl, 1) := by decide +kernel
theorem dX3_packed_9 : decode cX3_packed 9 = .ok (.lor, 1) := by decide +kernel
theorem dX3_packed_10 : decode cX3_packed 10 = .ok (.lload_n 3, 1) := by decide +kernel
theorem dX3_packed_11 : decode cX3_packed 11 = .ok (.ldc2_w 11, 3) := by decide +kernel
theorem dX3_packed_14 : decode cX3_packed 14 = .ok (.land, 1) := by decide +kernel
theorem dX3_packed_15 : decode cX3_packed 15 = .ok (.lor, 1) := by decide +kernel
theorem dX3_packed_16 : decode cX3_packed 16 = .ok (.lreturn, 1) := by decide +kernel
theorem dX3_alone_0 : decode cX3_alone 0 = .ok (.iload_n 0, 1) := by decide +kernel
theorem dX3_alone_1 : decode cX3_alone 1 = .ok (.i2l, 1) := by decide +kernel
theorem dX3_alone_2 : decode cX3_alone 2 = .ok (.iconst 4, 1) := by decide +kernel
theorem dX3_alone_3 : decode cX3_alone 3 = .ok (.lshl, 1) := by decide +kernel
theorem dX3_alone_4 : decode cX3_alone 4 = .ok (.iconst 1, 1) := by decide +kernel
theorem dX3_alone_5 : decode cX3_alone 5 = .ok (.lload_n 1, 1) := by decide +kernel
theorem dX3_alone_6 : decode cX3_alone 6 = .ok (.invokestatic 13, 3) := by decide +kernel
theorem dX3_alone_9 : decode cX3_alone 9 = .ok (.lreturn, 1) := by decide +kernel
theorem dX3_faulted_0 : decode cX3_faulted 0 = .ok (.iload_n 0, 1) := by decide +kernel
theorem dX3_faulted_1 : decode cX3_faulted 1 = .ok (.i2l, 1) := by decide +kernel
theorem dX3_faulted_2 : decode cX3_faulted 2 = .ok (.iconst 0, 1) := by decide +kernel
theorem dX3_faulted_3 : decode cX3_faulted 3 = .ok (.lload_n 1, 1) := by decide +kernel
theorem dX3_faulted_4 : decode cX3_faulted 4 = .ok (.invokestatic 13, 3) := by decide +kernel
theorem dX3_faulted_7 : decode cX3_faulted 7 = .ok (.lreturn, 1) := by decide +kernel
theorem dX3_openOf_0 : decode cX3_openOf 0 = .ok (.lload_n 0, 1) := by decide +kernel
theorem dX3_openOf_1 : decode cX3_openOf 1 = .ok (.bipush 24, 2) := by decide +kernel
theorem dX3_openOf_3 : decode cX3_openOf 3 = .ok (.lushr, 1) := by decide +kernel
theorem dX3_openOf_4 : decode cX3_openOf 4 = .ok (.l2i, 1) := by decide +kernel
theorem dX3_openOf_5 : decode cX3_openOf 5 = .ok (.bipush 7, 2) := by decide +kernel
theorem dX3_openOf_7 : decode cX3_openOf 7 = .ok (.iand, 1) := by decide +kernel
theorem dX3_openOf_8 : decode cX3_openOf 8 = .ok (.ireturn, 1) := by decide +kernel
theorem dX3_faultOf_0 : decode cX3_faultOf 0 = .ok (.lload_n 0, 1) := by decide +kernel
theorem dX3_faultOf_1 : decode cX3_faultOf 1 = .ok (.invokestatic 17, 3) := by decide +kernel
theorem dX3_faultOf_4 : decode cX3_faultOf 4 = .ok (.ifCond .le 7, 3) := by decide +kernel
theorem dX3_faultOf_7 : decode cX3_faultOf 7 = .ok (.iconst 0, 1) := by decide +kernel
theorem dX3_faultOf_8 : decode cX3_faultOf 8 = .ok (.goto 8, 3) := by decide +kernel
theorem dX3_faultOf_11 : decode cX3_faultOf 11 = .ok (.lload_n 0, 1) := by decide +kernel
theorem dX3_faultOf_12 : decode cX3_faultOf 12 = .ok (.bipush 27, 2) := by decide +kernel
theorem dX3_faultOf_14 : decode cX3_faultOf 14 = .ok (.lushr, 1) := by decide +kernel
theorem dX3_faultOf_15 : decode cX3_faultOf 15 = .ok (.l2i, 1) := by decide +kernel
theorem dX3_faultOf_16 : decode cX3_faultOf 16 = .ok (.ireturn, 1) := by decide +kernel
theorem dX3_topOf_0 : decode cX3_topOf 0 = .ok (.lload_n 0, 1) := by decide +kernel
theorem dX3_topOf_1 : decode cX3_topOf 1 = .ok (.invokestatic 17, 3) := by decide +kernel
theorem dX3_topOf_4 : decode cX3_topOf 4 = .ok (.ifCond .le 14, 3) := by decide +kernel
theorem dX3_topOf_7 : decode cX3_topOf 7 = .ok (.lload_n 0, 1) := by decide +kernel
theorem dX3_topOf_8 : decode cX3_topOf 8 = .ok (.bipush 31, 2) := by decide +kernel
theorem dX3_topOf_10 : decode cX3_topOf 10 = .ok (.lushr, 1) := by decide +kernel
theorem dX3_topOf_11 : decode cX3_topOf 11 = .ok (.l2i, 1) := by decide +kernel
theorem dX3_topOf_12 : decode cX3_topOf 12 = .ok (.bipush 7, 2) := by decide +kernel
theorem dX3_topOf_14 : decode cX3_topOf 14 = .ok (.iand, 1) := by decide +kernel
theorem dX3_topOf_15 : decode cX3_topOf 15 = .ok (.goto 4, 3) := by decide +kernel
theorem dX3_topOf_18 : decode cX3_topOf 18 = .ok (.iconst (-1), 1) := by decide +kernel
theorem dX3_topOf_19 : decode cX3_topOf 19 = .ok (.ireturn, 1) := by decide +kernel
theorem dX3_ticksOf_0 : decode cX3_ticksOf 0 = .ok (.lload_n 0, 1) := by decide +kernel
theorem dX3_ticksOf_1 : decode cX3_ticksOf 1 = .ok (.invokestatic 17, 3) := by decide +kernel
theorem dX3_ticksOf_4 : decode cX3_ticksOf 4 = .ok (.ifCond .le 14, 3) := by decide +kernel
theorem dX3_ticksOf_7 : decode cX3_ticksOf 7 = .ok (.lload_n 0, 1) := by decide +kernel
theorem dX3_ticksOf_8 : decode cX3_ticksOf 8 = .ok (.bipush 27, 2) := by decide +kernel
theorem dX3_ticksOf_10 : decode cX3_ticksOf 10 = .ok (.lushr, 1) := by decide +kernel
theorem dX3_ticksOf_11 : decode cX3_ticksOf 11 = .ok (.l2i, 1) := by decide +kernel
theorem dX3_ticksOf_12 : decode cX3_ticksOf 12 = .ok (.bipush 15, 2) := by decide +kernel
theorem dX3_ticksOf_14 : decode cX3_ticksOf 14 = .ok (.iand, 1) := by decide +kernel
theorem dX3_ticksOf_15 : decode cX3_ticksOf 15 = .ok (.goto 4, 3) := by decide +kernel
theorem dX3_ticksOf_18 : decode cX3_ticksOf 18 = .ok (.iconst (-1), 1) := by decide +kernel
theorem dX3_ticksOf_19 : decode cX3_ticksOf 19 = .ok (.ireturn, 1) := by decide +kernel
theorem dX3_valueOf_0 : decode cX3_valueOf 0 = .ok (.lload_n 0, 1) := by decide +kernel
theorem dX3_valueOf_1 : decode cX3_valueOf 1 = .ok (.iconst 4, 1) := by decide +kernel
theorem dX3_valueOf_2 : decode cX3_valueOf 2 = .ok (.iload_n 2, 1) := by decide +kernel
theorem dX3_valueOf_3 : decode cX3_valueOf 3 = .ok (.imul, 1) := by decide +kernel
theorem dX3_valueOf_4 : decode cX3_valueOf 4 = .ok (.lushr, 1) := by decide +kernel
theorem dX3_valueOf_5 : decode cX3_valueOf 5 = .ok (.l2i, 1) := by decide +kernel
theorem dX3_valueOf_6 : decode cX3_valueOf 6 = .ok (.bipush 15, 2) := by decide +kernel
theorem dX3_valueOf_8 : decode cX3_valueOf 8 = .ok (.iand, 1) := by decide +kernel
theorem dX3_valueOf_9 : decode cX3_valueOf 9 = .ok (.ireturn, 1) := by decide +kernel
theorem dX3_withValue_0 : decode cX3_withValue 0 = .ok (.lload_n 0, 1) := by decide +kernel
theorem dX3_withValue_1 : decode cX3_withValue 1 = .ok (.ldc2_w 21, 3) := by decide +kernel
theorem dX3_withValue_4 : decode cX3_withValue 4 = .ok (.iconst 4, 1) := by decide +kernel
theorem dX3_withValue_5 : decode cX3_withValue 5 = .ok (.iload_n 2, 1) := by decide +kernel
theorem dX3_withValue_6 : decode cX3_withValue 6 = .ok (.imul, 1) := by decide +kernel
theorem dX3_withValue_7 : decode cX3_withValue 7 = .ok (.lshl, 1) := by decide +kernel
theorem dX3_withValue_8 : decode cX3_withValue 8 = .ok (.ldc2_w 23, 3) := by decide +kernel
theorem dX3_withValue_11 : decode cX3_withValue 11 = .ok (.lxor, 1) := by decide +kernel
theorem dX3_withValue_12 : decode cX3_withValue 12 = .ok (.land, 1) := by decide +kernel
theorem dX3_withValue_13 : decode cX3_withValue 13 = .ok (.iload_n 3, 1) := by decide +kernel
theorem dX3_withValue_14 : decode cX3_withValue 14 = .ok (.i2l, 1) := by decide +kernel
theorem dX3_withValue_15 : decode cX3_withValue 15 = .ok (.iconst 4, 1) := by decide +kernel
theorem dX3_withValue_16 : decode cX3_withValue 16 = .ok (.iload_n 2, 1) := by decide +kernel
theorem dX3_withValue_17 : decode cX3_withValue 17 = .ok (.imul, 1) := by decide +kernel
theorem dX3_withValue_18 : decode cX3_withValue 18 = .ok (.lshl, 1) := by decide +kernel
theorem dX3_withValue_19 : decode cX3_withValue 19 = .ok (.lor, 1) := by decide +kernel
theorem dX3_withValue_20 : decode cX3_withValue 20 = .ok (.lreturn, 1) := by decide +kernel
theorem dX3_withTicks_0 : decode cX3_withTicks 0 = .ok (.lload_n 0, 1) := by decide +kernel
theorem dX3_withTicks_1 : decode cX3_withTicks 1 = .ok (.ldc2_w 25, 3) := by decide +kernel
theorem dX3_withTicks_4 : decode cX3_withTicks 4 = .ok (.land, 1) := by decide +kernel
theorem dX3_withTicks_5 : decode cX3_withTicks 5 = .ok (.iload_n 2, 1) := by decide +kernel
theorem dX3_withTicks_6 : decode cX3_withTicks 6 = .ok (.i2l, 1) := by decide +kernel
theorem dX3_withTicks_7 : decode cX3_withTicks 7 = .ok (.bipush 27, 2) := by decide +kernel
theorem dX3_withTicks_9 : decode cX3_withTicks 9 = .ok (.lshl, 1) := by decide +kernel
theorem dX3_withTicks_10 : decode cX3_withTicks 10 = .ok (.lor, 1) := by decide +kernel
theorem dX3_withTicks_11 : decode cX3_withTicks 11 = .ok (.lreturn, 1) := by decide +kernel
theorem dX3_opened_0 : decode cX3_opened 0 = .ok (.lload_n 0, 1) := by decide +kernel
theorem dX3_opened_1 : decode cX3_opened 1 = .ok (.invokestatic 17, 3) := by decide +kernel
theorem dX3_opened_4 : decode cX3_opened 4 = .ok (.istore_n 3, 1) := by decide +kernel
theorem dX3_opened_5 : decode cX3_opened 5 = .ok (.iload_n 3, 1) := by decide +kernel
theorem dX3_opened_6 : decode cX3_opened 6 = .ok (.iconst 5, 1) := by decide +kernel
theorem dX3_opened_7 : decode cX3_opened 7 = .ok (.if_icmp .lt 5, 3) := by decide +kernel
theorem dX3_opened_10 : decode cX3_opened 10 = .ok (.lload_n 0, 1) := by decide +kernel
theorem dX3_opened_11 : decode cX3_opened 11 = .ok (.lreturn, 1) := by decide +kernel
theorem dX3_opened_12 : decode cX3_opened 12 = .ok (.lload_n 0, 1) := by decide +kernel
theorem dX3_opened_13 : decode cX3_opened 13 = .ok (.bipush 27, 2) := by decide +kernel
theorem dX3_opened_15 : decode cX3_opened 15 = .ok (.lushr, 1) := by decide +kernel
theorem dX3_opened_16 : decode cX3_opened 16 = .ok (.bipush 7, 2) := by decide +kernel
theorem dX3_opened_18 : decode cX3_opened 18 = .ok (.lshl, 1) := by decide +kernel
theorem dX3_opened_19 : decode cX3_opened 19 = .ok (.iload_n 2, 1) := by decide +kernel
theorem dX3_opened_20 : decode cX3_opened 20 = .ok (.i2l, 1) := by decide +kernel
theorem dX3_opened_21 : decode cX3_opened 21 = .ok (.iconst 4, 1) := by decide +kernel
theorem dX3_opened_22 : decode cX3_opened 22 = .ok (.lshl, 1) := by decide +kernel
theorem dX3_opened_23 : decode cX3_opened 23 = .ok (.lor, 1) := by decide +kernel
theorem dX3_opened_24 : decode cX3_opened 24 = .ok (.iload_n 3, 1) := by decide +kernel
theorem dX3_opened_25 : decode cX3_opened 25 = .ok (.iconst 1, 1) := by decide +kernel
theorem dX3_opened_26 : decode cX3_opened 26 = .ok (.iadd, 1) := by decide +kernel
theorem dX3_opened_27 : decode cX3_opened 27 = .ok (.lload_n 0, 1) := by decide +kernel
theorem dX3_opened_28 : decode cX3_opened 28 = .ok (.invokestatic 13, 3) := by decide +kernel
theorem dX3_opened_31 : decode cX3_opened 31 = .ok (.lreturn, 1) := by decide +kernel
theorem dX3_closed_0 : decode cX3_closed 0 = .ok (.lload_n 0, 1) := by decide +kernel
theorem dX3_closed_1 : decode cX3_closed 1 = .ok (.invokestatic 17, 3) := by decide +kernel
theorem dX3_closed_4 : decode cX3_closed 4 = .ok (.istore_n 2, 1) := by decide +kernel
theorem dX3_closed_5 : decode cX3_closed 5 = .ok (.iload_n 2, 1) := by decide +kernel
theorem dX3_closed_6 : decode cX3_closed 6 = .ok (.iconst 2, 1) := by decide +kernel
theorem dX3_closed_7 : decode cX3_closed 7 = .ok (.if_icmp .ge 7, 3) := by decide +kernel
theorem dX3_closed_10 : decode cX3_closed 10 = .ok (.lload_n 0, 1) := by decide +kernel
theorem dX3_closed_11 : decode cX3_closed 11 = .ok (.goto 14, 3) := by decide +kernel
theorem dX3_closed_14 : decode cX3_closed 14 = .ok (.lload_n 0, 1) := by decide +kernel
theorem dX3_closed_15 : decode cX3_closed 15 = .ok (.bipush 34, 2) := by decide +kernel
theorem dX3_closed_17 : decode cX3_closed 17 = .ok (.lushr, 1) := by decide +kernel
theorem dX3_closed_18 : decode cX3_closed 18 = .ok (.iload_n 2, 1) := by decide +kernel
theorem dX3_closed_19 : decode cX3_closed 19 = .ok (.iconst 1, 1) := by decide +kernel
theorem dX3_closed_20 : decode cX3_closed 20 = .ok (.isub, 1) := by decide +kernel
theorem dX3_closed_21 : decode cX3_closed 21 = .ok (.lload_n 0, 1) := by decide +kernel
theorem dX3_closed_22 : decode cX3_closed 22 = .ok (.invokestatic 13, 3) := by decide +kernel
theorem dX3_closed_25 : decode cX3_closed 25 = .ok (.lreturn, 1) := by decide +kernel
theorem dX4_init_0 : decode cX4_init 0 = .ok (.aload_n 0, 1) := by decide +kernel
theorem dX4_init_1 : decode cX4_init 1 = .ok (.invokespecial 3, 3) := by decide +kernel
theorem dX4_init_4 : decode cX4_init 4 = .ok (.aload_n 0, 1) := by decide +kernel
theorem dX4_init_5 : decode cX4_init 5 = .ok (.bipush 24, 2) := by decide +kernel
theorem dX4_init_7 : decode cX4_init 7 = .ok (.newarray .int, 2) := by decide +kernel
theorem dX4_init_9 : decode cX4_init 9 = .ok (.putfield 9, 3) := by decide +kernel
theorem dX4_init_12 : decode cX4_init 12 = .ok (.aload_n 0, 1) := by decide +kernel
theorem dX4_init_13 : decode cX4_init 13 = .ok (.bipush 72, 2) := by decide +kernel
theorem dX4_init_15 : decode cX4_init 15 = .ok (.newarray .int, 2) := by decide +kernel
theorem dX4_init_17 : decode cX4_init 17 = .ok (.putfield 15, 3) := by decide +kernel
theorem dX4_init_20 : decode cX4_init 20 = .ok (.aload_n 0, 1) := by decide +kernel
theorem dX4_init_21 : decode cX4_init 21 = .ok (.bipush 72, 2) := by decide +kernel
theorem dX4_init_23 : decode cX4_init 23 = .ok (.newarray .int, 2) := by decide +kernel
theorem dX4_init_25 : decode cX4_init 25 = .ok (.putfield 18, 3) := by decide +kernel
theorem dX4_init_28 : decode cX4_init 28 = .ok (.aload_n 0, 1) := by decide +kernel
theorem dX4_init_29 : decode cX4_init 29 = .ok (.bipush 72, 2) := by decide +kernel
theorem dX4_init_31 : decode cX4_init 31 = .ok (.newarray .int, 2) := by decide +kernel
theorem dX4_init_33 : decode cX4_init 33 = .ok (.putfield 21, 3) := by decide +kernel
theorem dX4_init_36 : decode cX4_init 36 = .ok (.return_, 1) := by decide +kernel
theorem dX4_add_0 : decode cX4_add 0 = .ok (.iload_n 1, 1) := by decide +kernel
theorem dX4_add_1 : decode cX4_add 1 = .ok (.iconst 3, 1) := by decide +kernel
theorem dX4_add_2 : decode cX4_add 2 = .ok (.imul, 1) := by decide +kernel
theorem dX4_add_3 : decode cX4_add 3 = .ok (.aload_n 0, 1) := by decide +kernel
theorem dX4_add_4 : decode cX4_add 4 = .ok (.getfield 9, 3) := by decide +kernel
theorem dX4_add_7 : decode cX4_add 7 = .ok (.iload_n 1, 1) := by decide +kernel
theorem dX4_add_8 : decode cX4_add 8 = .ok (.iaload, 1) := by decide +kernel
theorem dX4_add_9 : decode cX4_add 9 = .ok (.iadd, 1) := by decide +kernel
theorem dX4_add_10 : decode cX4_add 10 = .ok (.istore 5, 2) := by decide +kernel
theorem dX4_add_12 : decode cX4_add 12 = .ok (.aload_n 0, 1) := by decide +kernel
theorem dX4_add_13 : decode cX4_add 13 = .ok (.getfield 15, 3) := by decide +kernel
theorem dX4_add_16 : decode cX4_add 16 = .ok (.iload 5, 2) := by decide +kernel
theorem dX4_add_18 : decode cX4_add 18 = .ok (.iload_n 2, 1) := by decide +kernel
theorem dX4_add_19 : decode cX4_add 19 = .ok (.iastore, 1) := by decide +kernel
theorem dX4_add_20 : decode cX4_add 20 = .ok (.aload_n 0, 1) := by decide +kernel
theorem dX4_add_21 : decode cX4_add 21 = .ok (.getfield 18, 3) := by decide +kernel
theorem dX4_add_24 : decode cX4_add 24 = .ok (.iload 5, 2) := by decide +kernel
theorem dX4_add_26 : decode cX4_add 26 = .ok (.iload_n 3, 1) := by decide +kernel
theorem dX4_add_27 : decode cX4_add 27 = .ok (.bipush 61, 2) := by decide +kernel
theorem dX4_add_29 : decode cX4_add 29 = .ok (.if_icmp .ne 8, 3) := by decide +kernel
theorem dX4_add_32 : decode cX4_add 32 = .ok (.iload 4, 2) := by decide +kernel
theorem dX4_add_34 : decode cX4_add 34 = .ok (.goto 17, 3) := by decide +kernel
theorem dX4_add_37 : decode cX4_add 37 = .ok (.iload_n 3, 1) := by decide +kernel
theorem dX4_add_38 : decode cX4_add 38 = .ok (.bipush 60, 2) := by decide +kernel
theorem dX4_add_40 : decode cX4_add 40 = .ok (.if_icmp .ne 7, 3) := by decide +kernel
theorem dX4_add_43 : decode cX4_add 43 = .ok (.iconst 0, 1) := by decide +kernel
theorem dX4_add_44 : decode cX4_add 44 = .ok (.goto 7, 3) := by decide +kernel
theorem dX4_add_47 : decode cX4_add 47 = .ok (.iload 4, 2) := by decide +kernel
theorem dX4_add_49 : decode cX4_add 49 = .ok (.iconst 1, 1) := by decide +kernel
theorem dX4_add_50 : decode cX4_add 50 = .ok (.iadd, 1) := by decide +kernel
theorem dX4_add_51 : decode cX4_add 51 = .ok (.iastore, 1) := by decide +kernel
theorem dX4_add_52 : decode cX4_add 52 = .ok (.aload_n 0, 1) := by decide +kernel
theorem dX4_add_53 : decode cX4_add 53 = .ok (.getfield 21, 3) := by decide +kernel
theorem dX4_add_56 : decode cX4_add 56 = .ok (.iload 5, 2) := by decide +kernel
theorem dX4_add_58 : decode cX4_add 58 = .ok (.iload_n 3, 1) := by decide +kernel
theorem dX4_add_59 : decode cX4_add 59 = .ok (.bipush 61, 2) := by decide +kernel
theorem dX4_add_61 : decode cX4_add 61 = .ok (.if_icmp .ne 8, 3) := by decide +kernel
theorem dX4_add_64 : decode cX4_add 64 = .ok (.iload 4, 2) := by decide +kernel
theorem dX4_add_66 : decode cX4_add 66 = .ok (.goto 18, 3) := by decide +kernel
theorem dX4_add_69 : decode cX4_add 69 = .ok (.iload_n 3, 1) := by decide +kernel
theorem dX4_add_70 : decode cX4_add 70 = .ok (.bipush 60, 2) := by decide +kernel
theorem dX4_add_72 : decode cX4_add 72 = .ok (.if_icmp .ne 10, 3) := by decide +kernel
theorem dX4_add_75 : decode cX4_add 75 = .ok (.iload 4, 2) := by decide +kernel
theorem dX4_add_77 : decode cX4_add 77 = .ok (.iconst 1, 1) := by decide +kernel
theorem dX4_add_78 : decode cX4_add 78 = .ok (.isub, 1) := by decide +kernel
theorem dX4_add_79 : decode cX4_add 79 = .ok (.goto 5, 3) := by decide +kernel
theorem dX4_add_82 : decode cX4_add 82 = .ok (.bipush 15, 2) := by decide +kernel
theorem dX4_add_84 : decode cX4_add 84 = .ok (.iastore, 1) := by decide +kernel
theorem dX4_add_85 : decode cX4_add 85 = .ok (.aload_n 0, 1) := by decide +kernel
theorem dX4_add_86 : decode cX4_add 86 = .ok (.getfield 9, 3) := by decide +kernel
theorem dX4_add_89 : decode cX4_add 89 = .ok (.iload_n 1, 1) := by decide +kernel
theorem dX4_add_90 : decode cX4_add 90 = .ok (.dup2, 1) := by decide +kernel
theorem dX4_add_91 : decode cX4_add 91 = .ok (.iaload, 1) := by decide +kernel
theorem dX4_add_92 : decode cX4_add 92 = .ok (.iconst 1, 1) := by decide +kernel
theorem dX4_add_93 : decode cX4_add 93 = .ok (.iadd, 1) := by decide +kernel
theorem dX4_add_94 : decode cX4_add 94 = .ok (.iastore, 1) := by decide +kernel
theorem dX4_add_95 : decode cX4_add 95 = .ok (.return_, 1) := by decide +kernel
theorem dX4_hold_0 : decode cX4_hold 0 = .ok (.iload_n 1, 1) := by decide +kernel
theorem dX4_hold_1 : decode cX4_hold 1 = .ok (.iconst 3, 1) := by decide +kernel
theorem dX4_hold_2 : decode cX4_hold 2 = .ok (.imul, 1) := by decide +kernel
theorem dX4_hold_3 : decode cX4_hold 3 = .ok (.istore 4, 2) := by decide +kernel
theorem dX4_hold_5 : decode cX4_hold 5 = .ok (.iload 4, 2) := by decide +kernel
theorem dX4_hold_7 : decode cX4_hold 7 = .ok (.istore 5, 2) := by decide +kernel
theorem dX4_hold_9 : decode cX4_hold 9 = .ok (.iload 5, 2) := by decide +kernel
theorem dX4_hold_11 : decode cX4_hold 11 = .ok (.iload 4, 2) := by decide +kernel
theorem dX4_hold_13 : decode cX4_hold 13 = .ok (.aload_n 0, 1) := by decide +kernel
theorem dX4_hold_14 : decode cX4_hold 14 = .ok (.getfield 9, 3) := by decide +kernel
theorem dX4_hold_17 : decode cX4_hold 17 = .ok (.iload_n 1, 1) := by decide +kernel
theorem dX4_hold_18 : decode cX4_hold 18 = .ok (.iaload, 1) := by decide +kernel
theorem dX4_hold_19 : decode cX4_hold 19 = .ok (.iadd, 1) := by decide +kernel
theorem dX4_hold_20 : decode cX4_hold 20 = .ok (.if_icmp .ge 48, 3) := by decide +kernel
theorem dX4_hold_23 : decode cX4_hold 23 = .ok (.lload_n 2, 1) := by decide +kernel
theorem dX4_hold_24 : decode cX4_hold 24 = .ok (.aload_n 0, 1) := by decide +kernel
theorem dX4_hold_25 : decode cX4_hold 25 = .ok (.getfield 15, 3) := by decide +kernel
theorem dX4_hold_28 : decode cX4_hold 28 = .ok (.iload 5, 2) := by decide +kernel
theorem dX4_hold_30 : decode cX4_hold 30 = .ok (.iaload, 1) := by decide +kernel
theorem dX4_hold_31 : decode cX4_hold 31 = .ok (.invokestatic 24, 3) := by decide +kernel
theorem dX4_hold_34 : decode cX4_hold 34 = .ok (.istore 6, 2) := by decide +kernel
theorem dX4_hold_36 : decode cX4_hold 36 = .ok (.iload 6, 2) := by decide +kernel
theorem dX4_hold_38 : decode cX4_hold 38 = .ok (.aload_n 0, 1) := by decide +kernel
theorem dX4_hold_39 : decode cX4_hold 39 = .ok (.getfield 18, 3) := by decide +kernel
theorem dX4_hold_42 : decode cX4_hold 42 = .ok (.iload 5, 2) := by decide +kernel
theorem dX4_hold_44 : decode cX4_hold 44 = .ok (.iaload, 1) := by decide +kernel
theorem dX4_hold_45 : decode cX4_hold 45 = .ok (.if_icmp .lt 15, 3) := by decide +kernel
theorem dX4_hold_48 : decode cX4_hold 48 = .ok (.iload 6, 2) := by decide +kernel
theorem dX4_hold_50 : decode cX4_hold 50 = .ok (.aload_n 0, 1) := by decide +kernel
theorem dX4_hold_51 : decode cX4_hold 51 = .ok (.getfield 21, 3) := by decide +kernel
theorem dX4_hold_54 : decode cX4_hold 54 = .ok (.iload 5, 2) := by decide +kernel
theorem dX4_hold_56 : decode cX4_hold 56 = .ok (.iaload, 1) := by decide +kernel
theorem dX4_hold_57 : decode cX4_hold 57 = .ok (.if_icmp .le 5, 3) := by decide +kernel
theorem dX4_hold_60 : decode cX4_hold 60 = .ok (.iconst 0, 1) := by decide +kernel
theorem dX4_hold_61 : decode cX4_hold 61 = .ok (.ireturn, 1) := by decide +kernel
theorem dX4_hold_62 : decode cX4_hold 62 = .ok (.iinc 5 1, 3) := by decide +kernel
theorem dX4_hold_65 : decode cX4_hold 65 = .ok (.goto (-56), 3) := by decide +kernel
theorem dX4_hold_68 : decode cX4_hold 68 = .ok (.iconst 1, 1) := by decide +kernel
theorem dX4_hold_69 : decode cX4_hold 69 = .ok (.ireturn, 1) := by decide +kernel
theorem dX5_init_0 : decode cX5_init 0 = .ok (.aload_n 0, 1) := by decide +kernel
theorem dX5_init_1 : decode cX5_init 1 = .ok (.invokespecial 5, 3) := by decide +kernel
theorem dX5_init_4 : decode cX5_init 4 = .ok (.aload_n 0, 1) := by decide +kernel
theorem dX5_init_5 : decode cX5_init 5 = .ok (.bipush 32, 2) := by decide +kernel
theorem dX5_init_7 : decode cX5_init 7 = .ok (.newarray .int, 2) := by decide +kernel
theorem dX5_init_9 : decode cX5_init 9 = .ok (.putfield 11, 3) := by decide +kernel
theorem dX5_init_12 : decode cX5_init 12 = .ok (.aload_n 0, 1) := by decide +kernel
theorem dX5_init_13 : decode cX5_init 13 = .ok (.sipush 128, 3) := by decide +kernel
theorem dX5_init_16 : decode cX5_init 16 = .ok (.newarray .int, 2) := by decide +kernel
theorem dX5_init_18 : decode cX5_init 18 = .ok (.putfield 15, 3) := by decide +kernel
theorem dX5_init_21 : decode cX5_init 21 = .ok (.aload_n 0, 1) := by decide +kernel
theorem dX5_init_22 : decode cX5_init 22 = .ok (.sipush 128, 3) := by decide +kernel
theorem dX5_init_25 : decode cX5_init 25 = .ok (.newarray .int, 2) := by decide +kernel
theorem dX5_init_27 : decode cX5_init 27 = .ok (.putfield 18, 3) := by decide +kernel
theorem dX5_init_30 : decode cX5_init 30 = .ok (.aload_n 0, 1) := by decide +kernel
theorem dX5_init_31 : decode cX5_init 31 = .ok (.sipush 128, 3) := by decide +kernel
theorem dX5_init_34 : decode cX5_init 34 = .ok (.newarray .int, 2) := by decide +kernel
theorem dX5_init_36 : decode cX5_init 36 = .ok (.putfield 21, 3) := by decide +kernel
theorem dX5_init_39 : decode cX5_init 39 = .ok (.return_, 1) := by decide +kernel
theorem dX5_ofTimer_0 : decode cX5_ofTimer 0 = .ok (.bipush 24, 2) := by decide +kernel
theorem dX5_ofTimer_2 : decode cX5_ofTimer 2 = .ok (.iload_n 0, 1) := by decide +kernel
theorem dX5_ofTimer_3 : decode cX5_ofTimer 3 = .ok (.iadd, 1) := by decide +kernel
theorem dX5_ofTimer_4 : decode cX5_ofTimer 4 = .ok (.ireturn, 1) := by decide +kernel
theorem dX5_add_0 : decode cX5_add 0 = .ok (.iload_n 1, 1) := by decide +kernel
theorem dX5_add_1 : decode cX5_add 1 = .ok (.iconst 4, 1) := by decide +kernel
theorem dX5_add_2 : decode cX5_add 2 = .ok (.imul, 1) := by decide +kernel
theorem dX5_add_3 : decode cX5_add 3 = .ok (.aload_n 0, 1) := by decide +kernel
theorem dX5_add_4 : decode cX5_add 4 = .ok (.getfield 11, 3) := by decide +kernel
theorem dX5_add_7 : decode cX5_add 7 = .ok (.iload_n 1, 1) := by decide +kernel
theorem dX5_add_8 : decode cX5_add 8 = .ok (.iaload, 1) := by decide +kernel
theorem dX5_add_9 : decode cX5_add 9 = .ok (.iadd, 1) := by decide +kernel
theorem dX5_add_10 : decode cX5_add 10 = .ok (.istore 5, 2) := by decide +kernel
theorem dX5_add_12 : decode cX5_add 12 = .ok (.aload_n 0, 1) := by decide +kernel
theorem dX5_add_13 : decode cX5_add 13 = .ok (.getfield 15, 3) := by decide +kernel
theorem dX5_add_16 : decode cX5_add 16 = .ok (.iload 5, 2) := by decide +kernel
theorem dX5_add_18 : decode cX5_add 18 = .ok (.iload_n 2, 1) := by decide +kernel
theorem dX5_add_19 : decode cX5_add 19 = .ok (.iastore, 1) := by decide +kernel
theorem dX5_add_20 : decode cX5_add 20 = .ok (.aload_n 0, 1) := by decide +kernel
theorem dX5_add_21 : decode cX5_add 21 = .ok (.getfield 18, 3) := by decide +kernel
theorem dX5_add_24 : decode cX5_add 24 = .ok (.iload 5, 2) := by decide +kernel
theorem dX5_add_26 : decode cX5_add 26 = .ok (.iload_n 3, 1) := by decide +kernel
theorem dX5_add_27 : decode cX5_add 27 = .ok (.iastore, 1) := by decide +kernel
theorem dX5_add_28 : decode cX5_add 28 = .ok (.aload_n 0, 1) := by decide +kernel
theorem dX5_add_29 : decode cX5_add 29 = .ok (.getfield 21, 3) := by decide +kernel
theorem dX5_add_32 : decode cX5_add 32 = .ok (.iload 5, 2) := by decide +kernel
theorem dX5_add_34 : decode cX5_add 34 = .ok (.iload 4, 2) := by decide +kernel
theorem dX5_add_36 : decode cX5_add 36 = .ok (.iastore, 1) := by decide +kernel
theorem dX5_add_37 : decode cX5_add 37 = .ok (.aload_n 0, 1) := by decide +kernel
theorem dX5_add_38 : decode cX5_add 38 = .ok (.getfield 11, 3) := by decide +kernel
theorem dX5_add_41 : decode cX5_add 41 = .ok (.iload_n 1, 1) := by decide +kernel
theorem dX5_add_42 : decode cX5_add 42 = .ok (.dup2, 1) := by decide +kernel
theorem dX5_add_43 : decode cX5_add 43 = .ok (.iaload, 1) := by decide +kernel
theorem dX5_add_44 : decode cX5_add 44 = .ok (.iconst 1, 1) := by decide +kernel
theorem dX5_add_45 : decode cX5_add 45 = .ok (.iadd, 1) := by decide +kernel
theorem dX5_add_46 : decode cX5_add 46 = .ok (.iastore, 1) := by decide +kernel
theorem dX5_add_47 : decode cX5_add 47 = .ok (.iload 5, 2) := by decide +kernel
theorem dX5_add_49 : decode cX5_add 49 = .ok (.ireturn, 1) := by decide +kernel
theorem dX6_init_0 : decode cX6_init 0 = .ok (.aload_n 0, 1) := by decide +kernel
theorem dX6_init_1 : decode cX6_init 1 = .ok (.invokespecial 3, 3) := by decide +kernel
theorem dX6_init_4 : decode cX6_init 4 = .ok (.aload_n 0, 1) := by decide +kernel
theorem dX6_init_5 : decode cX6_init 5 = .ok (.iconst 0, 1) := by decide +kernel
theorem dX6_init_6 : decode cX6_init 6 = .ok (.putfield 9, 3) := by decide +kernel
theorem dX6_init_9 : decode cX6_init 9 = .ok (.aload_n 0, 1) := by decide +kernel
theorem dX6_init_10 : decode cX6_init 10 = .ok (.sipush 400, 3) := by decide +kernel
theorem dX6_init_13 : decode cX6_init 13 = .ok (.newarray .long, 2) := by decide +kernel
