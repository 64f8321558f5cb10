theorem dX6_init_15 : decode cX6_init 15 = .ok (.putfield 15, 3) := by decide +kernel
theorem dX6_init_18 : decode cX6_init 18 = .ok (.aload_n 0, 1) := by decide +kernel
theorem dX6_init_19 : decode cX6_init 19 = .ok (.sipush 400, 3) := by decide +kernel
theorem dX6_init_22 : decode cX6_init 22 = .ok (.newarray .long, 2) := by decide +kernel
theorem dX6_init_24 : decode cX6_init 24 = .ok (.putfield 19, 3) := by decide +kernel
theorem dX6_init_27 : decode cX6_init 27 = .ok (.aload_n 0, 1) := by decide +kernel
theorem dX6_init_28 : decode cX6_init 28 = .ok (.sipush 400, 3) := by decide +kernel
theorem dX6_init_31 : decode cX6_init 31 = .ok (.newarray .int, 2) := by decide +kernel
theorem dX6_init_33 : decode cX6_init 33 = .ok (.putfield 22, 3) := by decide +kernel
theorem dX6_init_36 : decode cX6_init 36 = .ok (.aload_n 0, 1) := by decide +kernel
theorem dX6_init_37 : decode cX6_init 37 = .ok (.sipush 400, 3) := by decide +kernel
theorem dX6_init_40 : decode cX6_init 40 = .ok (.newarray .int, 2) := by decide +kernel
theorem dX6_init_42 : decode cX6_init 42 = .ok (.putfield 26, 3) := by decide +kernel
theorem dX6_init_45 : decode cX6_init 45 = .ok (.aload_n 0, 1) := by decide +kernel
theorem dX6_init_46 : decode cX6_init 46 = .ok (.sipush 400, 3) := by decide +kernel
theorem dX6_init_49 : decode cX6_init 49 = .ok (.newarray .int, 2) := by decide +kernel
theorem dX6_init_51 : decode cX6_init 51 = .ok (.putfield 29, 3) := by decide +kernel
theorem dX6_init_54 : decode cX6_init 54 = .ok (.aload_n 0, 1) := by decide +kernel
theorem dX6_init_55 : decode cX6_init 55 = .ok (.sipush 1024, 3) := by decide +kernel
theorem dX6_init_58 : decode cX6_init 58 = .ok (.newarray .int, 2) := by decide +kernel
theorem dX6_init_60 : decode cX6_init 60 = .ok (.putfield 32, 3) := by decide +kernel
theorem dX6_init_63 : decode cX6_init 63 = .ok (.return_, 1) := by decide +kernel
theorem dX6_clear_0 : decode cX6_clear 0 = .ok (.aload_n 0, 1) := by decide +kernel
theorem dX6_clear_1 : decode cX6_clear 1 = .ok (.iconst 0, 1) := by decide +kernel
theorem dX6_clear_2 : decode cX6_clear 2 = .ok (.putfield 9, 3) := by decide +kernel
theorem dX6_clear_5 : decode cX6_clear 5 = .ok (.aload_n 0, 1) := by decide +kernel
theorem dX6_clear_6 : decode cX6_clear 6 = .ok (.getfield 32, 3) := by decide +kernel
theorem dX6_clear_9 : decode cX6_clear 9 = .ok (.iconst 0, 1) := by decide +kernel
theorem dX6_clear_10 : decode cX6_clear 10 = .ok (.invokestatic 35, 3) := by decide +kernel
theorem dX6_clear_13 : decode cX6_clear 13 = .ok (.return_, 1) := by decide +kernel
theorem dX6_meet_0 : decode cX6_meet 0 = .ok (.lload_n 1, 1) := by decide +kernel
theorem dX6_meet_1 : decode cX6_meet 1 = .ok (.ldc2_w 41, 3) := by decide +kernel
theorem dX6_meet_4 : decode cX6_meet 4 = .ok (.lmul, 1) := by decide +kernel
theorem dX6_meet_5 : decode cX6_meet 5 = .ok (.lload_n 3, 1) := by decide +kernel
theorem dX6_meet_6 : decode cX6_meet 6 = .ok (.ldc2_w 43, 3) := by decide +kernel
theorem dX6_meet_9 : decode cX6_meet 9 = .ok (.lmul, 1) := by decide +kernel
theorem dX6_meet_10 : decode cX6_meet 10 = .ok (.ladd, 1) := by decide +kernel
theorem dX6_meet_11 : decode cX6_meet 11 = .ok (.bipush 54, 2) := by decide +kernel
theorem dX6_meet_13 : decode cX6_meet 13 = .ok (.lushr, 1) := by decide +kernel
theorem dX6_meet_14 : decode cX6_meet 14 = .ok (.l2i, 1) := by decide +kernel
theorem dX6_meet_15 : decode cX6_meet 15 = .ok (.istore 7, 2) := by decide +kernel
theorem dX6_meet_17 : decode cX6_meet 17 = .ok (.iconst 0, 1) := by decide +kernel
theorem dX6_meet_18 : decode cX6_meet 18 = .ok (.istore 8, 2) := by decide +kernel
theorem dX6_meet_20 : decode cX6_meet 20 = .ok (.iload 8, 2) := by decide +kernel
theorem dX6_meet_22 : decode cX6_meet 22 = .ok (.sipush 1024, 3) := by decide +kernel
theorem dX6_meet_25 : decode cX6_meet 25 = .ok (.if_icmp .ge 90, 3) := by decide +kernel
theorem dX6_meet_28 : decode cX6_meet 28 = .ok (.iload 7, 2) := by decide +kernel
theorem dX6_meet_30 : decode cX6_meet 30 = .ok (.iload 8, 2) := by decide +kernel
theorem dX6_meet_32 : decode cX6_meet 32 = .ok (.iadd, 1) := by decide +kernel
theorem dX6_meet_33 : decode cX6_meet 33 = .ok (.sipush 1023, 3) := by decide +kernel
theorem dX6_meet_36 : decode cX6_meet 36 = .ok (.iand, 1) := by decide +kernel
theorem dX6_meet_37 : decode cX6_meet 37 = .ok (.istore 9, 2) := by decide +kernel
theorem dX6_meet_39 : decode cX6_meet 39 = .ok (.aload_n 0, 1) := by decide +kernel
theorem dX6_meet_40 : decode cX6_meet 40 = .ok (.getfield 32, 3) := by decide +kernel
theorem dX6_meet_43 : decode cX6_meet 43 = .ok (.iload 9, 2) := by decide +kernel
theorem dX6_meet_45 : decode cX6_meet 45 = .ok (.iaload, 1) := by decide +kernel
theorem dX6_meet_46 : decode cX6_meet 46 = .ok (.iconst 1, 1) := by decide +kernel
theorem dX6_meet_47 : decode cX6_meet 47 = .ok (.isub, 1) := by decide +kernel
theorem dX6_meet_48 : decode cX6_meet 48 = .ok (.istore 10, 2) := by decide +kernel
theorem dX6_meet_50 : decode cX6_meet 50 = .ok (.iload 10, 2) := by decide +kernel
theorem dX6_meet_52 : decode cX6_meet 52 = .ok (.ifCond .ge 30, 3) := by decide +kernel
theorem dX6_meet_55 : decode cX6_meet 55 = .ok (.aload_n 0, 1) := by decide +kernel
theorem dX6_meet_56 : decode cX6_meet 56 = .ok (.getfield 9, 3) := by decide +kernel
theorem dX6_meet_59 : decode cX6_meet 59 = .ok (.sipush 400, 3) := by decide +kernel
theorem dX6_meet_62 : decode cX6_meet 62 = .ok (.if_icmp .ge 18, 3) := by decide +kernel
theorem dX6_meet_65 : decode cX6_meet 65 = .ok (.aload_n 0, 1) := by decide +kernel
theorem dX6_meet_66 : decode cX6_meet 66 = .ok (.iload 9, 2) := by decide +kernel
theorem dX6_meet_68 : decode cX6_meet 68 = .ok (.lload_n 1, 1) := by decide +kernel
theorem dX6_meet_69 : decode cX6_meet 69 = .ok (.lload_n 3, 1) := by decide +kernel
theorem dX6_meet_70 : decode cX6_meet 70 = .ok (.iload 5, 2) := by decide +kernel
theorem dX6_meet_72 : decode cX6_meet 72 = .ok (.iload 6, 2) := by decide +kernel
theorem dX6_meet_74 : decode cX6_meet 74 = .ok (.invokevirtual 45, 3) := by decide +kernel
theorem dX6_meet_77 : decode cX6_meet 77 = .ok (.goto 4, 3) := by decide +kernel
theorem dX6_meet_80 : decode cX6_meet 80 = .ok (.iconst (-1), 1) := by decide +kernel
theorem dX6_meet_81 : decode cX6_meet 81 = .ok (.ireturn, 1) := by decide +kernel
theorem dX6_meet_82 : decode cX6_meet 82 = .ok (.aload_n 0, 1) := by decide +kernel
theorem dX6_meet_83 : decode cX6_meet 83 = .ok (.getfield 15, 3) := by decide +kernel
theorem dX6_meet_86 : decode cX6_meet 86 = .ok (.iload 10, 2) := by decide +kernel
theorem dX6_meet_88 : decode cX6_meet 88 = .ok (.laload, 1) := by decide +kernel
theorem dX6_meet_89 : decode cX6_meet 89 = .ok (.lload_n 1, 1) := by decide +kernel
theorem dX6_meet_90 : decode cX6_meet 90 = .ok (.lcmp, 1) := by decide +kernel
theorem dX6_meet_91 : decode cX6_meet 91 = .ok (.ifCond .ne 18, 3) := by decide +kernel
theorem dX6_meet_94 : decode cX6_meet 94 = .ok (.aload_n 0, 1) := by decide +kernel
theorem dX6_meet_95 : decode cX6_meet 95 = .ok (.getfield 19, 3) := by decide +kernel
theorem dX6_meet_98 : decode cX6_meet 98 = .ok (.iload 10, 2) := by decide +kernel
theorem dX6_meet_100 : decode cX6_meet 100 = .ok (.laload, 1) := by decide +kernel
theorem dX6_meet_101 : decode cX6_meet 101 = .ok (.lload_n 3, 1) := by decide +kernel
theorem dX6_meet_102 : decode cX6_meet 102 = .ok (.lcmp, 1) := by decide +kernel
theorem dX6_meet_103 : decode cX6_meet 103 = .ok (.ifCond .ne 6, 3) := by decide +kernel
theorem dX6_meet_106 : decode cX6_meet 106 = .ok (.iload 10, 2) := by decide +kernel
theorem dX6_meet_108 : decode cX6_meet 108 = .ok (.ireturn, 1) := by decide +kernel
theorem dX6_meet_109 : decode cX6_meet 109 = .ok (.iinc 8 1, 3) := by decide +kernel
theorem dX6_meet_112 : decode cX6_meet 112 = .ok (.goto (-92), 3) := by decide +kernel
theorem dX6_meet_115 : decode cX6_meet 115 = .ok (.iconst (-1), 1) := by decide +kernel
theorem dX6_meet_116 : decode cX6_meet 116 = .ok (.ireturn, 1) := by decide +kernel
theorem dX6_keep_0 : decode cX6_keep 0 = .ok (.aload_n 0, 1) := by decide +kernel
theorem dX6_keep_1 : decode cX6_keep 1 = .ok (.getfield 9, 3) := by decide +kernel
theorem dX6_keep_4 : decode cX6_keep 4 = .ok (.istore 8, 2) := by decide +kernel
theorem dX6_keep_6 : decode cX6_keep 6 = .ok (.aload_n 0, 1) := by decide +kernel
theorem dX6_keep_7 : decode cX6_keep 7 = .ok (.getfield 15, 3) := by decide +kernel
theorem dX6_keep_10 : decode cX6_keep 10 = .ok (.iload 8, 2) := by decide +kernel
theorem dX6_keep_12 : decode cX6_keep 12 = .ok (.lload_n 2, 1) := by decide +kernel
theorem dX6_keep_13 : decode cX6_keep 13 = .ok (.lastore, 1) := by decide +kernel
theorem dX6_keep_14 : decode cX6_keep 14 = .ok (.aload_n 0, 1) := by decide +kernel
theorem dX6_keep_15 : decode cX6_keep 15 = .ok (.getfield 19, 3) := by decide +kernel
theorem dX6_keep_18 : decode cX6_keep 18 = .ok (.iload 8, 2) := by decide +kernel
theorem dX6_keep_20 : decode cX6_keep 20 = .ok (.lload 4, 2) := by decide +kernel
theorem dX6_keep_22 : decode cX6_keep 22 = .ok (.lastore, 1) := by decide +kernel
theorem dX6_keep_23 : decode cX6_keep 23 = .ok (.aload_n 0, 1) := by decide +kernel
theorem dX6_keep_24 : decode cX6_keep 24 = .ok (.getfield 22, 3) := by decide +kernel
theorem dX6_keep_27 : decode cX6_keep 27 = .ok (.iload 8, 2) := by decide +kernel
theorem dX6_keep_29 : decode cX6_keep 29 = .ok (.iload 6, 2) := by decide +kernel
theorem dX6_keep_31 : decode cX6_keep 31 = .ok (.iastore, 1) := by decide +kernel
theorem dX6_keep_32 : decode cX6_keep 32 = .ok (.aload_n 0, 1) := by decide +kernel
theorem dX6_keep_33 : decode cX6_keep 33 = .ok (.getfield 26, 3) := by decide +kernel
theorem dX6_keep_36 : decode cX6_keep 36 = .ok (.iload 8, 2) := by decide +kernel
theorem dX6_keep_38 : decode cX6_keep 38 = .ok (.iload 7, 2) := by decide +kernel
theorem dX6_keep_40 : decode cX6_keep 40 = .ok (.iastore, 1) := by decide +kernel
theorem dX6_keep_41 : decode cX6_keep 41 = .ok (.aload_n 0, 1) := by decide +kernel
theorem dX6_keep_42 : decode cX6_keep 42 = .ok (.getfield 29, 3) := by decide +kernel
theorem dX6_keep_45 : decode cX6_keep 45 = .ok (.iload 8, 2) := by decide +kernel
theorem dX6_keep_47 : decode cX6_keep 47 = .ok (.iload 6, 2) := by decide +kernel
theorem dX6_keep_49 : decode cX6_keep 49 = .ok (.ifCond .ge 7, 3) := by decide +kernel
theorem dX6_keep_52 : decode cX6_keep 52 = .ok (.iconst 0, 1) := by decide +kernel
theorem dX6_keep_53 : decode cX6_keep 53 = .ok (.goto 12, 3) := by decide +kernel
theorem dX6_keep_56 : decode cX6_keep 56 = .ok (.aload_n 0, 1) := by decide +kernel
theorem dX6_keep_57 : decode cX6_keep 57 = .ok (.getfield 29, 3) := by decide +kernel
theorem dX6_keep_60 : decode cX6_keep 60 = .ok (.iload 6, 2) := by decide +kernel
theorem dX6_keep_62 : decode cX6_keep 62 = .ok (.iaload, 1) := by decide +kernel
theorem dX6_keep_63 : decode cX6_keep 63 = .ok (.iconst 1, 1) := by decide +kernel
theorem dX6_keep_64 : decode cX6_keep 64 = .ok (.iadd, 1) := by decide +kernel
theorem dX6_keep_65 : decode cX6_keep 65 = .ok (.iastore, 1) := by decide +kernel
theorem dX6_keep_66 : decode cX6_keep 66 = .ok (.aload_n 0, 1) := by decide +kernel
theorem dX6_keep_67 : decode cX6_keep 67 = .ok (.dup, 1) := by decide +kernel
theorem dX6_keep_68 : decode cX6_keep 68 = .ok (.getfield 9, 3) := by decide +kernel
theorem dX6_keep_71 : decode cX6_keep 71 = .ok (.iconst 1, 1) := by decide +kernel
theorem dX6_keep_72 : decode cX6_keep 72 = .ok (.iadd, 1) := by decide +kernel
theorem dX6_keep_73 : decode cX6_keep 73 = .ok (.putfield 9, 3) := by decide +kernel
theorem dX6_keep_76 : decode cX6_keep 76 = .ok (.aload_n 0, 1) := by decide +kernel
theorem dX6_keep_77 : decode cX6_keep 77 = .ok (.getfield 32, 3) := by decide +kernel
theorem dX6_keep_80 : decode cX6_keep 80 = .ok (.iload_n 1, 1) := by decide +kernel
theorem dX6_keep_81 : decode cX6_keep 81 = .ok (.aload_n 0, 1) := by decide +kernel
theorem dX6_keep_82 : decode cX6_keep 82 = .ok (.getfield 9, 3) := by decide +kernel
theorem dX6_keep_85 : decode cX6_keep 85 = .ok (.iastore, 1) := by decide +kernel
theorem dX6_keep_86 : decode cX6_keep 86 = .ok (.iload 8, 2) := by decide +kernel
theorem dX6_keep_88 : decode cX6_keep 88 = .ok (.ireturn, 1) := by decide +kernel
theorem dX6_traced_0 : decode cX6_traced 0 = .ok (.iload_n 1, 1) := by decide +kernel
theorem dX6_traced_1 : decode cX6_traced 1 = .ok (.istore_n 3, 1) := by decide +kernel
theorem dX6_traced_2 : decode cX6_traced 2 = .ok (.aload_n 0, 1) := by decide +kernel
theorem dX6_traced_3 : decode cX6_traced 3 = .ok (.getfield 29, 3) := by decide +kernel
theorem dX6_traced_6 : decode cX6_traced 6 = .ok (.iload_n 1, 1) := by decide +kernel
theorem dX6_traced_7 : decode cX6_traced 7 = .ok (.iaload, 1) := by decide +kernel
theorem dX6_traced_8 : decode cX6_traced 8 = .ok (.iconst 1, 1) := by decide +kernel
theorem dX6_traced_9 : decode cX6_traced 9 = .ok (.isub, 1) := by decide +kernel
theorem dX6_traced_10 : decode cX6_traced 10 = .ok (.istore 4, 2) := by decide +kernel
theorem dX6_traced_12 : decode cX6_traced 12 = .ok (.iload 4, 2) := by decide +kernel
theorem dX6_traced_14 : decode cX6_traced 14 = .ok (.ifCond .lt 37, 3) := by decide +kernel
theorem dX6_traced_17 : decode cX6_traced 17 = .ok (.iload_n 3, 1) := by decide +kernel
theorem dX6_traced_18 : decode cX6_traced 18 = .ok (.ifCond .lt 33, 3) := by decide +kernel
theorem dX6_traced_21 : decode cX6_traced 21 = .ok (.iload 4, 2) := by decide +kernel
theorem dX6_traced_23 : decode cX6_traced 23 = .ok (.aload_n 2, 1) := by decide +kernel
theorem dX6_traced_24 : decode cX6_traced 24 = .ok (.arraylength, 1) := by decide +kernel
theorem dX6_traced_25 : decode cX6_traced 25 = .ok (.if_icmp .ge 26, 3) := by decide +kernel
theorem dX6_traced_28 : decode cX6_traced 28 = .ok (.aload_n 2, 1) := by decide +kernel
theorem dX6_traced_29 : decode cX6_traced 29 = .ok (.iload 4, 2) := by decide +kernel
theorem dX6_traced_31 : decode cX6_traced 31 = .ok (.aload_n 0, 1) := by decide +kernel
theorem dX6_traced_32 : decode cX6_traced 32 = .ok (.getfield 26, 3) := by decide +kernel
theorem dX6_traced_35 : decode cX6_traced 35 = .ok (.iload_n 3, 1) := by decide +kernel
theorem dX6_traced_36 : decode cX6_traced 36 = .ok (.iaload, 1) := by decide +kernel
theorem dX6_traced_37 : decode cX6_traced 37 = .ok (.iastore, 1) := by decide +kernel
theorem dX6_traced_38 : decode cX6_traced 38 = .ok (.aload_n 0, 1) := by decide +kernel
theorem dX6_traced_39 : decode cX6_traced 39 = .ok (.getfield 22, 3) := by decide +kernel
theorem dX6_traced_42 : decode cX6_traced 42 = .ok (.iload_n 3, 1) := by decide +kernel
theorem dX6_traced_43 : decode cX6_traced 43 = .ok (.iaload, 1) := by decide +kernel
theorem dX6_traced_44 : decode cX6_traced 44 = .ok (.istore_n 3, 1) := by decide +kernel
theorem dX6_traced_45 : decode cX6_traced 45 = .ok (.iinc 4 (-1), 3) := by decide +kernel
theorem dX6_traced_48 : decode cX6_traced 48 = .ok (.goto (-36), 3) := by decide +kernel
theorem dX6_traced_51 : decode cX6_traced 51 = .ok (.aload_n 0, 1) := by decide +kernel
theorem dX6_traced_52 : decode cX6_traced 52 = .ok (.getfield 29, 3) := by decide +kernel
theorem dX6_traced_55 : decode cX6_traced 55 = .ok (.iload_n 1, 1) := by decide +kernel
theorem dX6_traced_56 : decode cX6_traced 56 = .ok (.iaload, 1) := by decide +kernel
theorem dX6_traced_57 : decode cX6_traced 57 = .ok (.ireturn, 1) := by decide +kernel
theorem dX7_init_0 : decode cX7_init 0 = .ok (.aload_n 0, 1) := by decide +kernel
theorem dX7_init_1 : decode cX7_init 1 = .ok (.invokespecial 3, 3) := by decide +kernel
theorem dX7_init_4 : decode cX7_init 4 = .ok (.aload_n 0, 1) := by decide +kernel
theorem dX7_init_5 : decode cX7_init 5 = .ok (.new 9, 3) := by decide +kernel
theorem dX7_init_8 : decode cX7_init 8 = .ok (.dup, 1) := by decide +kernel
theorem dX7_init_9 : decode cX7_init 9 = .ok (.invokespecial 11, 3) := by decide +kernel
theorem dX7_init_12 : decode cX7_init 12 = .ok (.putfield 12, 3) := by decide +kernel
theorem dX7_init_15 : decode cX7_init 15 = .ok (.aload_n 0, 1) := by decide +kernel
theorem dX7_init_16 : decode cX7_init 16 = .ok (.iconst 0, 1) := by decide +kernel
theorem dX7_init_17 : decode cX7_init 17 = .ok (.putfield 18, 3) := by decide +kernel
theorem dX7_init_20 : decode cX7_init 20 = .ok (.aload_n 0, 1) := by decide +kernel
theorem dX7_init_21 : decode cX7_init 21 = .ok (.iconst 0, 1) := by decide +kernel
theorem dX7_init_22 : decode cX7_init 22 = .ok (.putfield 22, 3) := by decide +kernel
theorem dX7_init_25 : decode cX7_init 25 = .ok (.aload_n 0, 1) := by decide +kernel
theorem dX7_init_26 : decode cX7_init 26 = .ok (.iconst 0, 1) := by decide +kernel
theorem dX7_init_27 : decode cX7_init 27 = .ok (.putfield 25, 3) := by decide +kernel
theorem dX7_init_30 : decode cX7_init 30 = .ok (.aload_n 0, 1) := by decide +kernel
theorem dX7_init_31 : decode cX7_init 31 = .ok (.lconst 0, 1) := by decide +kernel
theorem dX7_init_32 : decode cX7_init 32 = .ok (.putfield 28, 3) := by decide +kernel
theorem dX7_init_35 : decode cX7_init 35 = .ok (.aload_n 0, 1) := by decide +kernel
theorem dX7_init_36 : decode cX7_init 36 = .ok (.iconst 0, 1) := by decide +kernel
theorem dX7_init_37 : decode cX7_init 37 = .ok (.putfield 32, 3) := by decide +kernel
theorem dX7_init_40 : decode cX7_init 40 = .ok (.aload_n 0, 1) := by decide +kernel
theorem dX7_init_41 : decode cX7_init 41 = .ok (.iconst 0, 1) := by decide +kernel
theorem dX7_init_42 : decode cX7_init 42 = .ok (.putfield 36, 3) := by decide +kernel
theorem dX7_init_45 : decode cX7_init 45 = .ok (.aload_n 0, 1) := by decide +kernel
theorem dX7_init_46 : decode cX7_init 46 = .ok (.iconst 0, 1) := by decide +kernel
theorem dX7_init_47 : decode cX7_init 47 = .ok (.putfield 39, 3) := by decide +kernel
theorem dX7_init_50 : decode cX7_init 50 = .ok (.aload_n 0, 1) := by decide +kernel
theorem dX7_init_51 : decode cX7_init 51 = .ok (.iconst 0, 1) := by decide +kernel
theorem dX7_init_52 : decode cX7_init 52 = .ok (.putfield 42, 3) := by decide +kernel
theorem dX7_init_55 : decode cX7_init 55 = .ok (.aload_n 0, 1) := by decide +kernel
theorem dX7_init_56 : decode cX7_init 56 = .ok (.iconst 0, 1) := by decide +kernel
theorem dX7_init_57 : decode cX7_init 57 = .ok (.putfield 45, 3) := by decide +kernel
theorem dX7_init_60 : decode cX7_init 60 = .ok (.aload_n 0, 1) := by decide +kernel
theorem dX7_init_61 : decode cX7_init 61 = .ok (.iconst 0, 1) := by decide +kernel
theorem dX7_init_62 : decode cX7_init 62 = .ok (.putfield 48, 3) := by decide +kernel
theorem dX7_init_65 : decode cX7_init 65 = .ok (.aload_n 0, 1) := by decide +kernel
theorem dX7_init_66 : decode cX7_init 66 = .ok (.sipush 128, 3) := by decide +kernel
theorem dX7_init_69 : decode cX7_init 69 = .ok (.newarray .int, 2) := by decide +kernel
theorem dX7_init_71 : decode cX7_init 71 = .ok (.putfield 53, 3) := by decide +kernel
theorem dX7_init_74 : decode cX7_init 74 = .ok (.aload_n 0, 1) := by decide +kernel
theorem dX7_init_75 : decode cX7_init 75 = .ok (.sipush 128, 3) := by decide +kernel
theorem dX7_init_78 : decode cX7_init 78 = .ok (.newarray .long, 2) := by decide +kernel
theorem dX7_init_80 : decode cX7_init 80 = .ok (.putfield 57, 3) := by decide +kernel
theorem dX7_init_83 : decode cX7_init 83 = .ok (.aload_n 0, 1) := by decide +kernel
theorem dX7_init_84 : decode cX7_init 84 = .ok (.sipush 128, 3) := by decide +kernel
theorem dX7_init_87 : decode cX7_init 87 = .ok (.newarray .int, 2) := by decide +kernel
theorem dX7_init_89 : decode cX7_init 89 = .ok (.putfield 61, 3) := by decide +kernel
theorem dX7_init_92 : decode cX7_init 92 = .ok (.aload_n 0, 1) := by decide +kernel
theorem dX7_init_93 : decode cX7_init 93 = .ok (.aload_n 1, 1) := by decide +kernel
theorem dX7_init_94 : decode cX7_init 94 = .ok (.putfield 64, 3) := by decide +kernel
theorem dX7_init_97 : decode cX7_init 97 = .ok (.return_, 1) := by decide +kernel
theorem dX7_reads_0 : decode cX7_reads 0 = .ok (.aload_n 0, 1) := by decide +kernel
theorem dX7_reads_1 : decode cX7_reads 1 = .ok (.aload_n 3, 1) := by decide +kernel
theorem dX7_reads_2 : decode cX7_reads 2 = .ok (.putfield 64, 3) := by decide +kernel
theorem dX7_reads_5 : decode cX7_reads 5 = .ok (.aload_n 0, 1) := by decide +kernel
theorem dX7_reads_6 : decode cX7_reads 6 = .ok (.getfield 64, 3) := by decide +kernel
theorem dX7_reads_9 : decode cX7_reads 9 = .ok (.invokevirtual 68, 3) := by decide +kernel
theorem dX7_reads_12 : decode cX7_reads 12 = .ok (.aload_n 0, 1) := by decide +kernel
theorem dX7_reads_13 : decode cX7_reads 13 = .ok (.iconst 0, 1) := by decide +kernel
theorem dX7_reads_14 : decode cX7_reads 14 = .ok (.putfield 18, 3) := by decide +kernel
theorem dX7_reads_17 : decode cX7_reads 17 = .ok (.aload_n 0, 1) := by decide +kernel
theorem dX7_reads_18 : decode cX7_reads 18 = .ok (.iconst 0, 1) := by decide +kernel
theorem dX7_reads_19 : decode cX7_reads 19 = .ok (.putfield 22, 3) := by decide +kernel
theorem dX7_reads_22 : decode cX7_reads 22 = .ok (.aload_n 0, 1) := by decide +kernel
theorem dX7_reads_23 : decode cX7_reads 23 = .ok (.iconst 0, 1) := by decide +kernel
theorem dX7_reads_24 : decode cX7_reads 24 = .ok (.putfield 25, 3) := by decide +kernel
theorem dX7_reads_27 : decode cX7_reads 27 = .ok (.aload_n 0, 1) := by decide +kernel
theorem dX7_reads_28 : decode cX7_reads 28 = .ok (.iconst 0, 1) := by decide +kernel
theorem dX7_reads_29 : decode cX7_reads 29 = .ok (.putfield 36, 3) := by decide +kernel
theorem dX7_reads_32 : decode cX7_reads 32 = .ok (.aload_n 0, 1) := by decide +kernel
theorem dX7_reads_33 : decode cX7_reads 33 = .ok (.iconst 0, 1) := by decide +kernel
theorem dX7_reads_34 : decode cX7_reads 34 = .ok (.putfield 48, 3) := by decide +kernel
theorem dX7_reads_37 : decode cX7_reads 37 = .ok (.aload_n 0, 1) := by decide +kernel
theorem dX7_reads_38 : decode cX7_reads 38 = .ok (.getfield 12, 3) := by decide +kernel
theorem dX7_reads_41 : decode cX7_reads 41 = .ok (.aload_n 1, 1) := by decide +kernel
theorem dX7_reads_42 : decode cX7_reads 42 = .ok (.iload_n 2, 1) := by decide +kernel
theorem dX7_reads_43 : decode cX7_reads 43 = .ok (.invokevirtual 73, 3) := by decide +kernel
theorem dX7_reads_46 : decode cX7_reads 46 = .ok (.iconst 0, 1) := by decide +kernel
theorem dX7_reads_47 : decode cX7_reads 47 = .ok (.istore 4, 2) := by decide +kernel
theorem dX7_reads_49 : decode cX7_reads 49 = .ok (.iload 4, 2) := by decide +kernel
theorem dX7_reads_51 : decode cX7_reads 51 = .ok (.sipush 800, 3) := by decide +kernel
theorem dX7_reads_54 : decode cX7_reads 54 = .ok (.if_icmp .gt 65, 3) := by decide +kernel
theorem dX7_reads_57 : decode cX7_reads 57 = .ok (.aload_n 0, 1) := by decide +kernel
theorem dX7_reads_58 : decode cX7_reads 58 = .ok (.getfield 12, 3) := by decide +kernel
theorem dX7_reads_61 : decode cX7_reads 61 = .ok (.invokevirtual 77, 3) := by decide +kernel
theorem dX7_reads_64 : decode cX7_reads 64 = .ok (.aload_n 0, 1) := by decide +kernel
theorem dX7_reads_65 : decode cX7_reads 65 = .ok (.getfield 12, 3) := by decide +kernel
theorem dX7_reads_68 : decode cX7_reads 68 = .ok (.getfield 80, 3) := by decide +kernel
theorem dX7_reads_71 : decode cX7_reads 71 = .ok (.ifCond .ne 33, 3) := by decide +kernel
theorem dX7_reads_74 : decode cX7_reads 74 = .ok (.aload_n 0, 1) := by decide +kernel
theorem dX7_reads_75 : decode cX7_reads 75 = .ok (.getfield 18, 3) := by decide +kernel
theorem dX7_reads_78 : decode cX7_reads 78 = .ok (.ifCond .ne 20, 3) := by decide +kernel
theorem dX7_reads_81 : decode cX7_reads 81 = .ok (.aload_n 0, 1) := by decide +kernel
theorem dX7_reads_82 : decode cX7_reads 82 = .ok (.getfield 64, 3) := by decide +kernel
theorem dX7_reads_85 : decode cX7_reads 85 = .ok (.getfield 83, 3) := by decide +kernel
theorem dX7_reads_88 : decode cX7_reads 88 = .ok (.ifCond .le 10, 3) := by decide +kernel
theorem dX7_reads_91 : decode cX7_reads 91 = .ok (.aload_n 0, 1) := by decide +kernel
theorem dX7_reads_92 : decode cX7_reads 92 = .ok (.invokevirtual 86, 3) := by decide +kernel
theorem dX7_reads_95 : decode cX7_reads 95 = .ok (.goto 8, 3) := by decide +kernel
theorem dX7_reads_98 : decode cX7_reads 98 = .ok (.aload_n 0, 1) := by decide +kernel
theorem dX7_reads_99 : decode cX7_reads 99 = .ok (.iconst 1, 1) := by decide +kernel
theorem dX7_reads_100 : decode cX7_reads 100 = .ok (.invokevirtual 90, 3) := by decide +kernel
theorem dX7_reads_103 : decode cX7_reads 103 = .ok (.ireturn, 1) := by decide +kernel
theorem dX7_reads_104 : decode cX7_reads 104 = .ok (.aload_n 0, 1) := by decide +kernel
theorem dX7_reads_105 : decode cX7_reads 105 = .ok (.invokevirtual 94, 3) := by decide +kernel
theorem dX7_reads_108 : decode cX7_reads 108 = .ok (.ifCond .ne 5, 3) := by decide +kernel
theorem dX7_reads_111 : decode cX7_reads 111 = .ok (.iconst 0, 1) := by decide +kernel
theorem dX7_reads_112 : decode cX7_reads 112 = .ok (.ireturn, 1) := by decide +kernel
theorem dX7_reads_113 : decode cX7_reads 113 = .ok (.iinc 4 1, 3) := by decide +kernel
theorem dX7_reads_116 : decode cX7_reads 116 = .ok (.goto (-67), 3) := by decide +kernel
theorem dX7_reads_119 : decode cX7_reads 119 = .ok (.iconst 0, 1) := by decide +kernel
theorem dX7_reads_120 : decode cX7_reads 120 = .ok (.ireturn, 1) := by decide +kernel
theorem dX7_faulty_0 : decode cX7_faulty 0 = .ok (.aload_n 0, 1) := by decide +kernel
theorem dX7_faulty_1 : decode cX7_faulty 1 = .ok (.iload_n 1, 1) := by decide +kernel
theorem dX7_faulty_2 : decode cX7_faulty 2 = .ok (.putfield 22, 3) := by decide +kernel
theorem dX7_faulty_5 : decode cX7_faulty 5 = .ok (.aload_n 0, 1) := by decide +kernel
theorem dX7_faulty_6 : decode cX7_faulty 6 = .ok (.aload_n 0, 1) := by decide +kernel
theorem dX7_faulty_7 : decode cX7_faulty 7 = .ok (.getfield 12, 3) := by decide +kernel
theorem dX7_faulty_10 : decode cX7_faulty 10 = .ok (.getfield 97, 3) := by decide +kernel
theorem dX7_faulty_13 : decode cX7_faulty 13 = .ok (.putfield 25, 3) := by decide +kernel
theorem dX7_faulty_16 : decode cX7_faulty 16 = .ok (.iconst 0, 1) := by decide +kernel
theorem dX7_faulty_17 : decode cX7_faulty 17 = .ok (.ireturn, 1) := by decide +kernel
theorem dX7_awaits_0 : decode cX7_awaits 0 = .ok (.aload_n 0, 1) := by decide +kernel
theorem dX7_awaits_1 : decode cX7_awaits 1 = .ok (.iload_n 1, 1) := by decide +kernel
theorem dX7_awaits_2 : decode cX7_awaits 2 = .ok (.putfield 18, 3) := by decide +kernel
theorem dX7_awaits_5 : decode cX7_awaits 5 = .ok (.iconst 1, 1) := by decide +kernel
theorem dX7_awaits_6 : decode cX7_awaits 6 = .ok (.ireturn, 1) := by decide +kernel
theorem dX7_taken_0 : decode cX7_taken 0 = .ok (.aload_n 0, 1) := by decide +kernel
theorem dX7_taken_1 : decode cX7_taken 1 = .ok (.getfield 18, 3) := by decide +kernel
theorem dX7_taken_4 : decode cX7_taken 4 = .ok (.tableswitch 258 0 20 #[100, 105, 110, 115, 123, 128, 137, 142, 147, 156, 161, 187, 192, 197, 202, 228, 233, 238, 243, 248, 253], 100) := by decide +kernel
theorem dX7_taken_104 : decode cX7_taken 104 = .ok (.aload_n 0, 1) := by decide +kernel
theorem dX7_taken_105 : decode cX7_taken 105 = .ok (.invokevirtual 100, 3) := by decide +kernel
theorem dX7_taken_108 : decode cX7_taken 108 = .ok (.ireturn, 1) := by decide +kernel
theorem dX7_taken_109 : decode cX7_taken 109 = .ok (.aload_n 0, 1) := by decide +kernel
theorem dX7_taken_110 : decode cX7_taken 110 = .ok (.invokevirtual 103, 3) := by decide +kernel
theorem dX7_taken_113 : decode cX7_taken 113 = .ok (.ireturn, 1) := by decide +kernel
theorem dX7_taken_114 : decode cX7_taken 114 = .ok (.aload_n 0, 1) := by decide +kernel
theorem dX7_taken_115 : decode cX7_taken 115 = .ok (.invokevirtual 106, 3) := by decide +kernel
theorem dX7_taken_118 : decode cX7_taken 118 = .ok (.ireturn, 1) := by decide +kernel
theorem dX7_taken_119 : decode cX7_taken 119 = .ok (.aload_n 0, 1) := by decide +kernel
theorem dX7_taken_120 : decode cX7_taken 120 = .ok (.bipush 59, 2) := by decide +kernel
theorem dX7_taken_122 : decode cX7_taken 122 = .ok (.iconst 0, 1) := by decide +kernel
theorem dX7_taken_123 : decode cX7_taken 123 = .ok (.invokevirtual 109, 3) := by decide +kernel
theorem dX7_taken_126 : decode cX7_taken 126 = .ok (.ireturn, 1) := by decide +kernel
theorem dX7_taken_127 : decode cX7_taken 127 = .ok (.aload_n 0, 1) := by decide +kernel
theorem dX7_taken_128 : decode cX7_taken 128 = .ok (.invokevirtual 113, 3) := by decide +kernel
theorem dX7_taken_131 : decode cX7_taken 131 = .ok (.ireturn, 1) := by decide +kernel
theorem dX7_taken_132 : decode cX7_taken 132 = .ok (.aload_n 0, 1) := by decide +kernel
theorem dX7_taken_133 : decode cX7_taken 133 = .ok (.bipush 123, 2) := by decide +kernel
theorem dX7_taken_135 : decode cX7_taken 135 = .ok (.bipush 6, 2) := by decide +kernel
theorem dX7_taken_137 : decode cX7_taken 137 = .ok (.invokevirtual 109, 3) := by decide +kernel
theorem dX7_taken_140 : decode cX7_taken 140 = .ok (.ireturn, 1) := by decide +kernel
theorem dX7_taken_141 : decode cX7_taken 141 = .ok (.aload_n 0, 1) := by decide +kernel
theorem dX7_taken_142 : decode cX7_taken 142 = .ok (.invokevirtual 116, 3) := by decide +kernel
theorem dX7_taken_145 : decode cX7_taken 145 = .ok (.ireturn, 1) := by decide +kernel
theorem dX7_taken_146 : decode cX7_taken 146 = .ok (.aload_n 0, 1) := by decide +kernel
theorem dX7_taken_147 : decode cX7_taken 147 = .ok (.invokevirtual 119, 3) := by decide +kernel
theorem dX7_taken_150 : decode cX7_taken 150 = .ok (.ireturn, 1) := by decide +kernel
theorem dX7_taken_151 : decode cX7_taken 151 = .ok (.aload_n 0, 1) := by decide +kernel
theorem dX7_taken_152 : decode cX7_taken 152 = .ok (.bipush 59, 2) := by decide +kernel
theorem dX7_taken_154 : decode cX7_taken 154 = .ok (.bipush 6, 2) := by decide +kernel
theorem dX7_taken_156 : decode cX7_taken 156 = .ok (.invokevirtual 109, 3) := by decide +kernel
theorem dX7_taken_159 : decode cX7_taken 159 = .ok (.ireturn, 1) := by decide +kernel
theorem dX7_taken_160 : decode cX7_taken 160 = .ok (.aload_n 0, 1) := by decide +kernel
theorem dX7_taken_161 : decode cX7_taken 161 = .ok (.invokevirtual 122, 3) := by decide +kernel
theorem dX7_taken_164 : decode cX7_taken 164 = .ok (.ireturn, 1) := by decide +kernel
theorem dX7_taken_165 : decode cX7_taken 165 = .ok (.aload_n 0, 1) := by decide +kernel
theorem dX7_taken_166 : decode cX7_taken 166 = .ok (.getfield 12, 3) := by decide +kernel
theorem dX7_taken_169 : decode cX7_taken 169 = .ok (.ldc 125, 2) := by decide +kernel
theorem dX7_taken_171 : decode cX7_taken 171 = .ok (.invokevirtual 127, 3) := by decide +kernel
theorem dX7_taken_174 : decode cX7_taken 174 = .ok (.ifCond .eq 12, 3) := by decide +kernel
theorem dX7_taken_177 : decode cX7_taken 177 = .ok (.aload_n 0, 1) := by decide +kernel
theorem dX7_taken_178 : decode cX7_taken 178 = .ok (.bipush 11, 2) := by decide +kernel
theorem dX7_taken_180 : decode cX7_taken 180 = .ok (.invokevirtual 131, 3) := by decide +kernel
theorem dX7_taken_183 : decode cX7_taken 183 = .ok (.goto 7, 3) := by decide +kernel
theorem dX7_taken_186 : decode cX7_taken 186 = .ok (.aload_n 0, 1) := by decide +kernel
theorem dX7_taken_187 : decode cX7_taken 187 = .ok (.invokevirtual 134, 3) := by decide +kernel
theorem dX7_taken_190 : decode cX7_taken 190 = .ok (.ireturn, 1) := by decide +kernel
theorem dX7_taken_191 : decode cX7_taken 191 = .ok (.aload_n 0, 1) := by decide +kernel
theorem dX7_taken_192 : decode cX7_taken 192 = .ok (.invokevirtual 137, 3) := by decide +kernel
theorem dX7_taken_195 : decode cX7_taken 195 = .ok (.ireturn, 1) := by decide +kernel
theorem dX7_taken_196 : decode cX7_taken 196 = .ok (.aload_n 0, 1) := by decide +kernel
theorem dX7_taken_197 : decode cX7_taken 197 = .ok (.invokevirtual 140, 3) := by decide +kernel
theorem dX7_taken_200 : decode cX7_taken 200 = .ok (.ireturn, 1) := by decide +kernel
theorem dX7_taken_201 : decode cX7_taken 201 = .ok (.aload_n 0, 1) := by decide +kernel
theorem dX7_taken_202 : decode cX7_taken 202 = .ok (.invokevirtual 143, 3) := by decide +kernel
theorem dX7_taken_205 : decode cX7_taken 205 = .ok (.ireturn, 1) := by decide +kernel
theorem dX7_taken_206 : decode cX7_taken 206 = .ok (.aload_n 0, 1) := by decide +kernel
theorem dX7_taken_207 : decode cX7_taken 207 = .ok (.getfield 12, 3) := by decide +kernel
theorem dX7_taken_210 : decode cX7_taken 210 = .ok (.ldc 146, 2) := by decide +kernel
theorem dX7_taken_212 : decode cX7_taken 212 = .ok (.invokevirtual 127, 3) := by decide +kernel
theorem dX7_taken_215 : decode cX7_taken 215 = .ok (.ifCond .eq 12, 3) := by decide +kernel
theorem dX7_taken_218 : decode cX7_taken 218 = .ok (.aload_n 0, 1) := by decide +kernel
theorem dX7_taken_219 : decode cX7_taken 219 = .ok (.bipush 11, 2) := by decide +kernel
theorem dX7_taken_221 : decode cX7_taken 221 = .ok (.invokevirtual 131, 3) := by decide +kernel
theorem dX7_taken_224 : decode cX7_taken 224 = .ok (.goto 7, 3) := by decide +kernel
theorem dX7_taken_227 : decode cX7_taken 227 = .ok (.aload_n 0, 1) := by decide +kernel
theorem dX7_taken_228 : decode cX7_taken 228 = .ok (.invokevirtual 134, 3) := by decide +kernel
theorem dX7_taken_231 : decode cX7_taken 231 = .ok (.ireturn, 1) := by decide +kernel
theorem dX7_taken_232 : decode cX7_taken 232 = .ok (.aload_n 0, 1) := by decide +kernel
theorem dX7_taken_233 : decode cX7_taken 233 = .ok (.invokevirtual 148, 3) := by decide +kernel
theorem dX7_taken_236 : decode cX7_taken 236 = .ok (.ireturn, 1) := by decide +kernel
theorem dX7_taken_237 : decode cX7_taken 237 = .ok (.aload_n 0, 1) := by decide +kernel
theorem dX7_taken_238 : decode cX7_taken 238 = .ok (.invokevirtual 134, 3) := by decide +kernel
theorem dX7_taken_241 : decode cX7_taken 241 = .ok (.ireturn, 1) := by decide +kernel
theorem dX7_taken_242 : decode cX7_taken 242 = .ok (.aload_n 0, 1) := by decide +kernel
theorem dX7_taken_243 : decode cX7_taken 243 = .ok (.invokevirtual 151, 3) := by decide +kernel
theorem dX7_taken_246 : decode cX7_taken 246 = .ok (.ireturn, 1) := by decide +kernel
theorem dX7_taken_247 : decode cX7_taken 247 = .ok (.aload_n 0, 1) := by decide +kernel
theorem dX7_taken_248 : decode cX7_taken 248 = .ok (.invokevirtual 154, 3) := by decide +kernel
theorem dX7_taken_251 : decode cX7_taken 251 = .ok (.ireturn, 1) := by decide +kernel
theorem dX7_taken_252 : decode cX7_taken 252 = .ok (.aload_n 0, 1) := by decide +kernel
theorem dX7_taken_253 : decode cX7_taken 253 = .ok (.invokevirtual 157, 3) := by decide +kernel
theorem dX7_taken_256 : decode cX7_taken 256 = .ok (.ireturn, 1) := by decide +kernel
theorem dX7_taken_257 : decode cX7_taken 257 = .ok (.aload_n 0, 1) := by decide +kernel
theorem dX7_taken_258 : decode cX7_taken 258 = .ok (.invokevirtual 160, 3) := by decide +kernel
theorem dX7_taken_261 : decode cX7_taken 261 = .ok (.ireturn, 1) := by decide +kernel
theorem dX7_taken_262 : decode cX7_taken 262 = .ok (.aload_n 0, 1) := by decide +kernel
theorem dX7_taken_263 : decode cX7_taken 263 = .ok (.getfield 12, 3) := by decide +kernel
theorem dX7_taken_266 : decode cX7_taken 266 = .ok (.getfield 80, 3) := by decide +kernel
theorem dX7_taken_269 : decode cX7_taken 269 = .ok (.bipush 44, 2) := by decide +kernel
theorem dX7_taken_271 : decode cX7_taken 271 = .ok (.if_icmp .ne 12, 3) := by decide +kernel
theorem dX7_taken_274 : decode cX7_taken 274 = .ok (.aload_n 0, 1) := by decide +kernel
theorem dX7_taken_275 : decode cX7_taken 275 = .ok (.bipush 17, 2) := by decide +kernel
theorem dX7_taken_277 : decode cX7_taken 277 = .ok (.invokevirtual 131, 3) := by decide +kernel
theorem dX7_taken_280 : decode cX7_taken 280 = .ok (.goto 11, 3) := by decide +kernel
theorem dX7_taken_283 : decode cX7_taken 283 = .ok (.aload_n 0, 1) := by decide +kernel
theorem dX7_taken_284 : decode cX7_taken 284 = .ok (.bipush 59, 2) := by decide +kernel
theorem dX7_taken_286 : decode cX7_taken 286 = .ok (.bipush 6, 2) := by decide +kernel
theorem dX7_taken_288 : decode cX7_taken 288 = .ok (.invokevirtual 109, 3) := by decide +kernel
theorem dX7_taken_291 : decode cX7_taken 291 = .ok (.ireturn, 1) := by decide +kernel
theorem dX7_takeSign_0 : decode cX7_takeSign 0 = .ok (.aload_n 0, 1) := by decide +kernel
theorem dX7_takeSign_1 : decode cX7_takeSign 1 = .ok (.getfield 12, 3) := by decide +kernel
theorem dX7_takeSign_4 : decode cX7_takeSign 4 = .ok (.getfield 80, 3) := by decide +kernel
theorem dX7_takeSign_7 : decode cX7_takeSign 7 = .ok (.iload_n 1, 1) := by decide +kernel
theorem dX7_takeSign_8 : decode cX7_takeSign 8 = .ok (.if_icmp .ne 11, 3) := by decide +kernel
theorem dX7_takeSign_11 : decode cX7_takeSign 11 = .ok (.aload_n 0, 1) := by decide +kernel
theorem dX7_takeSign_12 : decode cX7_takeSign 12 = .ok (.iload_n 2, 1) := by decide +kernel
theorem dX7_takeSign_13 : decode cX7_takeSign 13 = .ok (.invokevirtual 131, 3) := by decide +kernel
theorem dX7_takeSign_16 : decode cX7_takeSign 16 = .ok (.goto 8, 3) := by decide +kernel
theorem dX7_takeSign_19 : decode cX7_takeSign 19 = .ok (.aload_n 0, 1) := by decide +kernel
theorem dX7_takeSign_20 : decode cX7_takeSign 20 = .ok (.iconst 1, 1) := by decide +kernel
theorem dX7_takeSign_21 : decode cX7_takeSign 21 = .ok (.invokevirtual 90, 3) := by decide +kernel
theorem dX7_takeSign_24 : decode cX7_takeSign 24 = .ok (.ireturn, 1) := by decide +kernel
theorem dX7_takeDo_0 : decode cX7_takeDo 0 = .ok (.aload_n 0, 1) := by decide +kernel
theorem dX7_takeDo_1 : decode cX7_takeDo 1 = .ok (.getfield 12, 3) := by decide +kernel
theorem dX7_takeDo_4 : decode cX7_takeDo 4 = .ok (.ldc 163, 2) := by decide +kernel
theorem dX7_takeDo_6 : decode cX7_takeDo 6 = .ok (.invokevirtual 127, 3) := by decide +kernel
theorem dX7_takeDo_9 : decode cX7_takeDo 9 = .ok (.ifCond .eq 12, 3) := by decide +kernel
theorem dX7_takeDo_12 : decode cX7_takeDo 12 = .ok (.aload_n 0, 1) := by decide +kernel
theorem dX7_takeDo_13 : decode cX7_takeDo 13 = .ok (.bipush 17, 2) := by decide +kernel
theorem dX7_takeDo_15 : decode cX7_takeDo 15 = .ok (.invokevirtual 131, 3) := by decide +kernel
theorem dX7_takeDo_18 : decode cX7_takeDo 18 = .ok (.goto 8, 3) := by decide +kernel
theorem dX7_takeDo_21 : decode cX7_takeDo 21 = .ok (.aload_n 0, 1) := by decide +kernel
theorem dX7_takeDo_22 : decode cX7_takeDo 22 = .ok (.iconst 1, 1) := by decide +kernel
theorem dX7_takeDo_23 : decode cX7_takeDo 23 = .ok (.invokevirtual 90, 3) := by decide +kernel
theorem dX7_takeDo_26 : decode cX7_takeDo 26 = .ok (.ireturn, 1) := by decide +kernel
theorem dX7_isNumber_0 : decode cX7_isNumber 0 = .ok (.aload_n 0, 1) := by decide +kernel
theorem dX7_isNumber_1 : decode cX7_isNumber 1 = .ok (.getfield 12, 3) := by decide +kernel
theorem dX7_isNumber_4 : decode cX7_isNumber 4 = .ok (.getfield 80, 3) := by decide +kernel
theorem dX7_isNumber_7 : decode cX7_isNumber 7 = .ok (.iconst 2, 1) := by decide +kernel
theorem dX7_isNumber_8 : decode cX7_isNumber 8 = .ok (.if_icmp .eq 9, 3) := by decide +kernel
theorem dX7_isNumber_11 : decode cX7_isNumber 11 = .ok (.aload_n 0, 1) := by decide +kernel
theorem dX7_isNumber_12 : decode cX7_isNumber 12 = .ok (.iconst 1, 1) := by decide +kernel
theorem dX7_isNumber_13 : decode cX7_isNumber 13 = .ok (.invokevirtual 90, 3) := by decide +kernel
theorem dX7_isNumber_16 : decode cX7_isNumber 16 = .ok (.ireturn, 1) := by decide +kernel
theorem dX7_isNumber_17 : decode cX7_isNumber 17 = .ok (.aload_n 0, 1) := by decide +kernel
theorem dX7_isNumber_18 : decode cX7_isNumber 18 = .ok (.getfield 12, 3) := by decide +kernel
theorem dX7_isNumber_21 : decode cX7_isNumber 21 = .ok (.getfield 165, 3) := by decide +kernel
theorem dX7_isNumber_24 : decode cX7_isNumber 24 = .ok (.iload_n 1, 1) := by decide +kernel
theorem dX7_isNumber_25 : decode cX7_isNumber 25 = .ok (.if_icmp .lt 14, 3) := by decide +kernel
theorem dX7_isNumber_28 : decode cX7_isNumber 28 = .ok (.aload_n 0, 1) := by decide +kernel
theorem dX7_isNumber_29 : decode cX7_isNumber 29 = .ok (.getfield 12, 3) := by decide +kernel
theorem dX7_isNumber_32 : decode cX7_isNumber 32 = .ok (.getfield 165, 3) := by decide +kernel
theorem dX7_isNumber_35 : decode cX7_isNumber 35 = .ok (.iload_n 2, 1) := by decide +kernel
theorem dX7_isNumber_36 : decode cX7_isNumber 36 = .ok (.if_icmp .le 11, 3) := by decide +kernel
theorem dX7_isNumber_39 : decode cX7_isNumber 39 = .ok (.aload_n 0, 1) := by decide +kernel
theorem dX7_isNumber_40 : decode cX7_isNumber 40 = .ok (.iconst 4, 1) := by decide +kernel
theorem dX7_isNumber_41 : decode cX7_isNumber 41 = .ok (.invokevirtual 90, 3) := by decide +kernel
theorem dX7_isNumber_44 : decode cX7_isNumber 44 = .ok (.ifCond .eq 7, 3) := by decide +kernel
theorem dX7_isNumber_47 : decode cX7_isNumber 47 = .ok (.iconst 1, 1) := by decide +kernel
theorem dX7_isNumber_48 : decode cX7_isNumber 48 = .ok (.goto 4, 3) := by decide +kernel
theorem dX7_isNumber_51 : decode cX7_isNumber 51 = .ok (.iconst 0, 1) := by decide +kernel
theorem dX7_isNumber_52 : decode cX7_isNumber 52 = .ok (.ireturn, 1) := by decide +kernel
theorem dX7_isNewName_0 : decode cX7_isNewName 0 = .ok (.aload_n 0, 1) := by decide +kernel
theorem dX7_isNewName_1 : decode cX7_isNewName 1 = .ok (.getfield 12, 3) := by decide +kernel
theorem dX7_isNewName_4 : decode cX7_isNewName 4 = .ok (.getfield 80, 3) := by decide +kernel
theorem dX7_isNewName_7 : decode cX7_isNewName 7 = .ok (.iconst 1, 1) := by decide +kernel
theorem dX7_isNewName_8 : decode cX7_isNewName 8 = .ok (.if_icmp .eq 9, 3) := by decide +kernel
theorem dX7_isNewName_11 : decode cX7_isNewName 11 = .ok (.aload_n 0, 1) := by decide +kernel
theorem dX7_isNewName_12 : decode cX7_isNewName 12 = .ok (.iconst 1, 1) := by decide +kernel
theorem dX7_isNewName_13 : decode cX7_isNewName 13 = .ok (.invokevirtual 90, 3) := by decide +kernel
theorem dX7_isNewName_16 : decode cX7_isNewName 16 = .ok (.ireturn, 1) := by decide +kernel
theorem dX7_isNewName_17 : decode cX7_isNewName 17 = .ok (.iload_n 1, 1) := by decide +kernel
theorem dX7_isNewName_18 : decode cX7_isNewName 18 = .ok (.iconst (-1), 1) := by decide +kernel
theorem dX7_isNewName_19 : decode cX7_isNewName 19 = .ok (.if_icmp .eq 11, 3) := by decide +kernel
theorem dX7_isNewName_22 : decode cX7_isNewName 22 = .ok (.aload_n 0, 1) := by decide +kernel
theorem dX7_isNewName_23 : decode cX7_isNewName 23 = .ok (.iconst 3, 1) := by decide +kernel
theorem dX7_isNewName_24 : decode cX7_isNewName 24 = .ok (.invokevirtual 90, 3) := by decide +kernel
theorem dX7_isNewName_27 : decode cX7_isNewName 27 = .ok (.ifCond .eq 7, 3) := by decide +kernel
theorem dX7_isNewName_30 : decode cX7_isNewName 30 = .ok (.iconst 1, 1) := by decide +kernel
theorem dX7_isNewName_31 : decode cX7_isNewName 31 = .ok (.goto 4, 3) := by decide +kernel
theorem dX7_isNewName_34 : decode cX7_isNewName 34 = .ok (.iconst 0, 1) := by decide +kernel
theorem dX7_isNewName_35 : decode cX7_isNewName 35 = .ok (.ireturn, 1) := by decide +kernel
theorem dX7_isVar_0 : decode cX7_isVar 0 = .ok (.aload_n 0, 1) := by decide +kernel
theorem dX7_isVar_1 : decode cX7_isVar 1 = .ok (.getfield 12, 3) := by decide +kernel
theorem dX7_isVar_4 : decode cX7_isVar 4 = .ok (.getfield 80, 3) := by decide +kernel
theorem dX7_isVar_7 : decode cX7_isVar 7 = .ok (.iconst 1, 1) := by decide +kernel
theorem dX7_isVar_8 : decode cX7_isVar 8 = .ok (.if_icmp .eq 9, 3) := by decide +kernel
theorem dX7_isVar_11 : decode cX7_isVar 11 = .ok (.aload_n 0, 1) := by decide +kernel
theorem dX7_isVar_12 : decode cX7_isVar 12 = .ok (.iconst 1, 1) := by decide +kernel
theorem dX7_isVar_13 : decode cX7_isVar 13 = .ok (.invokevirtual 90, 3) := by decide +kernel
theorem dX7_isVar_16 : decode cX7_isVar 16 = .ok (.ireturn, 1) := by decide +kernel
theorem dX7_isVar_17 : decode cX7_isVar 17 = .ok (.aload_n 0, 1) := by decide +kernel
theorem dX7_isVar_18 : decode cX7_isVar 18 = .ok (.aload_n 0, 1) := by decide +kernel
theorem dX7_isVar_19 : decode cX7_isVar 19 = .ok (.getfield 64, 3) := by decide +kernel
theorem dX7_isVar_22 : decode cX7_isVar 22 = .ok (.aload_n 0, 1) := by decide +kernel
theorem dX7_isVar_23 : decode cX7_isVar 23 = .ok (.getfield 12, 3) := by decide +kernel
theorem dX7_isVar_26 : decode cX7_isVar 26 = .ok (.getfield 168, 3) := by decide +kernel
theorem dX7_isVar_29 : decode cX7_isVar 29 = .ok (.invokevirtual 171, 3) := by decide +kernel
theorem dX7_isVar_32 : decode cX7_isVar 32 = .ok (.putfield 36, 3) := by decide +kernel
theorem dX7_isVar_35 : decode cX7_isVar 35 = .ok (.aload_n 0, 1) := by decide +kernel
theorem dX7_isVar_36 : decode cX7_isVar 36 = .ok (.getfield 36, 3) := by decide +kernel
theorem dX7_isVar_39 : decode cX7_isVar 39 = .ok (.iconst (-1), 1) := by decide +kernel
theorem dX7_isVar_40 : decode cX7_isVar 40 = .ok (.if_icmp .ne 11, 3) := by decide +kernel
theorem dX7_isVar_43 : decode cX7_isVar 43 = .ok (.aload_n 0, 1) := by decide +kernel
theorem dX7_isVar_44 : decode cX7_isVar 44 = .ok (.iconst 2, 1) := by decide +kernel
theorem dX7_isVar_45 : decode cX7_isVar 45 = .ok (.invokevirtual 90, 3) := by decide +kernel
theorem dX7_isVar_48 : decode cX7_isVar 48 = .ok (.ifCond .eq 7, 3) := by decide +kernel
theorem dX7_isVar_51 : decode cX7_isVar 51 = .ok (.iconst 1, 1) := by decide +kernel
theorem dX7_isVar_52 : decode cX7_isVar 52 = .ok (.goto 4, 3) := by decide +kernel
theorem dX7_isVar_55 : decode cX7_isVar 55 = .ok (.iconst 0, 1) := by decide +kernel
theorem dX7_isVar_56 : decode cX7_isVar 56 = .ok (.ireturn, 1) := by decide +kernel
theorem dX7_takeTop_0 : decode cX7_takeTop 0 = .ok (.aload_n 0, 1) := by decide +kernel
theorem dX7_takeTop_1 : decode cX7_takeTop 1 = .ok (.getfield 12, 3) := by decide +kernel
theorem dX7_takeTop_4 : decode cX7_takeTop 4 = .ok (.ldc 175, 2) := by decide +kernel
theorem dX7_takeTop_6 : decode cX7_takeTop 6 = .ok (.invokevirtual 127, 3) := by decide +kernel
theorem dX7_takeTop_9 : decode cX7_takeTop 9 = .ok (.ifCond .eq 29, 3) := by decide +kernel
theorem dX7_takeTop_12 : decode cX7_takeTop 12 = .ok (.aload_n 0, 1) := by decide +kernel
theorem dX7_takeTop_13 : decode cX7_takeTop 13 = .ok (.getfield 64, 3) := by decide +kernel
theorem dX7_takeTop_16 : decode cX7_takeTop 16 = .ok (.getfield 83, 3) := by decide +kernel
theorem dX7_takeTop_19 : decode cX7_takeTop 19 = .ok (.bipush 8, 2) := by decide +kernel
theorem dX7_takeTop_21 : decode cX7_takeTop 21 = .ok (.if_icmp .ge 11, 3) := by decide +kernel
theorem dX7_takeTop_24 : decode cX7_takeTop 24 = .ok (.aload_n 0, 1) := by decide +kernel
theorem dX7_takeTop_25 : decode cX7_takeTop 25 = .ok (.iconst 4, 1) := by decide +kernel
theorem dX7_takeTop_26 : decode cX7_takeTop 26 = .ok (.invokevirtual 131, 3) := by decide +kernel
theorem dX7_takeTop_29 : decode cX7_takeTop 29 = .ok (.goto 8, 3) := by decide +kernel
theorem dX7_takeTop_32 : decode cX7_takeTop 32 = .ok (.aload_n 0, 1) := by decide +kernel
theorem dX7_takeTop_33 : decode cX7_takeTop 33 = .ok (.iconst 5, 1) := by decide +kernel
theorem dX7_takeTop_34 : decode cX7_takeTop 34 = .ok (.invokevirtual 90, 3) := by decide +kernel
theorem dX7_takeTop_37 : decode cX7_takeTop 37 = .ok (.ireturn, 1) := by decide +kernel
theorem dX7_takeTop_38 : decode cX7_takeTop 38 = .ok (.aload_n 0, 1) := by decide +kernel
theorem dX7_takeTop_39 : decode cX7_takeTop 39 = .ok (.aload_n 0, 1) := by decide +kernel
theorem dX7_takeTop_40 : decode cX7_takeTop 40 = .ok (.getfield 12, 3) := by decide +kernel
theorem dX7_takeTop_43 : decode cX7_takeTop 43 = .ok (.ldc 177, 2) := by decide +kernel
theorem dX7_takeTop_45 : decode cX7_takeTop 45 = .ok (.invokevirtual 127, 3) := by decide +kernel
theorem dX7_takeTop_48 : decode cX7_takeTop 48 = .ok (.putfield 32, 3) := by decide +kernel
theorem dX7_takeTop_51 : decode cX7_takeTop 51 = .ok (.aload_n 0, 1) := by decide +kernel
theorem dX7_takeTop_52 : decode cX7_takeTop 52 = .ok (.getfield 64, 3) := by decide +kernel
theorem dX7_takeTop_55 : decode cX7_takeTop 55 = .ok (.getfield 83, 3) := by decide +kernel
theorem dX7_takeTop_58 : decode cX7_takeTop 58 = .ok (.ifCond .gt 22, 3) := by decide +kernel
theorem dX7_takeTop_61 : decode cX7_takeTop 61 = .ok (.aload_n 0, 1) := by decide +kernel
theorem dX7_takeTop_62 : decode cX7_takeTop 62 = .ok (.getfield 32, 3) := by decide +kernel
theorem dX7_takeTop_65 : decode cX7_takeTop 65 = .ok (.ifCond .ne 21, 3) := by decide +kernel
theorem dX7_takeTop_68 : decode cX7_takeTop 68 = .ok (.aload_n 0, 1) := by decide +kernel
theorem dX7_takeTop_69 : decode cX7_takeTop 69 = .ok (.getfield 12, 3) := by decide +kernel
theorem dX7_takeTop_72 : decode cX7_takeTop 72 = .ok (.ldc 178, 2) := by decide +kernel
theorem dX7_takeTop_74 : decode cX7_takeTop 74 = .ok (.invokevirtual 127, 3) := by decide +kernel
theorem dX7_takeTop_77 : decode cX7_takeTop 77 = .ok (.ifCond .ne 9, 3) := by decide +kernel
theorem dX7_takeTop_80 : decode cX7_takeTop 80 = .ok (.aload_n 0, 1) := by decide +kernel
theorem dX7_takeTop_81 : decode cX7_takeTop 81 = .ok (.iconst 1, 1) := by decide +kernel
theorem dX7_takeTop_82 : decode cX7_takeTop 82 = .ok (.invokevirtual 90, 3) := by decide +kernel
theorem dX7_takeTop_85 : decode cX7_takeTop 85 = .ok (.ireturn, 1) := by decide +kernel
theorem dX7_takeTop_86 : decode cX7_takeTop 86 = .ok (.aload_n 0, 1) := by decide +kernel
theorem dX7_takeTop_87 : decode cX7_takeTop 87 = .ok (.getfield 64, 3) := by decide +kernel
theorem dX7_takeTop_90 : decode cX7_takeTop 90 = .ok (.getfield 180, 3) := by decide +kernel
theorem dX7_takeTop_93 : decode cX7_takeTop 93 = .ok (.bipush 6, 2) := by decide +kernel
theorem dX7_takeTop_95 : decode cX7_takeTop 95 = .ok (.if_icmp .ge 11, 3) := by decide +kernel
theorem dX7_takeTop_98 : decode cX7_takeTop 98 = .ok (.aload_n 0, 1) := by decide +kernel
theorem dX7_takeTop_99 : decode cX7_takeTop 99 = .ok (.iconst 1, 1) := by decide +kernel
theorem dX7_takeTop_100 : decode cX7_takeTop 100 = .ok (.invokevirtual 131, 3) := by decide +kernel
theorem dX7_takeTop_103 : decode cX7_takeTop 103 = .ok (.goto 8, 3) := by decide +kernel
theorem dX7_takeTop_106 : decode cX7_takeTop 106 = .ok (.aload_n 0, 1) := by decide +kernel
theorem dX7_takeTop_107 : decode cX7_takeTop 107 = .ok (.iconst 5, 1) := by decide +kernel
theorem dX7_takeTop_108 : decode cX7_takeTop 108 = .ok (.invokevirtual 90, 3) := by decide +kernel
theorem dX7_takeTop_111 : decode cX7_takeTop 111 = .ok (.ireturn, 1) := by decide +kernel
theorem dX7_takeVarName_0 : decode cX7_takeVarName 0 = .ok (.aload_n 0, 1) := by decide +kernel
theorem dX7_takeVarName_1 : decode cX7_takeVarName 1 = .ok (.aload_n 0, 1) := by decide +kernel
theorem dX7_takeVarName_2 : decode cX7_takeVarName 2 = .ok (.getfield 64, 3) := by decide +kernel
theorem dX7_takeVarName_5 : decode cX7_takeVarName 5 = .ok (.aload_n 0, 1) := by decide +kernel
theorem dX7_takeVarName_6 : decode cX7_takeVarName 6 = .ok (.getfield 12, 3) := by decide +kernel
theorem dX7_takeVarName_9 : decode cX7_takeVarName 9 = .ok (.getfield 168, 3) := by decide +kernel
theorem dX7_takeVarName_12 : decode cX7_takeVarName 12 = .ok (.invokevirtual 171, 3) := by decide +kernel
theorem dX7_takeVarName_15 : decode cX7_takeVarName 15 = .ok (.invokevirtual 183, 3) := by decide +kernel
theorem dX7_takeVarName_18 : decode cX7_takeVarName 18 = .ok (.ifCond .ne 5, 3) := by decide +kernel
theorem dX7_takeVarName_21 : decode cX7_takeVarName 21 = .ok (.iconst 0, 1) := by decide +kernel
theorem dX7_takeVarName_22 : decode cX7_takeVarName 22 = .ok (.ireturn, 1) := by decide +kernel
theorem dX7_takeVarName_23 : decode cX7_takeVarName 23 = .ok (.aload_n 0, 1) := by decide +kernel
theorem dX7_takeVarName_24 : decode cX7_takeVarName 24 = .ok (.aload_n 0, 1) := by decide +kernel
theorem dX7_takeVarName_25 : decode cX7_takeVarName 25 = .ok (.getfield 12, 3) := by decide +kernel
theorem dX7_takeVarName_28 : decode cX7_takeVarName 28 = .ok (.getfield 168, 3) := by decide +kernel
theorem dX7_takeVarName_31 : decode cX7_takeVarName 31 = .ok (.putfield 28, 3) := by decide +kernel
theorem dX7_takeVarName_34 : decode cX7_takeVarName 34 = .ok (.aload_n 0, 1) := by decide +kernel
theorem dX7_takeVarName_35 : decode cX7_takeVarName 35 = .ok (.iconst 2, 1) := by decide +kernel
theorem dX7_takeVarName_36 : decode cX7_takeVarName 36 = .ok (.invokevirtual 131, 3) := by decide +kernel
theorem dX7_takeVarName_39 : decode cX7_takeVarName 39 = .ok (.ireturn, 1) := by decide +kernel
theorem dX7_takeVarMost_0 : decode cX7_takeVarMost 0 = .ok (.aload_n 0, 1) := by decide +kernel
theorem dX7_takeVarMost_1 : decode cX7_takeVarMost 1 = .ok (.iconst 1, 1) := by decide +kernel
theorem dX7_takeVarMost_2 : decode cX7_takeVarMost 2 = .ok (.bipush 9, 2) := by decide +kernel
theorem dX7_takeVarMost_4 : decode cX7_takeVarMost 4 = .ok (.invokevirtual 186, 3) := by decide +kernel
theorem dX7_takeVarMost_7 : decode cX7_takeVarMost 7 = .ok (.ifCond .ne 5, 3) := by decide +kernel
theorem dX7_takeVarMost_10 : decode cX7_takeVarMost 10 = .ok (.iconst 0, 1) := by decide +kernel
theorem dX7_takeVarMost_11 : decode cX7_takeVarMost 11 = .ok (.ireturn, 1) := by decide +kernel
theorem dX7_takeVarMost_12 : decode cX7_takeVarMost 12 = .ok (.aload_n 0, 1) := by decide +kernel
theorem dX7_takeVarMost_13 : decode cX7_takeVarMost 13 = .ok (.getfield 64, 3) := by decide +kernel
theorem dX7_takeVarMost_16 : decode cX7_takeVarMost 16 = .ok (.aload_n 0, 1) := by decide +kernel
theorem dX7_takeVarMost_17 : decode cX7_takeVarMost 17 = .ok (.getfield 28, 3) := by decide +kernel
theorem dX7_takeVarMost_20 : decode cX7_takeVarMost 20 = .ok (.aload_n 0, 1) := by decide +kernel
theorem dX7_takeVarMost_21 : decode cX7_takeVarMost 21 = .ok (.getfield 12, 3) := by decide +kernel
theorem dX7_takeVarMost_24 : decode cX7_takeVarMost 24 = .ok (.getfield 165, 3) := by decide +kernel
theorem dX7_takeVarMost_27 : decode cX7_takeVarMost 27 = .ok (.aload_n 0, 1) := by decide +kernel
theorem dX7_takeVarMost_28 : decode cX7_takeVarMost 28 = .ok (.getfield 32, 3) := by decide +kernel
theorem dX7_takeVarMost_31 : decode cX7_takeVarMost 31 = .ok (.invokevirtual 189, 3) := by decide +kernel
theorem dX7_takeVarMost_34 : decode cX7_takeVarMost 34 = .ok (.aload_n 0, 1) := by decide +kernel
theorem dX7_takeVarMost_35 : decode cX7_takeVarMost 35 = .ok (.iconst 3, 1) := by decide +kernel
theorem dX7_takeVarMost_36 : decode cX7_takeVarMost 36 = .ok (.invokevirtual 131, 3) := by decide +kernel
theorem dX7_takeVarMost_39 : decode cX7_takeVarMost 39 = .ok (.ireturn, 1) := by decide +kernel
theorem dX7_takeWindowName_0 : decode cX7_takeWindowName 0 = .ok (.aload_n 0, 1) := by decide +kernel
theorem dX7_takeWindowName_1 : decode cX7_takeWindowName 1 = .ok (.aload_n 0, 1) := by decide +kernel
theorem dX7_takeWindowName_2 : decode cX7_takeWindowName 2 = .ok (.getfield 64, 3) := by decide +kernel
theorem dX7_takeWindowName_5 : decode cX7_takeWindowName 5 = .ok (.aload_n 0, 1) := by decide +kernel
theorem dX7_takeWindowName_6 : decode cX7_takeWindowName 6 = .ok (.getfield 12, 3) := by decide +kernel
theorem dX7_takeWindowName_9 : decode cX7_takeWindowName 9 = .ok (.getfield 168, 3) := by decide +kernel
theorem dX7_takeWindowName_12 : decode cX7_takeWindowName 12 = .ok (.invokevirtual 193, 3) := by decide +kernel
theorem dX7_takeWindowName_15 : decode cX7_takeWindowName 15 = .ok (.invokevirtual 183, 3) := by decide +kernel
theorem dX7_takeWindowName_18 : decode cX7_takeWindowName 18 = .ok (.ifCond .ne 5, 3) := by decide +kernel
theorem dX7_takeWindowName_21 : decode cX7_takeWindowName 21 = .ok (.iconst 0, 1) := by decide +kernel
theorem dX7_takeWindowName_22 : decode cX7_takeWindowName 22 = .ok (.ireturn, 1) := by decide +kernel
theorem dX7_takeWindowName_23 : decode cX7_takeWindowName 23 = .ok (.aload_n 0, 1) := by decide +kernel
theorem dX7_takeWindowName_24 : decode cX7_takeWindowName 24 = .ok (.getfield 64, 3) := by decide +kernel
theorem dX7_takeWindowName_27 : decode cX7_takeWindowName 27 = .ok (.aload_n 0, 1) := by decide +kernel
theorem dX7_takeWindowName_28 : decode cX7_takeWindowName 28 = .ok (.getfield 12, 3) := by decide +kernel
theorem dX7_takeWindowName_31 : decode cX7_takeWindowName 31 = .ok (.getfield 168, 3) := by decide +kernel
theorem dX7_takeWindowName_34 : decode cX7_takeWindowName 34 = .ok (.invokevirtual 196, 3) := by decide +kernel
theorem dX7_takeWindowName_37 : decode cX7_takeWindowName 37 = .ok (.aload_n 0, 1) := by decide +kernel
theorem dX7_takeWindowName_38 : decode cX7_takeWindowName 38 = .ok (.iconst 5, 1) := by decide +kernel
theorem dX7_takeWindowName_39 : decode cX7_takeWindowName 39 = .ok (.invokevirtual 131, 3) := by decide +kernel
theorem dX7_takeWindowName_42 : decode cX7_takeWindowName 42 = .ok (.ireturn, 1) := by decide +kernel
theorem dX7_takePart_0 : decode cX7_takePart 0 = .ok (.aload_n 0, 1) := by decide +kernel
theorem dX7_takePart_1 : decode cX7_takePart 1 = .ok (.getfield 64, 3) := by decide +kernel
theorem dX7_takePart_4 : decode cX7_takePart 4 = .ok (.getfield 83, 3) := by decide +kernel
theorem dX7_takePart_7 : decode cX7_takePart 7 = .ok (.iconst 1, 1) := by decide +kernel
theorem dX7_takePart_8 : decode cX7_takePart 8 = .ok (.isub, 1) := by decide +kernel
theorem dX7_takePart_9 : decode cX7_takePart 9 = .ok (.istore_n 1, 1) := by decide +kernel
theorem dX7_takePart_10 : decode cX7_takePart 10 = .ok (.aload_n 0, 1) := by decide +kernel
theorem dX7_takePart_11 : decode cX7_takePart 11 = .ok (.getfield 12, 3) := by decide +kernel
theorem dX7_takePart_14 : decode cX7_takePart 14 = .ok (.getfield 80, 3) := by decide +kernel
theorem dX7_takePart_17 : decode cX7_takePart 17 = .ok (.bipush 125, 2) := by decide +kernel
theorem dX7_takePart_19 : decode cX7_takePart 19 = .ok (.if_icmp .ne 9, 3) := by decide +kernel
theorem dX7_takePart_22 : decode cX7_takePart 22 = .ok (.aload_n 0, 1) := by decide +kernel
theorem dX7_takePart_23 : decode cX7_takePart 23 = .ok (.iconst 0, 1) := by decide +kernel
theorem dX7_takePart_24 : decode cX7_takePart 24 = .ok (.invokevirtual 131, 3) := by decide +kernel
theorem dX7_takePart_27 : decode cX7_takePart 27 = .ok (.ireturn, 1) := by decide +kernel
theorem dX7_takePart_28 : decode cX7_takePart 28 = .ok (.aload_n 0, 1) := by decide +kernel
theorem dX7_takePart_29 : decode cX7_takePart 29 = .ok (.getfield 64, 3) := by decide +kernel
theorem dX7_takePart_32 : decode cX7_takePart 32 = .ok (.getfield 200, 3) := by decide +kernel
theorem dX7_takePart_35 : decode cX7_takePart 35 = .ok (.iload_n 1, 1) := by decide +kernel
theorem dX7_takePart_36 : decode cX7_takePart 36 = .ok (.iaload, 1) := by decide +kernel
theorem dX7_takePart_37 : decode cX7_takePart 37 = .ok (.ifCond .le 9, 3) := by decide +kernel
theorem dX7_takePart_40 : decode cX7_takePart 40 = .ok (.aload_n 0, 1) := by decide +kernel
theorem dX7_takePart_41 : decode cX7_takePart 41 = .ok (.iconst 1, 1) := by decide +kernel
theorem dX7_takePart_42 : decode cX7_takePart 42 = .ok (.invokevirtual 90, 3) := by decide +kernel
theorem dX7_takePart_45 : decode cX7_takePart 45 = .ok (.ireturn, 1) := by decide +kernel
theorem dX7_takePart_46 : decode cX7_takePart 46 = .ok (.aload_n 0, 1) := by decide +kernel
theorem dX7_takePart_47 : decode cX7_takePart 47 = .ok (.getfield 12, 3) := by decide +kernel
theorem dX7_takePart_50 : decode cX7_takePart 50 = .ok (.ldc 203, 2) := by decide +kernel
theorem dX7_takePart_52 : decode cX7_takePart 52 = .ok (.invokevirtual 127, 3) := by decide +kernel
theorem dX7_takePart_55 : decode cX7_takePart 55 = .ok (.ifCond .eq 10, 3) := by decide +kernel
theorem dX7_takePart_58 : decode cX7_takePart 58 = .ok (.aload_n 0, 1) := by decide +kernel
theorem dX7_takePart_59 : decode cX7_takePart 59 = .ok (.bipush 15, 2) := by decide +kernel
theorem dX7_takePart_61 : decode cX7_takePart 61 = .ok (.invokevirtual 131, 3) := by decide +kernel
theorem dX7_takePart_64 : decode cX7_takePart 64 = .ok (.ireturn, 1) := by decide +kernel
theorem dX7_takePart_65 : decode cX7_takePart 65 = .ok (.aload_n 0, 1) := by decide +kernel
theorem dX7_takePart_66 : decode cX7_takePart 66 = .ok (.getfield 12, 3) := by decide +kernel
theorem dX7_takePart_69 : decode cX7_takePart 69 = .ok (.ldc 205, 2) := by decide +kernel
theorem dX7_takePart_71 : decode cX7_takePart 71 = .ok (.invokevirtual 127, 3) := by decide +kernel
theorem dX7_takePart_74 : decode cX7_takePart 74 = .ok (.ifCond .eq 30, 3) := by decide +kernel
theorem dX7_takePart_77 : decode cX7_takePart 77 = .ok (.aload_n 0, 1) := by decide +kernel
theorem dX7_takePart_78 : decode cX7_takePart 78 = .ok (.getfield 64, 3) := by decide +kernel
theorem dX7_takePart_81 : decode cX7_takePart 81 = .ok (.getfield 207, 3) := by decide +kernel
theorem dX7_takePart_84 : decode cX7_takePart 84 = .ok (.bipush 24, 2) := by decide +kernel
theorem dX7_takePart_86 : decode cX7_takePart 86 = .ok (.if_icmp .ge 12, 3) := by decide +kernel
theorem dX7_takePart_89 : decode cX7_takePart 89 = .ok (.aload_n 0, 1) := by decide +kernel
theorem dX7_takePart_90 : decode cX7_takePart 90 = .ok (.bipush 9, 2) := by decide +kernel
theorem dX7_takePart_92 : decode cX7_takePart 92 = .ok (.invokevirtual 131, 3) := by decide +kernel
theorem dX7_takePart_95 : decode cX7_takePart 95 = .ok (.goto 8, 3) := by decide +kernel
theorem dX7_takePart_98 : decode cX7_takePart 98 = .ok (.aload_n 0, 1) := by decide +kernel
theorem dX7_takePart_99 : decode cX7_takePart 99 = .ok (.iconst 5, 1) := by decide +kernel
theorem dX7_takePart_100 : decode cX7_takePart 100 = .ok (.invokevirtual 90, 3) := by decide +kernel
theorem dX7_takePart_103 : decode cX7_takePart 103 = .ok (.ireturn, 1) := by decide +kernel
theorem dX7_takePart_104 : decode cX7_takePart 104 = .ok (.aload_n 0, 1) := by decide +kernel
theorem dX7_takePart_105 : decode cX7_takePart 105 = .ok (.getfield 64, 3) := by decide +kernel
theorem dX7_takePart_108 : decode cX7_takePart 108 = .ok (.getfield 210, 3) := by decide +kernel
theorem dX7_takePart_111 : decode cX7_takePart 111 = .ok (.iload_n 1, 1) := by decide +kernel
theorem dX7_takePart_112 : decode cX7_takePart 112 = .ok (.iaload, 1) := by decide +kernel
theorem dX7_takePart_113 : decode cX7_takePart 113 = .ok (.aload_n 0, 1) := by decide +kernel
theorem dX7_takePart_114 : decode cX7_takePart 114 = .ok (.getfield 64, 3) := by decide +kernel
theorem dX7_takePart_117 : decode cX7_takePart 117 = .ok (.getfield 213, 3) := by decide +kernel
theorem dX7_takePart_120 : decode cX7_takePart 120 = .ok (.iload_n 1, 1) := by decide +kernel
theorem dX7_takePart_121 : decode cX7_takePart 121 = .ok (.iaload, 1) := by decide +kernel
theorem dX7_takePart_122 : decode cX7_takePart 122 = .ok (.if_icmp .gt 15, 3) := by decide +kernel
theorem dX7_takePart_125 : decode cX7_takePart 125 = .ok (.aload_n 0, 1) := by decide +kernel
theorem dX7_takePart_126 : decode cX7_takePart 126 = .ok (.getfield 12, 3) := by decide +kernel
theorem dX7_takePart_129 : decode cX7_takePart 129 = .ok (.ldc 216, 2) := by decide +kernel
theorem dX7_takePart_131 : decode cX7_takePart 131 = .ok (.invokevirtual 127, 3) := by decide +kernel
theorem dX7_takePart_134 : decode cX7_takePart 134 = .ok (.ifCond .ne 9, 3) := by decide +kernel
theorem dX7_takePart_137 : decode cX7_takePart 137 = .ok (.aload_n 0, 1) := by decide +kernel
theorem dX7_takePart_138 : decode cX7_takePart 138 = .ok (.iconst 1, 1) := by decide +kernel
theorem dX7_takePart_139 : decode cX7_takePart 139 = .ok (.invokevirtual 90, 3) := by decide +kernel
theorem dX7_takePart_142 : decode cX7_takePart 142 = .ok (.ireturn, 1) := by decide +kernel
theorem dX7_takePart_143 : decode cX7_takePart 143 = .ok (.aload_n 0, 1) := by decide +kernel
theorem dX7_takePart_144 : decode cX7_takePart 144 = .ok (.getfield 64, 3) := by decide +kernel
theorem dX7_takePart_147 : decode cX7_takePart 147 = .ok (.getfield 218, 3) := by decide +kernel
theorem dX7_takePart_150 : decode cX7_takePart 150 = .ok (.iload_n 1, 1) := by decide +kernel
theorem dX7_takePart_151 : decode cX7_takePart 151 = .ok (.iaload, 1) := by decide +kernel
theorem dX7_takePart_152 : decode cX7_takePart 152 = .ok (.bipush 6, 2) := by decide +kernel
theorem dX7_takePart_154 : decode cX7_takePart 154 = .ok (.if_icmp .ge 12, 3) := by decide +kernel
theorem dX7_takePart_157 : decode cX7_takePart 157 = .ok (.aload_n 0, 1) := by decide +kernel
theorem dX7_takePart_158 : decode cX7_takePart 158 = .ok (.bipush 7, 2) := by decide +kernel
theorem dX7_takePart_160 : decode cX7_takePart 160 = .ok (.invokevirtual 131, 3) := by decide +kernel
theorem dX7_takePart_163 : decode cX7_takePart 163 = .ok (.goto 8, 3) := by decide +kernel
theorem dX7_takePart_166 : decode cX7_takePart 166 = .ok (.aload_n 0, 1) := by decide +kernel
theorem dX7_takePart_167 : decode cX7_takePart 167 = .ok (.iconst 5, 1) := by decide +kernel
theorem dX7_takePart_168 : decode cX7_takePart 168 = .ok (.invokevirtual 90, 3) := by decide +kernel
theorem dX7_takePart_171 : decode cX7_takePart 171 = .ok (.ireturn, 1) := by decide +kernel
theorem dX7_takeShowName_0 : decode cX7_takeShowName 0 = .ok (.aload_n 0, 1) := by decide +kernel
theorem dX7_takeShowName_1 : decode cX7_takeShowName 1 = .ok (.invokevirtual 221, 3) := by decide +kernel
theorem dX7_takeShowName_4 : decode cX7_takeShowName 4 = .ok (.ifCond .ne 5, 3) := by decide +kernel
theorem dX7_takeShowName_7 : decode cX7_takeShowName 7 = .ok (.iconst 0, 1) := by decide +kernel
theorem dX7_takeShowName_8 : decode cX7_takeShowName 8 = .ok (.ireturn, 1) := by decide +kernel
theorem dX7_takeShowName_9 : decode cX7_takeShowName 9 = .ok (.aload_n 0, 1) := by decide +kernel
theorem dX7_takeShowName_10 : decode cX7_takeShowName 10 = .ok (.getfield 64, 3) := by decide +kernel
theorem dX7_takeShowName_13 : decode cX7_takeShowName 13 = .ok (.aload_n 0, 1) := by decide +kernel
theorem dX7_takeShowName_14 : decode cX7_takeShowName 14 = .ok (.getfield 64, 3) := by decide +kernel
theorem dX7_takeShowName_17 : decode cX7_takeShowName 17 = .ok (.getfield 83, 3) := by decide +kernel
theorem dX7_takeShowName_20 : decode cX7_takeShowName 20 = .ok (.iconst 1, 1) := by decide +kernel
theorem dX7_takeShowName_21 : decode cX7_takeShowName 21 = .ok (.isub, 1) := by decide +kernel
theorem dX7_takeShowName_22 : decode cX7_takeShowName 22 = .ok (.aload_n 0, 1) := by decide +kernel
theorem dX7_takeShowName_23 : decode cX7_takeShowName 23 = .ok (.getfield 36, 3) := by decide +kernel
theorem dX7_takeShowName_26 : decode cX7_takeShowName 26 = .ok (.invokevirtual 224, 3) := by decide +kernel
theorem dX7_takeShowName_29 : decode cX7_takeShowName 29 = .ok (.aload_n 0, 1) := by decide +kernel
theorem dX7_takeShowName_30 : decode cX7_takeShowName 30 = .ok (.bipush 8, 2) := by decide +kernel
theorem dX7_takeShowName_32 : decode cX7_takeShowName 32 = .ok (.invokevirtual 131, 3) := by decide +kernel
theorem dX7_takeShowName_35 : decode cX7_takeShowName 35 = .ok (.ireturn, 1) := by decide +kernel
theorem dX7_takeButtonName_0 : decode cX7_takeButtonName 0 = .ok (.aload_n 0, 1) := by decide +kernel
theorem dX7_takeButtonName_1 : decode cX7_takeButtonName 1 = .ok (.getfield 64, 3) := by decide +kernel
theorem dX7_takeButtonName_4 : decode cX7_takeButtonName 4 = .ok (.getfield 83, 3) := by decide +kernel
theorem dX7_takeButtonName_7 : decode cX7_takeButtonName 7 = .ok (.iconst 1, 1) := by decide +kernel
theorem dX7_takeButtonName_8 : decode cX7_takeButtonName 8 = .ok (.isub, 1) := by decide +kernel
theorem dX7_takeButtonName_9 : decode cX7_takeButtonName 9 = .ok (.istore_n 1, 1) := by decide +kernel
theorem dX7_takeButtonName_10 : decode cX7_takeButtonName 10 = .ok (.aload_n 0, 1) := by decide +kernel
theorem dX7_takeButtonName_11 : decode cX7_takeButtonName 11 = .ok (.aload_n 0, 1) := by decide +kernel
theorem dX7_takeButtonName_12 : decode cX7_takeButtonName 12 = .ok (.getfield 64, 3) := by decide +kernel
theorem dX7_takeButtonName_15 : decode cX7_takeButtonName 15 = .ok (.iload_n 1, 1) := by decide +kernel
theorem dX7_takeButtonName_16 : decode cX7_takeButtonName 16 = .ok (.aload_n 0, 1) := by decide +kernel
theorem dX7_takeButtonName_17 : decode cX7_takeButtonName 17 = .ok (.getfield 12, 3) := by decide +kernel
theorem dX7_takeButtonName_20 : decode cX7_takeButtonName 20 = .ok (.getfield 168, 3) := by decide +kernel
theorem dX7_takeButtonName_23 : decode cX7_takeButtonName 23 = .ok (.invokevirtual 228, 3) := by decide +kernel
theorem dX7_takeButtonName_26 : decode cX7_takeButtonName 26 = .ok (.invokevirtual 183, 3) := by decide +kernel
theorem dX7_takeButtonName_29 : decode cX7_takeButtonName 29 = .ok (.ifCond .ne 5, 3) := by decide +kernel
theorem dX7_takeButtonName_32 : decode cX7_takeButtonName 32 = .ok (.iconst 0, 1) := by decide +kernel
theorem dX7_takeButtonName_33 : decode cX7_takeButtonName 33 = .ok (.ireturn, 1) := by decide +kernel
theorem dX7_takeButtonName_34 : decode cX7_takeButtonName 34 = .ok (.aload_n 0, 1) := by decide +kernel
theorem dX7_takeButtonName_35 : decode cX7_takeButtonName 35 = .ok (.aload_n 0, 1) := by decide +kernel
theorem dX7_takeButtonName_36 : decode cX7_takeButtonName 36 = .ok (.getfield 64, 3) := by decide +kernel
theorem dX7_takeButtonName_39 : decode cX7_takeButtonName 39 = .ok (.getfield 207, 3) := by decide +kernel
theorem dX7_takeButtonName_42 : decode cX7_takeButtonName 42 = .ok (.putfield 45, 3) := by decide +kernel
theorem dX7_takeButtonName_45 : decode cX7_takeButtonName 45 = .ok (.aload_n 0, 1) := by decide +kernel
theorem dX7_takeButtonName_46 : decode cX7_takeButtonName 46 = .ok (.getfield 64, 3) := by decide +kernel
theorem dX7_takeButtonName_49 : decode cX7_takeButtonName 49 = .ok (.iload_n 1, 1) := by decide +kernel
theorem dX7_takeButtonName_50 : decode cX7_takeButtonName 50 = .ok (.aload_n 0, 1) := by decide +kernel
theorem dX7_takeButtonName_51 : decode cX7_takeButtonName 51 = .ok (.getfield 12, 3) := by decide +kernel
theorem dX7_takeButtonName_54 : decode cX7_takeButtonName 54 = .ok (.getfield 168, 3) := by decide +kernel
theorem dX7_takeButtonName_57 : decode cX7_takeButtonName 57 = .ok (.invokevirtual 232, 3) := by decide +kernel
theorem dX7_takeButtonName_60 : decode cX7_takeButtonName 60 = .ok (.aload_n 0, 1) := by decide +kernel
theorem dX7_takeButtonName_61 : decode cX7_takeButtonName 61 = .ok (.bipush 10, 2) := by decide +kernel
theorem dX7_takeButtonName_63 : decode cX7_takeButtonName 63 = .ok (.invokevirtual 131, 3) := by decide +kernel
theorem dX7_takeButtonName_66 : decode cX7_takeButtonName 66 = .ok (.ireturn, 1) := by decide +kernel
theorem dX7_takeCondName_0 : decode cX7_takeCondName 0 = .ok (.aload_n 0, 1) := by decide +kernel
theorem dX7_takeCondName_1 : decode cX7_takeCondName 1 = .ok (.invokevirtual 221, 3) := by decide +kernel
theorem dX7_takeCondName_4 : decode cX7_takeCondName 4 = .ok (.ifCond .ne 5, 3) := by decide +kernel
theorem dX7_takeCondName_7 : decode cX7_takeCondName 7 = .ok (.iconst 0, 1) := by decide +kernel
theorem dX7_takeCondName_8 : decode cX7_takeCondName 8 = .ok (.ireturn, 1) := by decide +kernel
theorem dX7_takeCondName_9 : decode cX7_takeCondName 9 = .ok (.aload_n 0, 1) := by decide +kernel
theorem dX7_takeCondName_10 : decode cX7_takeCondName 10 = .ok (.getfield 64, 3) := by decide +kernel
theorem dX7_takeCondName_13 : decode cX7_takeCondName 13 = .ok (.getfield 236, 3) := by decide +kernel
theorem dX7_takeCondName_16 : decode cX7_takeCondName 16 = .ok (.getfield 240, 3) := by decide +kernel
theorem dX7_takeCondName_19 : decode cX7_takeCondName 19 = .ok (.aload_n 0, 1) := by decide +kernel
theorem dX7_takeCondName_20 : decode cX7_takeCondName 20 = .ok (.getfield 64, 3) := by decide +kernel
theorem dX7_takeCondName_23 : decode cX7_takeCondName 23 = .ok (.getfield 207, 3) := by decide +kernel
theorem dX7_takeCondName_26 : decode cX7_takeCondName 26 = .ok (.iconst 1, 1) := by decide +kernel
theorem dX7_takeCondName_27 : decode cX7_takeCondName 27 = .ok (.isub, 1) := by decide +kernel
theorem dX7_takeCondName_28 : decode cX7_takeCondName 28 = .ok (.iaload, 1) := by decide +kernel
theorem dX7_takeCondName_29 : decode cX7_takeCondName 29 = .ok (.iconst 3, 1) := by decide +kernel
theorem dX7_takeCondName_30 : decode cX7_takeCondName 30 = .ok (.if_icmp .ge 12, 3) := by decide +kernel
theorem dX7_takeCondName_33 : decode cX7_takeCondName 33 = .ok (.aload_n 0, 1) := by decide +kernel
theorem dX7_takeCondName_34 : decode cX7_takeCondName 34 = .ok (.bipush 12, 2) := by decide +kernel
theorem dX7_takeCondName_36 : decode cX7_takeCondName 36 = .ok (.invokevirtual 131, 3) := by decide +kernel
theorem dX7_takeCondName_39 : decode cX7_takeCondName 39 = .ok (.goto 8, 3) := by decide +kernel
theorem dX7_takeCondName_42 : decode cX7_takeCondName 42 = .ok (.aload_n 0, 1) := by decide +kernel
theorem dX7_takeCondName_43 : decode cX7_takeCondName 43 = .ok (.iconst 5, 1) := by decide +kernel
theorem dX7_takeCondName_44 : decode cX7_takeCondName 44 = .ok (.invokevirtual 90, 3) := by decide +kernel
theorem dX7_takeCondName_47 : decode cX7_takeCondName 47 = .ok (.ireturn, 1) := by decide +kernel
theorem dX7_takeCondSign_0 : decode cX7_takeCondSign 0 = .ok (.aload_n 0, 1) := by decide +kernel
theorem dX7_takeCondSign_1 : decode cX7_takeCondSign 1 = .ok (.getfield 12, 3) := by decide +kernel
theorem dX7_takeCondSign_4 : decode cX7_takeCondSign 4 = .ok (.getfield 80, 3) := by decide +kernel
theorem dX7_takeCondSign_7 : decode cX7_takeCondSign 7 = .ok (.invokestatic 245, 3) := by decide +kernel
theorem dX7_takeCondSign_10 : decode cX7_takeCondSign 10 = .ok (.ifCond .ne 9, 3) := by decide +kernel
theorem dX7_takeCondSign_13 : decode cX7_takeCondSign 13 = .ok (.aload_n 0, 1) := by decide +kernel
theorem dX7_takeCondSign_14 : decode cX7_takeCondSign 14 = .ok (.iconst 1, 1) := by decide +kernel
theorem dX7_takeCondSign_15 : decode cX7_takeCondSign 15 = .ok (.invokevirtual 90, 3) := by decide +kernel
theorem dX7_takeCondSign_18 : decode cX7_takeCondSign 18 = .ok (.ireturn, 1) := by decide +kernel
theorem dX7_takeCondSign_19 : decode cX7_takeCondSign 19 = .ok (.aload_n 0, 1) := by decide +kernel
theorem dX7_takeCondSign_20 : decode cX7_takeCondSign 20 = .ok (.aload_n 0, 1) := by decide +kernel
theorem dX7_takeCondSign_21 : decode cX7_takeCondSign 21 = .ok (.getfield 12, 3) := by decide +kernel
theorem dX7_takeCondSign_24 : decode cX7_takeCondSign 24 = .ok (.getfield 80, 3) := by decide +kernel
theorem dX7_takeCondSign_27 : decode cX7_takeCondSign 27 = .ok (.putfield 39, 3) := by decide +kernel
theorem dX7_takeCondSign_30 : decode cX7_takeCondSign 30 = .ok (.aload_n 0, 1) := by decide +kernel
theorem dX7_takeCondSign_31 : decode cX7_takeCondSign 31 = .ok (.bipush 13, 2) := by decide +kernel
theorem dX7_takeCondSign_33 : decode cX7_takeCondSign 33 = .ok (.invokevirtual 131, 3) := by decide +kernel
theorem dX7_takeCondSign_36 : decode cX7_takeCondSign 36 = .ok (.ireturn, 1) := by decide +kernel
theorem dX7_takeCondNumber_0 : decode cX7_takeCondNumber 0 = .ok (.aload_n 0, 1) := by decide +kernel
theorem dX7_takeCondNumber_1 : decode cX7_takeCondNumber 1 = .ok (.iconst 0, 1) := by decide +kernel
theorem dX7_takeCondNumber_2 : decode cX7_takeCondNumber 2 = .ok (.bipush 9, 2) := by decide +kernel
theorem dX7_takeCondNumber_4 : decode cX7_takeCondNumber 4 = .ok (.invokevirtual 186, 3) := by decide +kernel
theorem dX7_takeCondNumber_7 : decode cX7_takeCondNumber 7 = .ok (.ifCond .ne 5, 3) := by decide +kernel
theorem dX7_takeCondNumber_10 : decode cX7_takeCondNumber 10 = .ok (.iconst 0, 1) := by decide +kernel
theorem dX7_takeCondNumber_11 : decode cX7_takeCondNumber 11 = .ok (.ireturn, 1) := by decide +kernel
theorem dX7_takeCondNumber_12 : decode cX7_takeCondNumber 12 = .ok (.aload_n 0, 1) := by decide +kernel
theorem dX7_takeCondNumber_13 : decode cX7_takeCondNumber 13 = .ok (.getfield 64, 3) := by decide +kernel
theorem dX7_takeCondNumber_16 : decode cX7_takeCondNumber 16 = .ok (.getfield 236, 3) := by decide +kernel
theorem dX7_takeCondNumber_19 : decode cX7_takeCondNumber 19 = .ok (.aload_n 0, 1) := by decide +kernel
theorem dX7_takeCondNumber_20 : decode cX7_takeCondNumber 20 = .ok (.getfield 64, 3) := by decide +kernel
theorem dX7_takeCondNumber_23 : decode cX7_takeCondNumber 23 = .ok (.getfield 207, 3) := by decide +kernel
theorem dX7_takeCondNumber_26 : decode cX7_takeCondNumber 26 = .ok (.iconst 1, 1) := by decide +kernel
theorem dX7_takeCondNumber_27 : decode cX7_takeCondNumber 27 = .ok (.isub, 1) := by decide +kernel
theorem dX7_takeCondNumber_28 : decode cX7_takeCondNumber 28 = .ok (.aload_n 0, 1) := by decide +kernel
theorem dX7_takeCondNumber_29 : decode cX7_takeCondNumber 29 = .ok (.getfield 36, 3) := by decide +kernel
theorem dX7_takeCondNumber_32 : decode cX7_takeCondNumber 32 = .ok (.aload_n 0, 1) := by decide +kernel
theorem dX7_takeCondNumber_33 : decode cX7_takeCondNumber 33 = .ok (.getfield 39, 3) := by decide +kernel
theorem dX7_takeCondNumber_36 : decode cX7_takeCondNumber 36 = .ok (.aload_n 0, 1) := by decide +kernel
theorem dX7_takeCondNumber_37 : decode cX7_takeCondNumber 37 = .ok (.getfield 12, 3) := by decide +kernel
theorem dX7_takeCondNumber_40 : decode cX7_takeCondNumber 40 = .ok (.getfield 165, 3) := by decide +kernel
theorem dX7_takeCondNumber_43 : decode cX7_takeCondNumber 43 = .ok (.invokevirtual 248, 3) := by decide +kernel
theorem dX7_takeCondNumber_46 : decode cX7_takeCondNumber 46 = .ok (.aload_n 0, 1) := by decide +kernel
theorem dX7_takeCondNumber_47 : decode cX7_takeCondNumber 47 = .ok (.bipush 14, 2) := by decide +kernel
theorem dX7_takeCondNumber_49 : decode cX7_takeCondNumber 49 = .ok (.invokevirtual 131, 3) := by decide +kernel
theorem dX7_takeCondNumber_52 : decode cX7_takeCondNumber 52 = .ok (.ireturn, 1) := by decide +kernel
theorem dX7_takeTimerTicks_0 : decode cX7_takeTimerTicks 0 = .ok (.aload_n 0, 1) := by decide +kernel
theorem dX7_takeTimerTicks_1 : decode cX7_takeTimerTicks 1 = .ok (.iconst 1, 1) := by decide +kernel
theorem dX7_takeTimerTicks_2 : decode cX7_takeTimerTicks 2 = .ok (.bipush 9, 2) := by decide +kernel
theorem dX7_takeTimerTicks_4 : decode cX7_takeTimerTicks 4 = .ok (.invokevirtual 186, 3) := by decide +kernel
theorem dX7_takeTimerTicks_7 : decode cX7_takeTimerTicks 7 = .ok (.ifCond .ne 5, 3) := by decide +kernel
theorem dX7_takeTimerTicks_10 : decode cX7_takeTimerTicks 10 = .ok (.iconst 0, 1) := by decide +kernel
theorem dX7_takeTimerTicks_11 : decode cX7_takeTimerTicks 11 = .ok (.ireturn, 1) := by decide +kernel
theorem dX7_takeTimerTicks_12 : decode cX7_takeTimerTicks 12 = .ok (.aload_n 0, 1) := by decide +kernel
theorem dX7_takeTimerTicks_13 : decode cX7_takeTimerTicks 13 = .ok (.getfield 64, 3) := by decide +kernel
theorem dX7_takeTimerTicks_16 : decode cX7_takeTimerTicks 16 = .ok (.getfield 83, 3) := by decide +kernel
theorem dX7_takeTimerTicks_19 : decode cX7_takeTimerTicks 19 = .ok (.iconst 1, 1) := by decide +kernel
theorem dX7_takeTimerTicks_20 : decode cX7_takeTimerTicks 20 = .ok (.isub, 1) := by decide +kernel
theorem dX7_takeTimerTicks_21 : decode cX7_takeTimerTicks 21 = .ok (.istore_n 1, 1) := by decide +kernel
theorem dX7_takeTimerTicks_22 : decode cX7_takeTimerTicks 22 = .ok (.aload_n 0, 1) := by decide +kernel
theorem dX7_takeTimerTicks_23 : decode cX7_takeTimerTicks 23 = .ok (.iload_n 1, 1) := by decide +kernel
theorem dX7_takeTimerTicks_24 : decode cX7_takeTimerTicks 24 = .ok (.invokestatic 252, 3) := by decide +kernel
theorem dX7_takeTimerTicks_27 : decode cX7_takeTimerTicks 27 = .ok (.putfield 45, 3) := by decide +kernel
theorem dX7_takeTimerTicks_30 : decode cX7_takeTimerTicks 30 = .ok (.aload_n 0, 1) := by decide +kernel
theorem dX7_takeTimerTicks_31 : decode cX7_takeTimerTicks 31 = .ok (.getfield 64, 3) := by decide +kernel
theorem dX7_takeTimerTicks_34 : decode cX7_takeTimerTicks 34 = .ok (.iload_n 1, 1) := by decide +kernel
theorem dX7_takeTimerTicks_35 : decode cX7_takeTimerTicks 35 = .ok (.aload_n 0, 1) := by decide +kernel
theorem dX7_takeTimerTicks_36 : decode cX7_takeTimerTicks 36 = .ok (.getfield 12, 3) := by decide +kernel
theorem dX7_takeTimerTicks_39 : decode cX7_takeTimerTicks 39 = .ok (.getfield 165, 3) := by decide +kernel
theorem dX7_takeTimerTicks_42 : decode cX7_takeTimerTicks 42 = .ok (.invokevirtual 256, 3) := by decide +kernel
theorem dX7_takeTimerTicks_45 : decode cX7_takeTimerTicks 45 = .ok (.aload_n 0, 1) := by decide +kernel
theorem dX7_takeTimerTicks_46 : decode cX7_takeTimerTicks 46 = .ok (.bipush 16, 2) := by decide +kernel
theorem dX7_takeTimerTicks_48 : decode cX7_takeTimerTicks 48 = .ok (.invokevirtual 131, 3) := by decide +kernel
theorem dX7_takeTimerTicks_51 : decode cX7_takeTimerTicks 51 = .ok (.ireturn, 1) := by decide +kernel
theorem dX7_takeDeed_0 : decode cX7_takeDeed 0 = .ok (.aload_n 0, 1) := by decide +kernel
theorem dX7_takeDeed_1 : decode cX7_takeDeed 1 = .ok (.aload_n 0, 1) := by decide +kernel
theorem dX7_takeDeed_2 : decode cX7_takeDeed 2 = .ok (.invokevirtual 259, 3) := by decide +kernel
theorem dX7_takeDeed_5 : decode cX7_takeDeed 5 = .ok (.putfield 42, 3) := by decide +kernel
theorem dX7_takeDeed_8 : decode cX7_takeDeed 8 = .ok (.aload_n 0, 1) := by decide +kernel
theorem dX7_takeDeed_9 : decode cX7_takeDeed 9 = .ok (.getfield 42, 3) := by decide +kernel
theorem dX7_takeDeed_12 : decode cX7_takeDeed 12 = .ok (.iconst (-1), 1) := by decide +kernel
theorem dX7_takeDeed_13 : decode cX7_takeDeed 13 = .ok (.if_icmp .ne 9, 3) := by decide +kernel
theorem dX7_takeDeed_16 : decode cX7_takeDeed 16 = .ok (.aload_n 0, 1) := by decide +kernel
theorem dX7_takeDeed_17 : decode cX7_takeDeed 17 = .ok (.iconst 1, 1) := by decide +kernel
theorem dX7_takeDeed_18 : decode cX7_takeDeed 18 = .ok (.invokevirtual 90, 3) := by decide +kernel
theorem dX7_takeDeed_21 : decode cX7_takeDeed 21 = .ok (.ireturn, 1) := by decide +kernel
theorem dX7_takeDeed_22 : decode cX7_takeDeed 22 = .ok (.aload_n 0, 1) := by decide +kernel
theorem dX7_takeDeed_23 : decode cX7_takeDeed 23 = .ok (.getfield 64, 3) := by decide +kernel
theorem dX7_takeDeed_26 : decode cX7_takeDeed 26 = .ok (.getfield 263, 3) := by decide +kernel
theorem dX7_takeDeed_29 : decode cX7_takeDeed 29 = .ok (.getfield 267, 3) := by decide +kernel
theorem dX7_takeDeed_32 : decode cX7_takeDeed 32 = .ok (.aload_n 0, 1) := by decide +kernel
theorem dX7_takeDeed_33 : decode cX7_takeDeed 33 = .ok (.getfield 45, 3) := by decide +kernel
theorem dX7_takeDeed_36 : decode cX7_takeDeed 36 = .ok (.iaload, 1) := by decide +kernel
theorem dX7_takeDeed_37 : decode cX7_takeDeed 37 = .ok (.iconst 4, 1) := by decide +kernel
theorem dX7_takeDeed_38 : decode cX7_takeDeed 38 = .ok (.if_icmp .lt 9, 3) := by decide +kernel
theorem dX7_takeDeed_41 : decode cX7_takeDeed 41 = .ok (.aload_n 0, 1) := by decide +kernel
theorem dX7_takeDeed_42 : decode cX7_takeDeed 42 = .ok (.iconst 5, 1) := by decide +kernel
theorem dX7_takeDeed_43 : decode cX7_takeDeed 43 = .ok (.invokevirtual 90, 3) := by decide +kernel
theorem dX7_takeDeed_46 : decode cX7_takeDeed 46 = .ok (.ireturn, 1) := by decide +kernel
theorem dX7_takeDeed_47 : decode cX7_takeDeed 47 = .ok (.aload_n 0, 1) := by decide +kernel
theorem dX7_takeDeed_48 : decode cX7_takeDeed 48 = .ok (.getfield 42, 3) := by decide +kernel
theorem dX7_takeDeed_51 : decode cX7_takeDeed 51 = .ok (.tableswitch 75 0 4 #[33, 40, 75, 75, 68], 33) := by decide +kernel
theorem dX7_takeDeed_84 : decode cX7_takeDeed 84 = .ok (.aload_n 0, 1) := by decide +kernel
theorem dX7_takeDeed_85 : decode cX7_takeDeed 85 = .ok (.bipush 18, 2) := by decide +kernel
theorem dX7_takeDeed_87 : decode cX7_takeDeed 87 = .ok (.invokevirtual 131, 3) := by decide +kernel
theorem dX7_takeDeed_90 : decode cX7_takeDeed 90 = .ok (.ireturn, 1) := by decide +kernel
theorem dX7_takeDeed_91 : decode cX7_takeDeed 91 = .ok (.aload_n 0, 1) := by decide +kernel
theorem dX7_takeDeed_92 : decode cX7_takeDeed 92 = .ok (.getfield 64, 3) := by decide +kernel
theorem dX7_takeDeed_95 : decode cX7_takeDeed 95 = .ok (.getfield 263, 3) := by decide +kernel
theorem dX7_takeDeed_98 : decode cX7_takeDeed 98 = .ok (.aload_n 0, 1) := by decide +kernel
theorem dX7_takeDeed_99 : decode cX7_takeDeed 99 = .ok (.getfield 45, 3) := by decide +kernel
theorem dX7_takeDeed_102 : decode cX7_takeDeed 102 = .ok (.aload_n 0, 1) := by decide +kernel
theorem dX7_takeDeed_103 : decode cX7_takeDeed 103 = .ok (.getfield 42, 3) := by decide +kernel
theorem dX7_takeDeed_106 : decode cX7_takeDeed 106 = .ok (.iconst 0, 1) := by decide +kernel
theorem dX7_takeDeed_107 : decode cX7_takeDeed 107 = .ok (.iconst 0, 1) := by decide +kernel
theorem dX7_takeDeed_108 : decode cX7_takeDeed 108 = .ok (.invokevirtual 268, 3) := by decide +kernel
theorem dX7_takeDeed_111 : decode cX7_takeDeed 111 = .ok (.pop, 1) := by decide +kernel
theorem dX7_takeDeed_112 : decode cX7_takeDeed 112 = .ok (.aload_n 0, 1) := by decide +kernel
theorem dX7_takeDeed_113 : decode cX7_takeDeed 113 = .ok (.bipush 21, 2) := by decide +kernel
theorem dX7_takeDeed_115 : decode cX7_takeDeed 115 = .ok (.invokevirtual 131, 3) := by decide +kernel
theorem dX7_takeDeed_118 : decode cX7_takeDeed 118 = .ok (.ireturn, 1) := by decide +kernel
theorem dX7_takeDeed_119 : decode cX7_takeDeed 119 = .ok (.aload_n 0, 1) := by decide +kernel
theorem dX7_takeDeed_120 : decode cX7_takeDeed 120 = .ok (.bipush 20, 2) := by decide +kernel
theorem dX7_takeDeed_122 : decode cX7_takeDeed 122 = .ok (.invokevirtual 131, 3) := by decide +kernel
theorem dX7_takeDeed_125 : decode cX7_takeDeed 125 = .ok (.ireturn, 1) := by decide +kernel
theorem dX7_takeDeed_126 : decode cX7_takeDeed 126 = .ok (.aload_n 0, 1) := by decide +kernel
theorem dX7_takeDeed_127 : decode cX7_takeDeed 127 = .ok (.bipush 19, 2) := by decide +kernel
theorem dX7_takeDeed_129 : decode cX7_takeDeed 129 = .ok (.invokevirtual 131, 3) := by decide +kernel
theorem dX7_takeDeed_132 : decode cX7_takeDeed 132 = .ok (.ireturn, 1) := by decide +kernel
theorem dX7_deedSaid_0 : decode cX7_deedSaid 0 = .ok (.aload_n 0, 1) := by decide +kernel
theorem dX7_deedSaid_1 : decode cX7_deedSaid 1 = .ok (.getfield 12, 3) := by decide +kernel
theorem dX7_deedSaid_4 : decode cX7_deedSaid 4 = .ok (.ldc_w 271, 3) := by decide +kernel
theorem dX7_deedSaid_7 : decode cX7_deedSaid 7 = .ok (.invokevirtual 127, 3) := by decide +kernel
theorem dX7_deedSaid_10 : decode cX7_deedSaid 10 = .ok (.ifCond .eq 5, 3) := by decide +kernel
theorem dX7_deedSaid_13 : decode cX7_deedSaid 13 = .ok (.iconst 0, 1) := by decide +kernel
theorem dX7_deedSaid_14 : decode cX7_deedSaid 14 = .ok (.ireturn, 1) := by decide +kernel
theorem dX7_deedSaid_15 : decode cX7_deedSaid 15 = .ok (.aload_n 0, 1) := by decide +kernel
theorem dX7_deedSaid_16 : decode cX7_deedSaid 16 = .ok (.getfield 12, 3) := by decide +kernel
theorem dX7_deedSaid_19 : decode cX7_deedSaid 19 = .ok (.ldc_w 273, 3) := by decide +kernel
theorem dX7_deedSaid_22 : decode cX7_deedSaid 22 = .ok (.invokevirtual 127, 3) := by decide +kernel
theorem dX7_deedSaid_25 : decode cX7_deedSaid 25 = .ok (.ifCond .eq 5, 3) := by decide +kernel
theorem dX7_deedSaid_28 : decode cX7_deedSaid 28 = .ok (.iconst 1, 1) := by decide +kernel
theorem dX7_deedSaid_29 : decode cX7_deedSaid 29 = .ok (.ireturn, 1) := by decide +kernel
theorem dX7_deedSaid_30 : decode cX7_deedSaid 30 = .ok (.aload_n 0, 1) := by decide +kernel
theorem dX7_deedSaid_31 : decode cX7_deedSaid 31 = .ok (.getfield 12, 3) := by decide +kernel
theorem dX7_deedSaid_34 : decode cX7_deedSaid 34 = .ok (.ldc_w 275, 3) := by decide +kernel
theorem dX7_deedSaid_37 : decode cX7_deedSaid 37 = .ok (.invokevirtual 127, 3) := by decide +kernel
theorem dX7_deedSaid_40 : decode cX7_deedSaid 40 = .ok (.ifCond .eq 5, 3) := by decide +kernel
theorem dX7_deedSaid_43 : decode cX7_deedSaid 43 = .ok (.iconst 2, 1) := by decide +kernel
theorem dX7_deedSaid_44 : decode cX7_deedSaid 44 = .ok (.ireturn, 1) := by decide +kernel
theorem dX7_deedSaid_45 : decode cX7_deedSaid 45 = .ok (.aload_n 0, 1) := by decide +kernel
theorem dX7_deedSaid_46 : decode cX7_deedSaid 46 = .ok (.getfield 12, 3) := by decide +kernel
theorem dX7_deedSaid_49 : decode cX7_deedSaid 49 = .ok (.ldc_w 277, 3) := by decide +kernel
theorem dX7_deedSaid_52 : decode cX7_deedSaid 52 = .ok (.invokevirtual 127, 3) := by decide +kernel
theorem dX7_deedSaid_55 : decode cX7_deedSaid 55 = .ok (.ifCond .eq 5, 3) := by decide +kernel
theorem dX7_deedSaid_58 : decode cX7_deedSaid 58 = .ok (.iconst 3, 1) := by decide +kernel
theorem dX7_deedSaid_59 : decode cX7_deedSaid 59 = .ok (.ireturn, 1) := by decide +kernel
theorem dX7_deedSaid_60 : decode cX7_deedSaid 60 = .ok (.aload_n 0, 1) := by decide +kernel
theorem dX7_deedSaid_61 : decode cX7_deedSaid 61 = .ok (.getfield 12, 3) := by decide +kernel
theorem dX7_deedSaid_64 : decode cX7_deedSaid 64 = .ok (.ldc_w 278, 3) := by decide +kernel
theorem dX7_deedSaid_67 : decode cX7_deedSaid 67 = .ok (.invokevirtual 127, 3) := by decide +kernel
theorem dX7_deedSaid_70 : decode cX7_deedSaid 70 = .ok (.ifCond .eq 7, 3) := by decide +kernel
theorem dX7_deedSaid_73 : decode cX7_deedSaid 73 = .ok (.iconst 4, 1) := by decide +kernel
theorem dX7_deedSaid_74 : decode cX7_deedSaid 74 = .ok (.goto 4, 3) := by decide +kernel
theorem dX7_deedSaid_77 : decode cX7_deedSaid 77 = .ok (.iconst (-1), 1) := by decide +kernel
theorem dX7_deedSaid_78 : decode cX7_deedSaid 78 = .ok (.ireturn, 1) := by decide +kernel
theorem dX7_takeDeedWindow_0 : decode cX7_takeDeedWindow 0 = .ok (.aload_n 0, 1) := by decide +kernel
theorem dX7_takeDeedWindow_1 : decode cX7_takeDeedWindow 1 = .ok (.getfield 12, 3) := by decide +kernel
theorem dX7_takeDeedWindow_4 : decode cX7_takeDeedWindow 4 = .ok (.getfield 80, 3) := by decide +kernel
theorem dX7_takeDeedWindow_7 : decode cX7_takeDeedWindow 7 = .ok (.iconst 1, 1) := by decide +kernel
theorem dX7_takeDeedWindow_8 : decode cX7_takeDeedWindow 8 = .ok (.if_icmp .eq 9, 3) := by decide +kernel
theorem dX7_takeDeedWindow_11 : decode cX7_takeDeedWindow 11 = .ok (.aload_n 0, 1) := by decide +kernel
theorem dX7_takeDeedWindow_12 : decode cX7_takeDeedWindow 12 = .ok (.iconst 1, 1) := by decide +kernel
theorem dX7_takeDeedWindow_13 : decode cX7_takeDeedWindow 13 = .ok (.invokevirtual 90, 3) := by decide +kernel
theorem dX7_takeDeedWindow_16 : decode cX7_takeDeedWindow 16 = .ok (.ireturn, 1) := by decide +kernel
theorem dX7_takeDeedWindow_17 : decode cX7_takeDeedWindow 17 = .ok (.aload_n 0, 1) := by decide +kernel
theorem dX7_takeDeedWindow_18 : decode cX7_takeDeedWindow 18 = .ok (.getfield 53, 3) := by decide +kernel
theorem dX7_takeDeedWindow_21 : decode cX7_takeDeedWindow 21 = .ok (.aload_n 0, 1) := by decide +kernel
theorem dX7_takeDeedWindow_22 : decode cX7_takeDeedWindow 22 = .ok (.getfield 48, 3) := by decide +kernel
theorem dX7_takeDeedWindow_25 : decode cX7_takeDeedWindow 25 = .ok (.aload_n 0, 1) := by decide +kernel
theorem dX7_takeDeedWindow_26 : decode cX7_takeDeedWindow 26 = .ok (.getfield 64, 3) := by decide +kernel
theorem dX7_takeDeedWindow_29 : decode cX7_takeDeedWindow 29 = .ok (.getfield 263, 3) := by decide +kernel
theorem dX7_takeDeedWindow_32 : decode cX7_takeDeedWindow 32 = .ok (.aload_n 0, 1) := by decide +kernel
theorem dX7_takeDeedWindow_33 : decode cX7_takeDeedWindow 33 = .ok (.getfield 45, 3) := by decide +kernel
theorem dX7_takeDeedWindow_36 : decode cX7_takeDeedWindow 36 = .ok (.aload_n 0, 1) := by decide +kernel
theorem dX7_takeDeedWindow_37 : decode cX7_takeDeedWindow 37 = .ok (.getfield 42, 3) := by decide +kernel
theorem dX7_takeDeedWindow_40 : decode cX7_takeDeedWindow 40 = .ok (.iconst 0, 1) := by decide +kernel
theorem dX7_takeDeedWindow_41 : decode cX7_takeDeedWindow 41 = .ok (.iconst 0, 1) := by decide +kernel
theorem dX7_takeDeedWindow_42 : decode cX7_takeDeedWindow 42 = .ok (.invokevirtual 268, 3) := by decide +kernel
theorem dX7_takeDeedWindow_45 : decode cX7_takeDeedWindow 45 = .ok (.iastore, 1) := by decide +kernel
theorem dX7_takeDeedWindow_46 : decode cX7_takeDeedWindow 46 = .ok (.aload_n 0, 1) := by decide +kernel
theorem dX7_takeDeedWindow_47 : decode cX7_takeDeedWindow 47 = .ok (.getfield 57, 3) := by decide +kernel
theorem dX7_takeDeedWindow_50 : decode cX7_takeDeedWindow 50 = .ok (.aload_n 0, 1) := by decide +kernel
theorem dX7_takeDeedWindow_51 : decode cX7_takeDeedWindow 51 = .ok (.getfield 48, 3) := by decide +kernel
theorem dX7_takeDeedWindow_54 : decode cX7_takeDeedWindow 54 = .ok (.aload_n 0, 1) := by decide +kernel
theorem dX7_takeDeedWindow_55 : decode cX7_takeDeedWindow 55 = .ok (.getfield 12, 3) := by decide +kernel
theorem dX7_takeDeedWindow_58 : decode cX7_takeDeedWindow 58 = .ok (.getfield 168, 3) := by decide +kernel
theorem dX7_takeDeedWindow_61 : decode cX7_takeDeedWindow 61 = .ok (.lastore, 1) := by decide +kernel
theorem dX7_takeDeedWindow_62 : decode cX7_takeDeedWindow 62 = .ok (.aload_n 0, 1) := by decide +kernel
theorem dX7_takeDeedWindow_63 : decode cX7_takeDeedWindow 63 = .ok (.getfield 61, 3) := by decide +kernel
theorem dX7_takeDeedWindow_66 : decode cX7_takeDeedWindow 66 = .ok (.aload_n 0, 1) := by decide +kernel
theorem dX7_takeDeedWindow_67 : decode cX7_takeDeedWindow 67 = .ok (.getfield 48, 3) := by decide +kernel
theorem dX7_takeDeedWindow_70 : decode cX7_takeDeedWindow 70 = .ok (.aload_n 0, 1) := by decide +kernel
theorem dX7_takeDeedWindow_71 : decode cX7_takeDeedWindow 71 = .ok (.getfield 12, 3) := by decide +kernel
theorem dX7_takeDeedWindow_74 : decode cX7_takeDeedWindow 74 = .ok (.getfield 97, 3) := by decide +kernel
theorem dX7_takeDeedWindow_77 : decode cX7_takeDeedWindow 77 = .ok (.iastore, 1) := by decide +kernel
theorem dX7_takeDeedWindow_78 : decode cX7_takeDeedWindow 78 = .ok (.aload_n 0, 1) := by decide +kernel
theorem dX7_takeDeedWindow_79 : decode cX7_takeDeedWindow 79 = .ok (.dup, 1) := by decide +kernel
theorem dX7_takeDeedWindow_80 : decode cX7_takeDeedWindow 80 = .ok (.getfield 48, 3) := by decide +kernel
theorem dX7_takeDeedWindow_83 : decode cX7_takeDeedWindow 83 = .ok (.iconst 1, 1) := by decide +kernel
theorem dX7_takeDeedWindow_84 : decode cX7_takeDeedWindow 84 = .ok (.iadd, 1) := by decide +kernel
theorem dX7_takeDeedWindow_85 : decode cX7_takeDeedWindow 85 = .ok (.putfield 48, 3) := by decide +kernel
theorem dX7_takeDeedWindow_88 : decode cX7_takeDeedWindow 88 = .ok (.aload_n 0, 1) := by decide +kernel
theorem dX7_takeDeedWindow_89 : decode cX7_takeDeedWindow 89 = .ok (.bipush 21, 2) := by decide +kernel
theorem dX7_takeDeedWindow_91 : decode cX7_takeDeedWindow 91 = .ok (.invokevirtual 131, 3) := by decide +kernel
theorem dX7_takeDeedWindow_94 : decode cX7_takeDeedWindow 94 = .ok (.ireturn, 1) := by decide +kernel
theorem dX7_takeDeedVar_0 : decode cX7_takeDeedVar 0 = .ok (.aload_n 0, 1) := by decide +kernel
theorem dX7_takeDeedVar_1 : decode cX7_takeDeedVar 1 = .ok (.invokevirtual 221, 3) := by decide +kernel
theorem dX7_takeDeedVar_4 : decode cX7_takeDeedVar 4 = .ok (.ifCond .eq 16, 3) := by decide +kernel
theorem dX7_takeDeedVar_7 : decode cX7_takeDeedVar 7 = .ok (.aload_n 0, 1) := by decide +kernel
theorem dX7_takeDeedVar_8 : decode cX7_takeDeedVar 8 = .ok (.bipush 20, 2) := by decide +kernel
theorem dX7_takeDeedVar_10 : decode cX7_takeDeedVar 10 = .ok (.invokevirtual 131, 3) := by decide +kernel
theorem dX7_takeDeedVar_13 : decode cX7_takeDeedVar 13 = .ok (.ifCond .eq 7, 3) := by decide +kernel
theorem dX7_takeDeedVar_16 : decode cX7_takeDeedVar 16 = .ok (.iconst 1, 1) := by decide +kernel
theorem dX7_takeDeedVar_17 : decode cX7_takeDeedVar 17 = .ok (.goto 4, 3) := by decide +kernel
theorem dX7_takeDeedVar_20 : decode cX7_takeDeedVar 20 = .ok (.iconst 0, 1) := by decide +kernel
theorem dX7_takeDeedVar_21 : decode cX7_takeDeedVar 21 = .ok (.ireturn, 1) := by decide +kernel
theorem dX7_takeDeedNumber_0 : decode cX7_takeDeedNumber 0 = .ok (.aload_n 0, 1) := by decide +kernel
theorem dX7_takeDeedNumber_1 : decode cX7_takeDeedNumber 1 = .ok (.getfield 42, 3) := by decide +kernel
theorem dX7_takeDeedNumber_4 : decode cX7_takeDeedNumber 4 = .ok (.iconst 2, 1) := by decide +kernel
theorem dX7_takeDeedNumber_5 : decode cX7_takeDeedNumber 5 = .ok (.if_icmp .ne 7, 3) := by decide +kernel
theorem dX7_takeDeedNumber_8 : decode cX7_takeDeedNumber 8 = .ok (.iconst 0, 1) := by decide +kernel
theorem dX7_takeDeedNumber_9 : decode cX7_takeDeedNumber 9 = .ok (.goto 4, 3) := by decide +kernel
theorem dX7_takeDeedNumber_12 : decode cX7_takeDeedNumber 12 = .ok (.iconst 1, 1) := by decide +kernel
theorem dX7_takeDeedNumber_13 : decode cX7_takeDeedNumber 13 = .ok (.istore_n 1, 1) := by decide +kernel
theorem dX7_takeDeedNumber_14 : decode cX7_takeDeedNumber 14 = .ok (.aload_n 0, 1) := by decide +kernel
theorem dX7_takeDeedNumber_15 : decode cX7_takeDeedNumber 15 = .ok (.getfield 42, 3) := by decide +kernel
theorem dX7_takeDeedNumber_18 : decode cX7_takeDeedNumber 18 = .ok (.iconst 4, 1) := by decide +kernel
theorem dX7_takeDeedNumber_19 : decode cX7_takeDeedNumber 19 = .ok (.if_icmp .ne 8, 3) := by decide +kernel
theorem dX7_takeDeedNumber_22 : decode cX7_takeDeedNumber 22 = .ok (.bipush 20, 2) := by decide +kernel
theorem dX7_takeDeedNumber_24 : decode cX7_takeDeedNumber 24 = .ok (.goto 5, 3) := by decide +kernel
theorem dX7_takeDeedNumber_27 : decode cX7_takeDeedNumber 27 = .ok (.bipush 9, 2) := by decide +kernel
theorem dX7_takeDeedNumber_29 : decode cX7_takeDeedNumber 29 = .ok (.istore_n 2, 1) := by decide +kernel
theorem dX7_takeDeedNumber_30 : decode cX7_takeDeedNumber 30 = .ok (.aload_n 0, 1) := by decide +kernel
theorem dX7_takeDeedNumber_31 : decode cX7_takeDeedNumber 31 = .ok (.getfield 42, 3) := by decide +kernel
theorem dX7_takeDeedNumber_34 : decode cX7_takeDeedNumber 34 = .ok (.iconst 2, 1) := by decide +kernel
theorem dX7_takeDeedNumber_35 : decode cX7_takeDeedNumber 35 = .ok (.if_icmp .ne 16, 3) := by decide +kernel
theorem dX7_takeDeedNumber_38 : decode cX7_takeDeedNumber 38 = .ok (.aload_n 0, 1) := by decide +kernel
theorem dX7_takeDeedNumber_39 : decode cX7_takeDeedNumber 39 = .ok (.getfield 64, 3) := by decide +kernel
theorem dX7_takeDeedNumber_42 : decode cX7_takeDeedNumber 42 = .ok (.getfield 279, 3) := by decide +kernel
theorem dX7_takeDeedNumber_45 : decode cX7_takeDeedNumber 45 = .ok (.aload_n 0, 1) := by decide +kernel
theorem dX7_takeDeedNumber_46 : decode cX7_takeDeedNumber 46 = .ok (.getfield 36, 3) := by decide +kernel
theorem dX7_takeDeedNumber_49 : decode cX7_takeDeedNumber 49 = .ok (.iaload, 1) := by decide +kernel
theorem dX7_takeDeedNumber_50 : decode cX7_takeDeedNumber 50 = .ok (.istore_n 2, 1) := by decide +kernel
theorem dX7_takeDeedNumber_51 : decode cX7_takeDeedNumber 51 = .ok (.aload_n 0, 1) := by decide +kernel
theorem dX7_takeDeedNumber_52 : decode cX7_takeDeedNumber 52 = .ok (.iload_n 1, 1) := by decide +kernel
theorem dX7_takeDeedNumber_53 : decode cX7_takeDeedNumber 53 = .ok (.iload_n 2, 1) := by decide +kernel
theorem dX7_takeDeedNumber_54 : decode cX7_takeDeedNumber 54 = .ok (.invokevirtual 186, 3) := by decide +kernel
theorem dX7_takeDeedNumber_57 : decode cX7_takeDeedNumber 57 = .ok (.ifCond .ne 5, 3) := by decide +kernel
theorem dX7_takeDeedNumber_60 : decode cX7_takeDeedNumber 60 = .ok (.iconst 0, 1) := by decide +kernel
theorem dX7_takeDeedNumber_61 : decode cX7_takeDeedNumber 61 = .ok (.ireturn, 1) := by decide +kernel
theorem dX7_takeDeedNumber_62 : decode cX7_takeDeedNumber 62 = .ok (.aload_n 0, 1) := by decide +kernel
theorem dX7_takeDeedNumber_63 : decode cX7_takeDeedNumber 63 = .ok (.getfield 64, 3) := by decide +kernel
theorem dX7_takeDeedNumber_66 : decode cX7_takeDeedNumber 66 = .ok (.getfield 263, 3) := by decide +kernel
theorem dX7_takeDeedNumber_69 : decode cX7_takeDeedNumber 69 = .ok (.aload_n 0, 1) := by decide +kernel
theorem dX7_takeDeedNumber_70 : decode cX7_takeDeedNumber 70 = .ok (.getfield 45, 3) := by decide +kernel
theorem dX7_takeDeedNumber_73 : decode cX7_takeDeedNumber 73 = .ok (.aload_n 0, 1) := by decide +kernel
theorem dX7_takeDeedNumber_74 : decode cX7_takeDeedNumber 74 = .ok (.getfield 42, 3) := by decide +kernel
theorem dX7_takeDeedNumber_77 : decode cX7_takeDeedNumber 77 = .ok (.aload_n 0, 1) := by decide +kernel
theorem dX7_takeDeedNumber_78 : decode cX7_takeDeedNumber 78 = .ok (.getfield 36, 3) := by decide +kernel
theorem dX7_takeDeedNumber_81 : decode cX7_takeDeedNumber 81 = .ok (.aload_n 0, 1) := by decide +kernel
theorem dX7_takeDeedNumber_82 : decode cX7_takeDeedNumber 82 = .ok (.getfield 12, 3) := by decide +kernel
theorem dX7_takeDeedNumber_85 : decode cX7_takeDeedNumber 85 = .ok (.getfield 165, 3) := by decide +kernel
theorem dX7_takeDeedNumber_88 : decode cX7_takeDeedNumber 88 = .ok (.invokevirtual 268, 3) := by decide +kernel
theorem dX7_takeDeedNumber_91 : decode cX7_takeDeedNumber 91 = .ok (.pop, 1) := by decide +kernel
theorem dX7_takeDeedNumber_92 : decode cX7_takeDeedNumber 92 = .ok (.aload_n 0, 1) := by decide +kernel
theorem dX7_takeDeedNumber_93 : decode cX7_takeDeedNumber 93 = .ok (.bipush 21, 2) := by decide +kernel
theorem dX7_takeDeedNumber_95 : decode cX7_takeDeedNumber 95 = .ok (.invokevirtual 131, 3) := by decide +kernel
theorem dX7_takeDeedNumber_98 : decode cX7_takeDeedNumber 98 = .ok (.ireturn, 1) := by decide +kernel
theorem dX7_findOpened_0 : decode cX7_findOpened 0 = .ok (.iconst 0, 1) := by decide +kernel
theorem dX7_findOpened_1 : decode cX7_findOpened 1 = .ok (.istore_n 1, 1) := by decide +kernel
theorem dX7_findOpened_2 : decode cX7_findOpened 2 = .ok (.iload_n 1, 1) := by decide +kernel
theorem dX7_findOpened_3 : decode cX7_findOpened 3 = .ok (.aload_n 0, 1) := by decide +kernel
theorem dX7_findOpened_4 : decode cX7_findOpened 4 = .ok (.getfield 48, 3) := by decide +kernel
theorem dX7_findOpened_7 : decode cX7_findOpened 7 = .ok (.if_icmp .ge 63, 3) := by decide +kernel
theorem dX7_findOpened_10 : decode cX7_findOpened 10 = .ok (.aload_n 0, 1) := by decide +kernel
theorem dX7_findOpened_11 : decode cX7_findOpened 11 = .ok (.getfield 64, 3) := by decide +kernel
theorem dX7_findOpened_14 : decode cX7_findOpened 14 = .ok (.aload_n 0, 1) := by decide +kernel
theorem dX7_findOpened_15 : decode cX7_findOpened 15 = .ok (.getfield 57, 3) := by decide +kernel
theorem dX7_findOpened_18 : decode cX7_findOpened 18 = .ok (.iload_n 1, 1) := by decide +kernel
theorem dX7_findOpened_19 : decode cX7_findOpened 19 = .ok (.laload, 1) := by decide +kernel
theorem dX7_findOpened_20 : decode cX7_findOpened 20 = .ok (.invokevirtual 193, 3) := by decide +kernel
theorem dX7_findOpened_23 : decode cX7_findOpened 23 = .ok (.istore_n 2, 1) := by decide +kernel
theorem dX7_findOpened_24 : decode cX7_findOpened 24 = .ok (.iload_n 2, 1) := by decide +kernel
theorem dX7_findOpened_25 : decode cX7_findOpened 25 = .ok (.iconst (-1), 1) := by decide +kernel
theorem dX7_findOpened_26 : decode cX7_findOpened 26 = .ok (.if_icmp .ne 20, 3) := by decide +kernel
theorem dX7_findOpened_29 : decode cX7_findOpened 29 = .ok (.aload_n 0, 1) := by decide +kernel
theorem dX7_findOpened_30 : decode cX7_findOpened 30 = .ok (.iconst 2, 1) := by decide +kernel
theorem dX7_findOpened_31 : decode cX7_findOpened 31 = .ok (.putfield 22, 3) := by decide +kernel
theorem dX7_findOpened_34 : decode cX7_findOpened 34 = .ok (.aload_n 0, 1) := by decide +kernel
theorem dX7_findOpened_35 : decode cX7_findOpened 35 = .ok (.aload_n 0, 1) := by decide +kernel
theorem dX7_findOpened_36 : decode cX7_findOpened 36 = .ok (.getfield 61, 3) := by decide +kernel
theorem dX7_findOpened_39 : decode cX7_findOpened 39 = .ok (.iload_n 1, 1) := by decide +kernel
theorem dX7_findOpened_40 : decode cX7_findOpened 40 = .ok (.iaload, 1) := by decide +kernel
theorem dX7_findOpened_41 : decode cX7_findOpened 41 = .ok (.putfield 25, 3) := by decide +kernel
theorem dX7_findOpened_44 : decode cX7_findOpened 44 = .ok (.iconst 0, 1) := by decide +kernel
theorem dX7_findOpened_45 : decode cX7_findOpened 45 = .ok (.ireturn, 1) := by decide +kernel
theorem dX7_findOpened_46 : decode cX7_findOpened 46 = .ok (.aload_n 0, 1) := by decide +kernel
theorem dX7_findOpened_47 : decode cX7_findOpened 47 = .ok (.getfield 64, 3) := by decide +kernel
theorem dX7_findOpened_50 : decode cX7_findOpened 50 = .ok (.getfield 263, 3) := by decide +kernel
theorem dX7_findOpened_53 : decode cX7_findOpened 53 = .ok (.getfield 282, 3) := by decide +kernel
theorem dX7_findOpened_56 : decode cX7_findOpened 56 = .ok (.aload_n 0, 1) := by decide +kernel
theorem dX7_findOpened_57 : decode cX7_findOpened 57 = .ok (.getfield 53, 3) := by decide +kernel
theorem dX7_findOpened_60 : decode cX7_findOpened 60 = .ok (.iload_n 1, 1) := by decide +kernel
theorem dX7_findOpened_61 : decode cX7_findOpened 61 = .ok (.iaload, 1) := by decide +kernel
theorem dX7_findOpened_62 : decode cX7_findOpened 62 = .ok (.iload_n 2, 1) := by decide +kernel
theorem dX7_findOpened_63 : decode cX7_findOpened 63 = .ok (.iastore, 1) := by decide +kernel
theorem dX7_findOpened_64 : decode cX7_findOpened 64 = .ok (.iinc 1 1, 3) := by decide +kernel
theorem dX7_findOpened_67 : decode cX7_findOpened 67 = .ok (.goto (-65), 3) := by decide +kernel
theorem dX7_findOpened_70 : decode cX7_findOpened 70 = .ok (.iconst 1, 1) := by decide +kernel
theorem dX7_findOpened_71 : decode cX7_findOpened 71 = .ok (.ireturn, 1) := by decide +kernel
theorem dX8_init_0 : decode cX8_init 0 = .ok (.aload_n 0, 1) := by decide +kernel
theorem dX8_init_1 : decode cX8_init 1 = .ok (.invokespecial 3, 3) := by decide +kernel
theorem dX8_init_4 : decode cX8_init 4 = .ok (.aload_n 0, 1) := by decide +kernel
theorem dX8_init_5 : decode cX8_init 5 = .ok (.iconst 0, 1) := by decide +kernel
theorem dX8_init_6 : decode cX8_init 6 = .ok (.newarray .int, 2) := by decide +kernel
theorem dX8_init_8 : decode cX8_init 8 = .ok (.putfield 9, 3) := by decide +kernel
theorem dX8_init_11 : decode cX8_init 11 = .ok (.aload_n 0, 1) := by decide +kernel
theorem dX8_init_12 : decode cX8_init 12 = .ok (.iconst 0, 1) := by decide +kernel
theorem dX8_init_13 : decode cX8_init 13 = .ok (.putfield 15, 3) := by decide +kernel
theorem dX8_init_16 : decode cX8_init 16 = .ok (.aload_n 0, 1) := by decide +kernel
theorem dX8_init_17 : decode cX8_init 17 = .ok (.iconst 0, 1) := by decide +kernel
theorem dX8_init_18 : decode cX8_init 18 = .ok (.putfield 19, 3) := by decide +kernel
theorem dX8_init_21 : decode cX8_init 21 = .ok (.aload_n 0, 1) := by decide +kernel
theorem dX8_init_22 : decode cX8_init 22 = .ok (.iconst 0, 1) := by decide +kernel
theorem dX8_init_23 : decode cX8_init 23 = .ok (.putfield 22, 3) := by decide +kernel
theorem dX8_init_26 : decode cX8_init 26 = .ok (.aload_n 0, 1) := by decide +kernel
theorem dX8_init_27 : decode cX8_init 27 = .ok (.iconst 0, 1) := by decide +kernel
theorem dX8_init_28 : decode cX8_init 28 = .ok (.putfield 25, 3) := by decide +kernel
theorem dX8_init_31 : decode cX8_init 31 = .ok (.aload_n 0, 1) := by decide +kernel
theorem dX8_init_32 : decode cX8_init 32 = .ok (.lconst 0, 1) := by decide +kernel
theorem dX8_init_33 : decode cX8_init 33 = .ok (.putfield 28, 3) := by decide +kernel
theorem dX8_init_36 : decode cX8_init 36 = .ok (.aload_n 0, 1) := by decide +kernel
theorem dX8_init_37 : decode cX8_init 37 = .ok (.iconst 0, 1) := by decide +kernel
theorem dX8_init_38 : decode cX8_init 38 = .ok (.putfield 32, 3) := by decide +kernel
theorem dX8_init_41 : decode cX8_init 41 = .ok (.return_, 1) := by decide +kernel
theorem dX8_start_0 : decode cX8_start 0 = .ok (.aload_n 0, 1) := by decide +kernel
theorem dX8_start_1 : decode cX8_start 1 = .ok (.aload_n 1, 1) := by decide +kernel
theorem dX8_start_2 : decode cX8_start 2 = .ok (.putfield 9, 3) := by decide +kernel
theorem dX8_start_5 : decode cX8_start 5 = .ok (.aload_n 0, 1) := by decide +kernel
theorem dX8_start_6 : decode cX8_start 6 = .ok (.iload_n 2, 1) := by decide +kernel
theorem dX8_start_7 : decode cX8_start 7 = .ok (.aload_n 1, 1) := by decide +kernel
theorem dX8_start_8 : decode cX8_start 8 = .ok (.arraylength, 1) := by decide +kernel
theorem dX8_start_9 : decode cX8_start 9 = .ok (.invokestatic 35, 3) := by decide +kernel
theorem dX8_start_12 : decode cX8_start 12 = .ok (.putfield 15, 3) := by decide +kernel
theorem dX8_start_15 : decode cX8_start 15 = .ok (.aload_n 0, 1) := by decide +kernel
theorem dX8_start_16 : decode cX8_start 16 = .ok (.iconst 0, 1) := by decide +kernel
theorem dX8_start_17 : decode cX8_start 17 = .ok (.putfield 19, 3) := by decide +kernel
theorem dX8_start_20 : decode cX8_start 20 = .ok (.return_, 1) := by decide +kernel
theorem dX8_goOn_0 : decode cX8_goOn 0 = .ok (.aload_n 0, 1) := by decide +kernel
theorem dX8_goOn_1 : decode cX8_goOn 1 = .ok (.getfield 19, 3) := by decide +kernel
theorem dX8_goOn_4 : decode cX8_goOn 4 = .ok (.aload_n 0, 1) := by decide +kernel
theorem dX8_goOn_5 : decode cX8_goOn 5 = .ok (.getfield 15, 3) := by decide +kernel
theorem dX8_goOn_8 : decode cX8_goOn 8 = .ok (.if_icmp .ge 44, 3) := by decide +kernel
theorem dX8_goOn_11 : decode cX8_goOn 11 = .ok (.aload_n 0, 1) := by decide +kernel
theorem dX8_goOn_12 : decode cX8_goOn 12 = .ok (.getfield 9, 3) := by decide +kernel
theorem dX8_goOn_15 : decode cX8_goOn 15 = .ok (.aload_n 0, 1) := by decide +kernel
theorem dX8_goOn_16 : decode cX8_goOn 16 = .ok (.getfield 19, 3) := by decide +kernel
theorem dX8_goOn_19 : decode cX8_goOn 19 = .ok (.iaload, 1) := by decide +kernel
theorem dX8_goOn_20 : decode cX8_goOn 20 = .ok (.bipush 32, 2) := by decide +kernel
theorem dX8_goOn_22 : decode cX8_goOn 22 = .ok (.if_icmp .eq 17, 3) := by decide +kernel
theorem dX8_goOn_25 : decode cX8_goOn 25 = .ok (.aload_n 0, 1) := by decide +kernel
theorem dX8_goOn_26 : decode cX8_goOn 26 = .ok (.getfield 9, 3) := by decide +kernel
theorem dX8_goOn_29 : decode cX8_goOn 29 = .ok (.aload_n 0, 1) := by decide +kernel
theorem dX8_goOn_30 : decode cX8_goOn 30 = .ok (.getfield 19, 3) := by decide +kernel
theorem dX8_goOn_33 : decode cX8_goOn 33 = .ok (.iaload, 1) := by decide +kernel
theorem dX8_goOn_34 : decode cX8_goOn 34 = .ok (.bipush 10, 2) := by decide +kernel
theorem dX8_goOn_36 : decode cX8_goOn 36 = .ok (.if_icmp .ne 16, 3) := by decide +kernel
theorem dX8_goOn_39 : decode cX8_goOn 39 = .ok (.aload_n 0, 1) := by decide +kernel
theorem dX8_goOn_40 : decode cX8_goOn 40 = .ok (.dup, 1) := by decide +kernel
theorem dX8_goOn_41 : decode cX8_goOn 41 = .ok (.getfield 19, 3) := by decide +kernel
theorem dX8_goOn_44 : decode cX8_goOn 44 = .ok (.iconst 1, 1) := by decide +kernel
theorem dX8_goOn_45 : decode cX8_goOn 45 = .ok (.iadd, 1) := by decide +kernel
theorem dX8_goOn_46 : decode cX8_goOn 46 = .ok (.putfield 19, 3) := by decide +kernel
theorem dX8_goOn_49 : decode cX8_goOn 49 = .ok (.goto (-49), 3) := by decide +kernel
theorem dX8_goOn_52 : decode cX8_goOn 52 = .ok (.aload_n 0, 1) := by decide +kernel
theorem dX8_goOn_53 : decode cX8_goOn 53 = .ok (.aload_n 0, 1) := by decide +kernel
theorem dX8_goOn_54 : decode cX8_goOn 54 = .ok (.getfield 19, 3) := by decide +kernel
theorem dX8_goOn_57 : decode cX8_goOn 57 = .ok (.putfield 25, 3) := by decide +kernel
theorem dX8_goOn_60 : decode cX8_goOn 60 = .ok (.aload_n 0, 1) := by decide +kernel
theorem dX8_goOn_61 : decode cX8_goOn 61 = .ok (.getfield 19, 3) := by decide +kernel
theorem dX8_goOn_64 : decode cX8_goOn 64 = .ok (.aload_n 0, 1) := by decide +kernel
theorem dX8_goOn_65 : decode cX8_goOn 65 = .ok (.getfield 15, 3) := by decide +kernel
theorem dX8_goOn_68 : decode cX8_goOn 68 = .ok (.if_icmp .lt 11, 3) := by decide +kernel
theorem dX8_goOn_71 : decode cX8_goOn 71 = .ok (.aload_n 0, 1) := by decide +kernel
theorem dX8_goOn_72 : decode cX8_goOn 72 = .ok (.iconst 0, 1) := by decide +kernel
theorem dX8_goOn_73 : decode cX8_goOn 73 = .ok (.putfield 22, 3) := by decide +kernel
theorem dX8_goOn_76 : decode cX8_goOn 76 = .ok (.goto 89, 3) := by decide +kernel
theorem dX8_goOn_79 : decode cX8_goOn 79 = .ok (.aload_n 0, 1) := by decide +kernel
theorem dX8_goOn_80 : decode cX8_goOn 80 = .ok (.getfield 9, 3) := by decide +kernel
theorem dX8_goOn_83 : decode cX8_goOn 83 = .ok (.aload_n 0, 1) := by decide +kernel
theorem dX8_goOn_84 : decode cX8_goOn 84 = .ok (.getfield 19, 3) := by decide +kernel
theorem dX8_goOn_87 : decode cX8_goOn 87 = .ok (.iaload, 1) := by decide +kernel
theorem dX8_goOn_88 : decode cX8_goOn 88 = .ok (.invokestatic 41, 3) := by decide +kernel
theorem dX8_goOn_91 : decode cX8_goOn 91 = .ok (.ifCond .eq 10, 3) := by decide +kernel
theorem dX8_goOn_94 : decode cX8_goOn 94 = .ok (.aload_n 0, 1) := by decide +kernel
theorem dX8_goOn_95 : decode cX8_goOn 95 = .ok (.invokevirtual 45, 3) := by decide +kernel
theorem dX8_goOn_98 : decode cX8_goOn 98 = .ok (.goto 67, 3) := by decide +kernel
theorem dX8_goOn_101 : decode cX8_goOn 101 = .ok (.aload_n 0, 1) := by decide +kernel
theorem dX8_goOn_102 : decode cX8_goOn 102 = .ok (.getfield 9, 3) := by decide +kernel
theorem dX8_goOn_105 : decode cX8_goOn 105 = .ok (.aload_n 0, 1) := by decide +kernel
theorem dX8_goOn_106 : decode cX8_goOn 106 = .ok (.getfield 19, 3) := by decide +kernel
theorem dX8_goOn_109 : decode cX8_goOn 109 = .ok (.iaload, 1) := by decide +kernel
theorem dX8_goOn_110 : decode cX8_goOn 110 = .ok (.invokestatic 48, 3) := by decide +kernel
theorem dX8_goOn_113 : decode cX8_goOn 113 = .ok (.ifCond .eq 10, 3) := by decide +kernel
theorem dX8_goOn_116 : decode cX8_goOn 116 = .ok (.aload_n 0, 1) := by decide +kernel
theorem dX8_goOn_117 : decode cX8_goOn 117 = .ok (.invokevirtual 51, 3) := by decide +kernel
theorem dX8_goOn_120 : decode cX8_goOn 120 = .ok (.goto 45, 3) := by decide +kernel
theorem dX8_goOn_123 : decode cX8_goOn 123 = .ok (.aload_n 0, 1) := by decide +kernel
theorem dX8_goOn_124 : decode cX8_goOn 124 = .ok (.aload_n 0, 1) := by decide +kernel
theorem dX8_goOn_125 : decode cX8_goOn 125 = .ok (.getfield 9, 3) := by decide +kernel
theorem dX8_goOn_128 : decode cX8_goOn 128 = .ok (.aload_n 0, 1) := by decide +kernel
theorem dX8_goOn_129 : decode cX8_goOn 129 = .ok (.getfield 19, 3) := by decide +kernel
theorem dX8_goOn_132 : decode cX8_goOn 132 = .ok (.iaload, 1) := by decide +kernel
theorem dX8_goOn_133 : decode cX8_goOn 133 = .ok (.invokestatic 54, 3) := by decide +kernel
theorem dX8_goOn_136 : decode cX8_goOn 136 = .ok (.ifCond .eq 15, 3) := by decide +kernel
theorem dX8_goOn_139 : decode cX8_goOn 139 = .ok (.aload_n 0, 1) := by decide +kernel
theorem dX8_goOn_140 : decode cX8_goOn 140 = .ok (.getfield 9, 3) := by decide +kernel
theorem dX8_goOn_143 : decode cX8_goOn 143 = .ok (.aload_n 0, 1) := by decide +kernel
theorem dX8_goOn_144 : decode cX8_goOn 144 = .ok (.getfield 19, 3) := by decide +kernel
theorem dX8_goOn_147 : decode cX8_goOn 147 = .ok (.iaload, 1) := by decide +kernel
theorem dX8_goOn_148 : decode cX8_goOn 148 = .ok (.goto 4, 3) := by decide +kernel
theorem dX8_goOn_151 : decode cX8_goOn 151 = .ok (.iconst 3, 1) := by decide +kernel
theorem dX8_goOn_152 : decode cX8_goOn 152 = .ok (.putfield 22, 3) := by decide +kernel
theorem dX8_goOn_155 : decode cX8_goOn 155 = .ok (.aload_n 0, 1) := by decide +kernel
theorem dX8_goOn_156 : decode cX8_goOn 156 = .ok (.dup, 1) := by decide +kernel
theorem dX8_goOn_157 : decode cX8_goOn 157 = .ok (.getfield 19, 3) := by decide +kernel
theorem dX8_goOn_160 : decode cX8_goOn 160 = .ok (.iconst 1, 1) := by decide +kernel
theorem dX8_goOn_161 : decode cX8_goOn 161 = .ok (.iadd, 1) := by decide +kernel
theorem dX8_goOn_162 : decode cX8_goOn 162 = .ok (.putfield 19, 3) := by decide +kernel
theorem dX8_goOn_165 : decode cX8_goOn 165 = .ok (.return_, 1) := by decide +kernel
theorem dX8_goOverWord_0 : decode cX8_goOverWord 0 = .ok (.aload_n 0, 1) := by decide +kernel
theorem dX8_goOverWord_1 : decode cX8_goOverWord 1 = .ok (.lconst 0, 1) := by decide +kernel
theorem dX8_goOverWord_2 : decode cX8_goOverWord 2 = .ok (.putfield 28, 3) := by decide +kernel
theorem dX8_goOverWord_5 : decode cX8_goOverWord 5 = .ok (.aload_n 0, 1) := by decide +kernel
theorem dX8_goOverWord_6 : decode cX8_goOverWord 6 = .ok (.getfield 19, 3) := by decide +kernel
theorem dX8_goOverWord_9 : decode cX8_goOverWord 9 = .ok (.aload_n 0, 1) := by decide +kernel
theorem dX8_goOverWord_10 : decode cX8_goOverWord 10 = .ok (.getfield 15, 3) := by decide +kernel
theorem dX8_goOverWord_13 : decode cX8_goOverWord 13 = .ok (.if_icmp .ge 53, 3) := by decide +kernel
theorem dX8_goOverWord_16 : decode cX8_goOverWord 16 = .ok (.aload_n 0, 1) := by decide +kernel
theorem dX8_goOverWord_17 : decode cX8_goOverWord 17 = .ok (.getfield 9, 3) := by decide +kernel
theorem dX8_goOverWord_20 : decode cX8_goOverWord 20 = .ok (.aload_n 0, 1) := by decide +kernel
theorem dX8_goOverWord_21 : decode cX8_goOverWord 21 = .ok (.getfield 19, 3) := by decide +kernel
theorem dX8_goOverWord_24 : decode cX8_goOverWord 24 = .ok (.iaload, 1) := by decide +kernel
theorem dX8_goOverWord_25 : decode cX8_goOverWord 25 = .ok (.invokestatic 41, 3) := by decide +kernel
theorem dX8_goOverWord_28 : decode cX8_goOverWord 28 = .ok (.ifCond .eq 38, 3) := by decide +kernel
theorem dX8_goOverWord_31 : decode cX8_goOverWord 31 = .ok (.aload_n 0, 1) := by decide +kernel
theorem dX8_goOverWord_32 : decode cX8_goOverWord 32 = .ok (.aload_n 0, 1) := by decide +kernel
theorem dX8_goOverWord_33 : decode cX8_goOverWord 33 = .ok (.getfield 28, 3) := by decide +kernel
theorem dX8_goOverWord_36 : decode cX8_goOverWord 36 = .ok (.bipush 8, 2) := by decide +kernel
theorem dX8_goOverWord_38 : decode cX8_goOverWord 38 = .ok (.lshl, 1) := by decide +kernel
theorem dX8_goOverWord_39 : decode cX8_goOverWord 39 = .ok (.aload_n 0, 1) := by decide +kernel
theorem dX8_goOverWord_40 : decode cX8_goOverWord 40 = .ok (.getfield 9, 3) := by decide +kernel
theorem dX8_goOverWord_43 : decode cX8_goOverWord 43 = .ok (.aload_n 0, 1) := by decide +kernel
theorem dX8_goOverWord_44 : decode cX8_goOverWord 44 = .ok (.getfield 19, 3) := by decide +kernel
theorem dX8_goOverWord_47 : decode cX8_goOverWord 47 = .ok (.iaload, 1) := by decide +kernel
theorem dX8_goOverWord_48 : decode cX8_goOverWord 48 = .ok (.i2l, 1) := by decide +kernel
theorem dX8_goOverWord_49 : decode cX8_goOverWord 49 = .ok (.lor, 1) := by decide +kernel
theorem dX8_goOverWord_50 : decode cX8_goOverWord 50 = .ok (.putfield 28, 3) := by decide +kernel
theorem dX8_goOverWord_53 : decode cX8_goOverWord 53 = .ok (.aload_n 0, 1) := by decide +kernel
theorem dX8_goOverWord_54 : decode cX8_goOverWord 54 = .ok (.dup, 1) := by decide +kernel
theorem dX8_goOverWord_55 : decode cX8_goOverWord 55 = .ok (.getfield 19, 3) := by decide +kernel
theorem dX8_goOverWord_58 : decode cX8_goOverWord 58 = .ok (.iconst 1, 1) := by decide +kernel
theorem dX8_goOverWord_59 : decode cX8_goOverWord 59 = .ok (.iadd, 1) := by decide +kernel
theorem dX8_goOverWord_60 : decode cX8_goOverWord 60 = .ok (.putfield 19, 3) := by decide +kernel
theorem dX8_goOverWord_63 : decode cX8_goOverWord 63 = .ok (.goto (-58), 3) := by decide +kernel
theorem dX8_goOverWord_66 : decode cX8_goOverWord 66 = .ok (.aload_n 0, 1) := by decide +kernel
theorem dX8_goOverWord_67 : decode cX8_goOverWord 67 = .ok (.aload_n 0, 1) := by decide +kernel
theorem dX8_goOverWord_68 : decode cX8_goOverWord 68 = .ok (.getfield 19, 3) := by decide +kernel
theorem dX8_goOverWord_71 : decode cX8_goOverWord 71 = .ok (.aload_n 0, 1) := by decide +kernel
theorem dX8_goOverWord_72 : decode cX8_goOverWord 72 = .ok (.getfield 25, 3) := by decide +kernel
theorem dX8_goOverWord_75 : decode cX8_goOverWord 75 = .ok (.isub, 1) := by decide +kernel
theorem dX8_goOverWord_76 : decode cX8_goOverWord 76 = .ok (.bipush 8, 2) := by decide +kernel
theorem dX8_goOverWord_78 : decode cX8_goOverWord 78 = .ok (.if_icmp .le 7, 3) := by decide +kernel
theorem dX8_goOverWord_81 : decode cX8_goOverWord 81 = .ok (.iconst 3, 1) := by decide +kernel
theorem dX8_goOverWord_82 : decode cX8_goOverWord 82 = .ok (.goto 4, 3) := by decide +kernel
theorem dX8_goOverWord_85 : decode cX8_goOverWord 85 = .ok (.iconst 1, 1) := by decide +kernel
theorem dX8_goOverWord_86 : decode cX8_goOverWord 86 = .ok (.putfield 22, 3) := by decide +kernel
theorem dX8_goOverWord_89 : decode cX8_goOverWord 89 = .ok (.return_, 1) := by decide +kernel
theorem dX8_goOverNumber_0 : decode cX8_goOverNumber 0 = .ok (.aload_n 0, 1) := by decide +kernel
theorem dX8_goOverNumber_1 : decode cX8_goOverNumber 1 = .ok (.iconst 0, 1) := by decide +kernel
theorem dX8_goOverNumber_2 : decode cX8_goOverNumber 2 = .ok (.putfield 32, 3) := by decide +kernel
theorem dX8_goOverNumber_5 : decode cX8_goOverNumber 5 = .ok (.aload_n 0, 1) := by decide +kernel
theorem dX8_goOverNumber_6 : decode cX8_goOverNumber 6 = .ok (.getfield 19, 3) := by decide +kernel
theorem dX8_goOverNumber_9 : decode cX8_goOverNumber 9 = .ok (.aload_n 0, 1) := by decide +kernel
theorem dX8_goOverNumber_10 : decode cX8_goOverNumber 10 = .ok (.getfield 15, 3) := by decide +kernel
theorem dX8_goOverNumber_13 : decode cX8_goOverNumber 13 = .ok (.if_icmp .ge 55, 3) := by decide +kernel
theorem dX8_goOverNumber_16 : decode cX8_goOverNumber 16 = .ok (.aload_n 0, 1) := by decide +kernel
theorem dX8_goOverNumber_17 : decode cX8_goOverNumber 17 = .ok (.getfield 9, 3) := by decide +kernel
theorem dX8_goOverNumber_20 : decode cX8_goOverNumber 20 = .ok (.aload_n 0, 1) := by decide +kernel
theorem dX8_goOverNumber_21 : decode cX8_goOverNumber 21 = .ok (.getfield 19, 3) := by decide +kernel
theorem dX8_goOverNumber_24 : decode cX8_goOverNumber 24 = .ok (.iaload, 1) := by decide +kernel
theorem dX8_goOverNumber_25 : decode cX8_goOverNumber 25 = .ok (.invokestatic 48, 3) := by decide +kernel
theorem dX8_goOverNumber_28 : decode cX8_goOverNumber 28 = .ok (.ifCond .eq 40, 3) := by decide +kernel
theorem dX8_goOverNumber_31 : decode cX8_goOverNumber 31 = .ok (.aload_n 0, 1) := by decide +kernel
theorem dX8_goOverNumber_32 : decode cX8_goOverNumber 32 = .ok (.aload_n 0, 1) := by decide +kernel
theorem dX8_goOverNumber_33 : decode cX8_goOverNumber 33 = .ok (.getfield 32, 3) := by decide +kernel
theorem dX8_goOverNumber_36 : decode cX8_goOverNumber 36 = .ok (.bipush 10, 2) := by decide +kernel
theorem dX8_goOverNumber_38 : decode cX8_goOverNumber 38 = .ok (.imul, 1) := by decide +kernel
theorem dX8_goOverNumber_39 : decode cX8_goOverNumber 39 = .ok (.aload_n 0, 1) := by decide +kernel
theorem dX8_goOverNumber_40 : decode cX8_goOverNumber 40 = .ok (.getfield 9, 3) := by decide +kernel
theorem dX8_goOverNumber_43 : decode cX8_goOverNumber 43 = .ok (.aload_n 0, 1) := by decide +kernel
theorem dX8_goOverNumber_44 : decode cX8_goOverNumber 44 = .ok (.getfield 19, 3) := by decide +kernel
theorem dX8_goOverNumber_47 : decode cX8_goOverNumber 47 = .ok (.iaload, 1) := by decide +kernel
theorem dX8_goOverNumber_48 : decode cX8_goOverNumber 48 = .ok (.iadd, 1) := by decide +kernel
theorem dX8_goOverNumber_49 : decode cX8_goOverNumber 49 = .ok (.bipush 48, 2) := by decide +kernel
theorem dX8_goOverNumber_51 : decode cX8_goOverNumber 51 = .ok (.isub, 1) := by decide +kernel
theorem dX8_goOverNumber_52 : decode cX8_goOverNumber 52 = .ok (.putfield 32, 3) := by decide +kernel
theorem dX8_goOverNumber_55 : decode cX8_goOverNumber 55 = .ok (.aload_n 0, 1) := by decide +kernel
theorem dX8_goOverNumber_56 : decode cX8_goOverNumber 56 = .ok (.dup, 1) := by decide +kernel
theorem dX8_goOverNumber_57 : decode cX8_goOverNumber 57 = .ok (.getfield 19, 3) := by decide +kernel
theorem dX8_goOverNumber_60 : decode cX8_goOverNumber 60 = .ok (.iconst 1, 1) := by decide +kernel
theorem dX8_goOverNumber_61 : decode cX8_goOverNumber 61 = .ok (.iadd, 1) := by decide +kernel
theorem dX8_goOverNumber_62 : decode cX8_goOverNumber 62 = .ok (.putfield 19, 3) := by decide +kernel
theorem dX8_goOverNumber_65 : decode cX8_goOverNumber 65 = .ok (.goto (-60), 3) := by decide +kernel
theorem dX8_goOverNumber_68 : decode cX8_goOverNumber 68 = .ok (.aload_n 0, 1) := by decide +kernel
theorem dX8_goOverNumber_69 : decode cX8_goOverNumber 69 = .ok (.aload_n 0, 1) := by decide +kernel
theorem dX8_goOverNumber_70 : decode cX8_goOverNumber 70 = .ok (.getfield 19, 3) := by decide +kernel
theorem dX8_goOverNumber_73 : decode cX8_goOverNumber 73 = .ok (.aload_n 0, 1) := by decide +kernel
theorem dX8_goOverNumber_74 : decode cX8_goOverNumber 74 = .ok (.getfield 25, 3) := by decide +kernel
theorem dX8_goOverNumber_77 : decode cX8_goOverNumber 77 = .ok (.isub, 1) := by decide +kernel
theorem dX8_goOverNumber_78 : decode cX8_goOverNumber 78 = .ok (.iconst 2, 1) := by decide +kernel
theorem dX8_goOverNumber_79 : decode cX8_goOverNumber 79 = .ok (.if_icmp .le 7, 3) := by decide +kernel
theorem dX8_goOverNumber_82 : decode cX8_goOverNumber 82 = .ok (.iconst 3, 1) := by decide +kernel
theorem dX8_goOverNumber_83 : decode cX8_goOverNumber 83 = .ok (.goto 4, 3) := by decide +kernel
theorem dX8_goOverNumber_86 : decode cX8_goOverNumber 86 = .ok (.iconst 2, 1) := by decide +kernel
theorem dX8_goOverNumber_87 : decode cX8_goOverNumber 87 = .ok (.putfield 22, 3) := by decide +kernel
theorem dX8_goOverNumber_90 : decode cX8_goOverNumber 90 = .ok (.return_, 1) := by decide +kernel
theorem dX8_says_0 : decode cX8_says 0 = .ok (.aload_n 0, 1) := by decide +kernel
theorem dX8_says_1 : decode cX8_says 1 = .ok (.getfield 22, 3) := by decide +kernel
theorem dX8_says_4 : decode cX8_says 4 = .ok (.iconst 1, 1) := by decide +kernel
theorem dX8_says_5 : decode cX8_says 5 = .ok (.if_icmp .ne 19, 3) := by decide +kernel
theorem dX8_says_8 : decode cX8_says 8 = .ok (.aload_n 0, 1) := by decide +kernel
theorem dX8_says_9 : decode cX8_says 9 = .ok (.getfield 19, 3) := by decide +kernel
theorem dX8_says_12 : decode cX8_says 12 = .ok (.aload_n 0, 1) := by decide +kernel
theorem dX8_says_13 : decode cX8_says 13 = .ok (.getfield 25, 3) := by decide +kernel
theorem dX8_says_16 : decode cX8_says 16 = .ok (.isub, 1) := by decide +kernel
theorem dX8_says_17 : decode cX8_says 17 = .ok (.aload_n 1, 1) := by decide +kernel
theorem dX8_says_18 : decode cX8_says 18 = .ok (.invokevirtual 57, 3) := by decide +kernel
theorem dX8_says_21 : decode cX8_says 21 = .ok (.if_icmp .eq 5, 3) := by decide +kernel
theorem dX8_says_24 : decode cX8_says 24 = .ok (.iconst 0, 1) := by decide +kernel
theorem dX8_says_25 : decode cX8_says 25 = .ok (.ireturn, 1) := by decide +kernel
theorem dX8_says_26 : decode cX8_says 26 = .ok (.iconst 0, 1) := by decide +kernel
theorem dX8_says_27 : decode cX8_says 27 = .ok (.istore_n 2, 1) := by decide +kernel
theorem dX8_says_28 : decode cX8_says 28 = .ok (.iload_n 2, 1) := by decide +kernel
theorem dX8_says_29 : decode cX8_says 29 = .ok (.aload_n 1, 1) := by decide +kernel
theorem dX8_says_30 : decode cX8_says 30 = .ok (.invokevirtual 57, 3) := by decide +kernel
theorem dX8_says_33 : decode cX8_says 33 = .ok (.if_icmp .ge 30, 3) := by decide +kernel
theorem dX8_says_36 : decode cX8_says 36 = .ok (.aload_n 0, 1) := by decide +kernel
theorem dX8_says_37 : decode cX8_says 37 = .ok (.getfield 9, 3) := by decide +kernel
theorem dX8_says_40 : decode cX8_says 40 = .ok (.aload_n 0, 1) := by decide +kernel
theorem dX8_says_41 : decode cX8_says 41 = .ok (.getfield 25, 3) := by decide +kernel
theorem dX8_says_44 : decode cX8_says 44 = .ok (.iload_n 2, 1) := by decide +kernel
theorem dX8_says_45 : decode cX8_says 45 = .ok (.iadd, 1) := by decide +kernel
theorem dX8_says_46 : decode cX8_says 46 = .ok (.iaload, 1) := by decide +kernel
theorem dX8_says_47 : decode cX8_says 47 = .ok (.aload_n 1, 1) := by decide +kernel
theorem dX8_says_48 : decode cX8_says 48 = .ok (.iload_n 2, 1) := by decide +kernel
theorem dX8_says_49 : decode cX8_says 49 = .ok (.invokevirtual 62, 3) := by decide +kernel
theorem dX8_says_52 : decode cX8_says 52 = .ok (.if_icmp .eq 5, 3) := by decide +kernel
theorem dX8_says_55 : decode cX8_says 55 = .ok (.iconst 0, 1) := by decide +kernel
theorem dX8_says_56 : decode cX8_says 56 = .ok (.ireturn, 1) := by decide +kernel
theorem dX8_says_57 : decode cX8_says 57 = .ok (.iinc 2 1, 3) := by decide +kernel
theorem dX8_says_60 : decode cX8_says 60 = .ok (.goto (-32), 3) := by decide +kernel
theorem dX8_says_63 : decode cX8_says 63 = .ok (.iconst 1, 1) := by decide +kernel
theorem dX8_says_64 : decode cX8_says 64 = .ok (.ireturn, 1) := by decide +kernel
theorem dX8_isLetter_0 : decode cX8_isLetter 0 = .ok (.iload_n 0, 1) := by decide +kernel
theorem dX8_isLetter_1 : decode cX8_isLetter 1 = .ok (.bipush 97, 2) := by decide +kernel
theorem dX8_isLetter_3 : decode cX8_isLetter 3 = .ok (.if_icmp .lt 13, 3) := by decide +kernel
theorem dX8_isLetter_6 : decode cX8_isLetter 6 = .ok (.iload_n 0, 1) := by decide +kernel
theorem dX8_isLetter_7 : decode cX8_isLetter 7 = .ok (.bipush 122, 2) := by decide +kernel
theorem dX8_isLetter_9 : decode cX8_isLetter 9 = .ok (.if_icmp .gt 7, 3) := by decide +kernel
theorem dX8_isLetter_12 : decode cX8_isLetter 12 = .ok (.iconst 1, 1) := by decide +kernel
theorem dX8_isLetter_13 : decode cX8_isLetter 13 = .ok (.goto 4, 3) := by decide +kernel
theorem dX8_isLetter_16 : decode cX8_isLetter 16 = .ok (.iconst 0, 1) := by decide +kernel
theorem dX8_isLetter_17 : decode cX8_isLetter 17 = .ok (.ireturn, 1) := by decide +kernel
theorem dX8_isDigit_0 : decode cX8_isDigit 0 = .ok (.iload_n 0, 1) := by decide +kernel
theorem dX8_isDigit_1 : decode cX8_isDigit 1 = .ok (.bipush 48, 2) := by decide +kernel
theorem dX8_isDigit_3 : decode cX8_isDigit 3 = .ok (.if_icmp .lt 13, 3) := by decide +kernel
theorem dX8_isDigit_6 : decode cX8_isDigit 6 = .ok (.iload_n 0, 1) := by decide +kernel
theorem dX8_isDigit_7 : decode cX8_isDigit 7 = .ok (.bipush 57, 2) := by decide +kernel
theorem dX8_isDigit_9 : decode cX8_isDigit 9 = .ok (.if_icmp .gt 7, 3) := by decide +kernel
theorem dX8_isDigit_12 : decode cX8_isDigit 12 = .ok (.iconst 1, 1) := by decide +kernel
theorem dX8_isDigit_13 : decode cX8_isDigit 13 = .ok (.goto 4, 3) := by decide +kernel
theorem dX8_isDigit_16 : decode cX8_isDigit 16 = .ok (.iconst 0, 1) := by decide +kernel
theorem dX8_isDigit_17 : decode cX8_isDigit 17 = .ok (.ireturn, 1) := by decide +kernel
theorem dX8_isSign_0 : decode cX8_isSign 0 = .ok (.iload_n 0, 1) := by decide +kernel
theorem dX8_isSign_1 : decode cX8_isSign 1 = .ok (.bipush 123, 2) := by decide +kernel
theorem dX8_isSign_3 : decode cX8_isSign 3 = .ok (.if_icmp .eq 28, 3) := by decide +kernel
theorem dX8_isSign_6 : decode cX8_isSign 6 = .ok (.iload_n 0, 1) := by decide +kernel
theorem dX8_isSign_7 : decode cX8_isSign 7 = .ok (.bipush 125, 2) := by decide +kernel
theorem dX8_isSign_9 : decode cX8_isSign 9 = .ok (.if_icmp .eq 22, 3) := by decide +kernel
theorem dX8_isSign_12 : decode cX8_isSign 12 = .ok (.iload_n 0, 1) := by decide +kernel
theorem dX8_isSign_13 : decode cX8_isSign 13 = .ok (.bipush 59, 2) := by decide +kernel
theorem dX8_isSign_15 : decode cX8_isSign 15 = .ok (.if_icmp .eq 16, 3) := by decide +kernel
theorem dX8_isSign_18 : decode cX8_isSign 18 = .ok (.iload_n 0, 1) := by decide +kernel
theorem dX8_isSign_19 : decode cX8_isSign 19 = .ok (.bipush 44, 2) := by decide +kernel
theorem dX8_isSign_21 : decode cX8_isSign 21 = .ok (.if_icmp .eq 10, 3) := by decide +kernel
theorem dX8_isSign_24 : decode cX8_isSign 24 = .ok (.iload_n 0, 1) := by decide +kernel
theorem dX8_isSign_25 : decode cX8_isSign 25 = .ok (.invokestatic 66, 3) := by decide +kernel
theorem dX8_isSign_28 : decode cX8_isSign 28 = .ok (.ifCond .eq 7, 3) := by decide +kernel
theorem dX8_isSign_31 : decode cX8_isSign 31 = .ok (.iconst 1, 1) := by decide +kernel
theorem dX8_isSign_32 : decode cX8_isSign 32 = .ok (.goto 4, 3) := by decide +kernel
theorem dX8_isSign_35 : decode cX8_isSign 35 = .ok (.iconst 0, 1) := by decide +kernel
theorem dX8_isSign_36 : decode cX8_isSign 36 = .ok (.ireturn, 1) := by decide +kernel
theorem dX8_isComparison_0 : decode cX8_isComparison 0 = .ok (.iload_n 0, 1) := by decide +kernel
theorem dX8_isComparison_1 : decode cX8_isComparison 1 = .ok (.bipush 61, 2) := by decide +kernel
theorem dX8_isComparison_3 : decode cX8_isComparison 3 = .ok (.if_icmp .eq 15, 3) := by decide +kernel
theorem dX8_isComparison_6 : decode cX8_isComparison 6 = .ok (.iload_n 0, 1) := by decide +kernel
theorem dX8_isComparison_7 : decode cX8_isComparison 7 = .ok (.bipush 60, 2) := by decide +kernel
theorem dX8_isComparison_9 : decode cX8_isComparison 9 = .ok (.if_icmp .eq 9, 3) := by decide +kernel
theorem dX8_isComparison_12 : decode cX8_isComparison 12 = .ok (.iload_n 0, 1) := by decide +kernel
theorem dX8_isComparison_13 : decode cX8_isComparison 13 = .ok (.bipush 62, 2) := by decide +kernel
theorem dX8_isComparison_15 : decode cX8_isComparison 15 = .ok (.if_icmp .ne 7, 3) := by decide +kernel
theorem dX8_isComparison_18 : decode cX8_isComparison 18 = .ok (.iconst 1, 1) := by decide +kernel
theorem dX8_isComparison_19 : decode cX8_isComparison 19 = .ok (.goto 4, 3) := by decide +kernel
theorem dX8_isComparison_22 : decode cX8_isComparison 22 = .ok (.iconst 0, 1) := by decide +kernel
theorem dX8_isComparison_23 : decode cX8_isComparison 23 = .ok (.ireturn, 1) := by decide +kernel
theorem dX9_init_0 : decode cX9_init 0 = .ok (.aload_n 0, 1) := by decide +kernel
theorem dX9_init_1 : decode cX9_init 1 = .ok (.invokespecial 1, 3) := by decide +kernel
theorem dX9_init_4 : decode cX9_init 4 = .ok (.aload_n 0, 1) := by decide +kernel
theorem dX9_init_5 : decode cX9_init 5 = .ok (.sipush 800, 3) := by decide +kernel
theorem dX9_init_8 : decode cX9_init 8 = .ok (.newarray .int, 2) := by decide +kernel
theorem dX9_init_10 : decode cX9_init 10 = .ok (.putfield 9, 3) := by decide +kernel
theorem dX9_init_13 : decode cX9_init 13 = .ok (.aload_n 0, 1) := by decide +kernel
theorem dX9_init_14 : decode cX9_init 14 = .ok (.iconst 0, 1) := by decide +kernel
theorem dX9_init_15 : decode cX9_init 15 = .ok (.putfield 13, 3) := by decide +kernel
theorem dX9_init_18 : decode cX9_init 18 = .ok (.aload_n 0, 1) := by decide +kernel
theorem dX9_init_19 : decode cX9_init 19 = .ok (.iconst 2, 1) := by decide +kernel
theorem dX9_init_20 : decode cX9_init 20 = .ok (.anewarray 17, 3) := by decide +kernel
theorem dX9_init_23 : decode cX9_init 23 = .ok (.dup, 1) := by decide +kernel
theorem dX9_init_24 : decode cX9_init 24 = .ok (.iconst 0, 1) := by decide +kernel
theorem dX9_init_25 : decode cX9_init 25 = .ok (.new 17, 3) := by decide +kernel
theorem dX9_init_28 : decode cX9_init 28 = .ok (.dup, 1) := by decide +kernel
theorem dX9_init_29 : decode cX9_init 29 = .ok (.invokespecial 19, 3) := by decide +kernel
theorem dX9_init_32 : decode cX9_init 32 = .ok (.aastore, 1) := by decide +kernel
theorem dX9_init_33 : decode cX9_init 33 = .ok (.dup, 1) := by decide +kernel
theorem dX9_init_34 : decode cX9_init 34 = .ok (.iconst 1, 1) := by decide +kernel
theorem dX9_init_35 : decode cX9_init 35 = .ok (.new 17, 3) := by decide +kernel
theorem dX9_init_38 : decode cX9_init 38 = .ok (.dup, 1) := by decide +kernel
theorem dX9_init_39 : decode cX9_init 39 = .ok (.invokespecial 19, 3) := by decide +kernel
theorem dX9_init_42 : decode cX9_init 42 = .ok (.aastore, 1) := by decide +kernel
theorem dX9_init_43 : decode cX9_init 43 = .ok (.putfield 20, 3) := by decide +kernel
theorem dX9_init_46 : decode cX9_init 46 = .ok (.aload_n 0, 1) := by decide +kernel
theorem dX9_init_47 : decode cX9_init 47 = .ok (.new 17, 3) := by decide +kernel
theorem dX9_init_50 : decode cX9_init 50 = .ok (.dup, 1) := by decide +kernel
theorem dX9_init_51 : decode cX9_init 51 = .ok (.invokespecial 19, 3) := by decide +kernel
theorem dX9_init_54 : decode cX9_init 54 = .ok (.putfield 24, 3) := by decide +kernel
theorem dX9_init_57 : decode cX9_init 57 = .ok (.aload_n 0, 1) := by decide +kernel
theorem dX9_init_58 : decode cX9_init 58 = .ok (.new 28, 3) := by decide +kernel
theorem dX9_init_61 : decode cX9_init 61 = .ok (.dup, 1) := by decide +kernel
theorem dX9_init_62 : decode cX9_init 62 = .ok (.aload_n 0, 1) := by decide +kernel
theorem dX9_init_63 : decode cX9_init 63 = .ok (.getfield 24, 3) := by decide +kernel
theorem dX9_init_66 : decode cX9_init 66 = .ok (.invokespecial 30, 3) := by decide +kernel
theorem dX9_init_69 : decode cX9_init 69 = .ok (.putfield 33, 3) := by decide +kernel
theorem dX9_init_72 : decode cX9_init 72 = .ok (.aload_n 0, 1) := by decide +kernel
theorem dX9_init_73 : decode cX9_init 73 = .ok (.iconst 2, 1) := by decide +kernel
theorem dX9_init_74 : decode cX9_init 74 = .ok (.newarray .long, 2) := by decide +kernel
theorem dX9_init_76 : decode cX9_init 76 = .ok (.putfield 37, 3) := by decide +kernel
theorem dX9_init_79 : decode cX9_init 79 = .ok (.aload_n 0, 1) := by decide +kernel
theorem dX9_init_80 : decode cX9_init 80 = .ok (.new 41, 3) := by decide +kernel
theorem dX9_init_83 : decode cX9_init 83 = .ok (.dup, 1) := by decide +kernel
theorem dX9_init_84 : decode cX9_init 84 = .ok (.aload_n 0, 1) := by decide +kernel
theorem dX9_init_85 : decode cX9_init 85 = .ok (.getfield 24, 3) := by decide +kernel
theorem dX9_init_88 : decode cX9_init 88 = .ok (.invokespecial 43, 3) := by decide +kernel
theorem dX9_init_91 : decode cX9_init 91 = .ok (.putfield 44, 3) := by decide +kernel
theorem dX9_init_94 : decode cX9_init 94 = .ok (.aload_n 0, 1) := by decide +kernel
theorem dX9_init_95 : decode cX9_init 95 = .ok (.new 48, 3) := by decide +kernel
theorem dX9_init_98 : decode cX9_init 98 = .ok (.dup, 1) := by decide +kernel
theorem dX9_init_99 : decode cX9_init 99 = .ok (.aload_n 0, 1) := by decide +kernel
theorem dX9_init_100 : decode cX9_init 100 = .ok (.getfield 24, 3) := by decide +kernel
theorem dX9_init_103 : decode cX9_init 103 = .ok (.aload_n 0, 1) := by decide +kernel
theorem dX9_init_104 : decode cX9_init 104 = .ok (.getfield 24, 3) := by decide +kernel
theorem dX9_init_107 : decode cX9_init 107 = .ok (.invokespecial 50, 3) := by decide +kernel
theorem dX9_init_110 : decode cX9_init 110 = .ok (.putfield 53, 3) := by decide +kernel
theorem dX9_init_113 : decode cX9_init 113 = .ok (.aload_n 0, 1) := by decide +kernel
theorem dX9_init_114 : decode cX9_init 114 = .ok (.sipush 400, 3) := by decide +kernel
theorem dX9_init_117 : decode cX9_init 117 = .ok (.newarray .int, 2) := by decide +kernel
theorem dX9_init_119 : decode cX9_init 119 = .ok (.putfield 57, 3) := by decide +kernel
theorem dX9_init_122 : decode cX9_init 122 = .ok (.aload_n 0, 1) := by decide +kernel
theorem dX9_init_123 : decode cX9_init 123 = .ok (.iconst 0, 1) := by decide +kernel
theorem dX9_init_124 : decode cX9_init 124 = .ok (.putfield 60, 3) := by decide +kernel
theorem dX9_init_127 : decode cX9_init 127 = .ok (.aload_n 0, 1) := by decide +kernel
theorem dX9_init_128 : decode cX9_init 128 = .ok (.sipush 401, 3) := by decide +kernel
theorem dX9_init_131 : decode cX9_init 131 = .ok (.newarray .long, 2) := by decide +kernel
theorem dX9_init_133 : decode cX9_init 133 = .ok (.putfield 63, 3) := by decide +kernel
theorem dX9_init_136 : decode cX9_init 136 = .ok (.aload_n 0, 1) := by decide +kernel
theorem dX9_init_137 : decode cX9_init 137 = .ok (.iconst (-1), 1) := by decide +kernel
theorem dX9_init_138 : decode cX9_init 138 = .ok (.putfield 66, 3) := by decide +kernel
theorem dX9_init_141 : decode cX9_init 141 = .ok (.aload_n 0, 1) := by decide +kernel
theorem dX9_init_142 : decode cX9_init 142 = .ok (.iconst 0, 1) := by decide +kernel
theorem dX9_init_143 : decode cX9_init 143 = .ok (.putfield 69, 3) := by decide +kernel
theorem dX9_init_146 : decode cX9_init 146 = .ok (.return_, 1) := by decide +kernel
theorem dX9_feed_0 : decode cX9_feed 0 = .ok (.aload_n 0, 1) := by decide +kernel
theorem dX9_feed_1 : decode cX9_feed 1 = .ok (.getfield 13, 3) := by decide +kernel
theorem dX9_feed_4 : decode cX9_feed 4 = .ok (.bipush 20, 2) := by decide +kernel
theorem dX9_feed_6 : decode cX9_feed 6 = .ok (.iadd, 1) := by decide +kernel
theorem dX9_feed_7 : decode cX9_feed 7 = .ok (.sipush 800, 3) := by decide +kernel
theorem dX9_feed_10 : decode cX9_feed 10 = .ok (.if_icmp .le 5, 3) := by decide +kernel
theorem dX9_feed_13 : decode cX9_feed 13 = .ok (.iconst (-1), 1) := by decide +kernel
theorem dX9_feed_14 : decode cX9_feed 14 = .ok (.ireturn, 1) := by decide +kernel
theorem dX9_feed_15 : decode cX9_feed 15 = .ok (.aload_n 0, 1) := by decide +kernel
theorem dX9_feed_16 : decode cX9_feed 16 = .ok (.iload_n 1, 1) := by decide +kernel
theorem dX9_feed_17 : decode cX9_feed 17 = .ok (.invokevirtual 72, 3) := by decide +kernel
theorem dX9_feed_20 : decode cX9_feed 20 = .ok (.aload_n 0, 1) := by decide +kernel
theorem dX9_feed_21 : decode cX9_feed 21 = .ok (.iload_n 2, 1) := by decide +kernel
theorem dX9_feed_22 : decode cX9_feed 22 = .ok (.invokevirtual 72, 3) := by decide +kernel
theorem dX9_feed_25 : decode cX9_feed 25 = .ok (.aload_n 0, 1) := by decide +kernel
theorem dX9_feed_26 : decode cX9_feed 26 = .ok (.iload_n 3, 1) := by decide +kernel
theorem dX9_feed_27 : decode cX9_feed 27 = .ok (.invokevirtual 72, 3) := by decide +kernel
theorem dX9_feed_30 : decode cX9_feed 30 = .ok (.aload_n 0, 1) := by decide +kernel
theorem dX9_feed_31 : decode cX9_feed 31 = .ok (.iload 4, 2) := by decide +kernel
theorem dX9_feed_33 : decode cX9_feed 33 = .ok (.invokevirtual 72, 3) := by decide +kernel
theorem dX9_feed_36 : decode cX9_feed 36 = .ok (.aload_n 0, 1) := by decide +kernel
theorem dX9_feed_37 : decode cX9_feed 37 = .ok (.iload 5, 2) := by decide +kernel
theorem dX9_feed_39 : decode cX9_feed 39 = .ok (.invokevirtual 72, 3) := by decide +kernel
theorem dX9_feed_42 : decode cX9_feed 42 = .ok (.aload_n 0, 1) := by decide +kernel
theorem dX9_feed_43 : decode cX9_feed 43 = .ok (.getfield 13, 3) := by decide +kernel
theorem dX9_feed_46 : decode cX9_feed 46 = .ok (.ireturn, 1) := by decide +kernel
theorem dX9_app_0 : decode cX9_app 0 = .ok (.iload_n 1, 1) := by decide +kernel
theorem dX9_app_1 : decode cX9_app 1 = .ok (.ifCond .lt 8, 3) := by decide +kernel
theorem dX9_app_4 : decode cX9_app 4 = .ok (.iload_n 1, 1) := by decide +kernel
theorem dX9_app_5 : decode cX9_app 5 = .ok (.iconst 2, 1) := by decide +kernel
theorem dX9_app_6 : decode cX9_app 6 = .ok (.if_icmp .lt 9, 3) := by decide +kernel
theorem dX9_app_9 : decode cX9_app 9 = .ok (.aload_n 0, 1) := by decide +kernel
theorem dX9_app_10 : decode cX9_app 10 = .ok (.iconst 1, 1) := by decide +kernel
theorem dX9_app_11 : decode cX9_app 11 = .ok (.invokevirtual 76, 3) := by decide +kernel
theorem dX9_app_14 : decode cX9_app 14 = .ok (.ireturn, 1) := by decide +kernel
theorem dX9_app_15 : decode cX9_app 15 = .ok (.iload_n 2, 1) := by decide +kernel
theorem dX9_app_16 : decode cX9_app 16 = .ok (.ifCond .lt 11, 3) := by decide +kernel
theorem dX9_app_19 : decode cX9_app 19 = .ok (.iload_n 2, 1) := by decide +kernel
theorem dX9_app_20 : decode cX9_app 20 = .ok (.aload_n 0, 1) := by decide +kernel
theorem dX9_app_21 : decode cX9_app 21 = .ok (.getfield 13, 3) := by decide +kernel
theorem dX9_app_24 : decode cX9_app 24 = .ok (.if_icmp .le 9, 3) := by decide +kernel
theorem dX9_app_27 : decode cX9_app 27 = .ok (.aload_n 0, 1) := by decide +kernel
theorem dX9_app_28 : decode cX9_app 28 = .ok (.iconst 2, 1) := by decide +kernel
theorem dX9_app_29 : decode cX9_app 29 = .ok (.invokevirtual 76, 3) := by decide +kernel
theorem dX9_app_32 : decode cX9_app 32 = .ok (.ireturn, 1) := by decide +kernel
theorem dX9_app_33 : decode cX9_app 33 = .ok (.aload_n 0, 1) := by decide +kernel
theorem dX9_app_34 : decode cX9_app 34 = .ok (.iconst 0, 1) := by decide +kernel
theorem dX9_app_35 : decode cX9_app 35 = .ok (.putfield 13, 3) := by decide +kernel
theorem dX9_app_38 : decode cX9_app 38 = .ok (.aload_n 0, 1) := by decide +kernel
theorem dX9_app_39 : decode cX9_app 39 = .ok (.getfield 33, 3) := by decide +kernel
theorem dX9_app_42 : decode cX9_app 42 = .ok (.aload_n 0, 1) := by decide +kernel
theorem dX9_app_43 : decode cX9_app 43 = .ok (.getfield 9, 3) := by decide +kernel
theorem dX9_app_46 : decode cX9_app 46 = .ok (.iload_n 2, 1) := by decide +kernel
theorem dX9_app_47 : decode cX9_app 47 = .ok (.aload_n 0, 1) := by decide +kernel
theorem dX9_app_48 : decode cX9_app 48 = .ok (.getfield 24, 3) := by decide +kernel
theorem dX9_app_51 : decode cX9_app 51 = .ok (.invokevirtual 80, 3) := by decide +kernel
theorem dX9_app_54 : decode cX9_app 54 = .ok (.ifCond .ne 9, 3) := by decide +kernel
theorem dX9_app_57 : decode cX9_app 57 = .ok (.aload_n 0, 1) := by decide +kernel
theorem dX9_app_58 : decode cX9_app 58 = .ok (.iconst 3, 1) := by decide +kernel
theorem dX9_app_59 : decode cX9_app 59 = .ok (.invokevirtual 76, 3) := by decide +kernel
theorem dX9_app_62 : decode cX9_app 62 = .ok (.ireturn, 1) := by decide +kernel
theorem dX9_app_63 : decode cX9_app 63 = .ok (.aload_n 0, 1) := by decide +kernel
theorem dX9_app_64 : decode cX9_app 64 = .ok (.getfield 20, 3) := by decide +kernel
theorem dX9_app_67 : decode cX9_app 67 = .ok (.iload_n 1, 1) := by decide +kernel
theorem dX9_app_68 : decode cX9_app 68 = .ok (.aaload, 1) := by decide +kernel
theorem dX9_app_69 : decode cX9_app 69 = .ok (.astore_n 3, 1) := by decide +kernel
theorem dX9_app_70 : decode cX9_app 70 = .ok (.aload_n 0, 1) := by decide +kernel
theorem dX9_app_71 : decode cX9_app 71 = .ok (.getfield 20, 3) := by decide +kernel
theorem dX9_app_74 : decode cX9_app 74 = .ok (.iload_n 1, 1) := by decide +kernel
theorem dX9_app_75 : decode cX9_app 75 = .ok (.aload_n 0, 1) := by decide +kernel
theorem dX9_app_76 : decode cX9_app 76 = .ok (.getfield 24, 3) := by decide +kernel
theorem dX9_app_79 : decode cX9_app 79 = .ok (.aastore, 1) := by decide +kernel
theorem dX9_app_80 : decode cX9_app 80 = .ok (.aload_n 0, 1) := by decide +kernel
theorem dX9_app_81 : decode cX9_app 81 = .ok (.aload_n 3, 1) := by decide +kernel
theorem dX9_app_82 : decode cX9_app 82 = .ok (.putfield 24, 3) := by decide +kernel
theorem dX9_app_85 : decode cX9_app 85 = .ok (.aload_n 0, 1) := by decide +kernel
theorem dX9_app_86 : decode cX9_app 86 = .ok (.getfield 37, 3) := by decide +kernel
theorem dX9_app_89 : decode cX9_app 89 = .ok (.iload_n 1, 1) := by decide +kernel
theorem dX9_app_90 : decode cX9_app 90 = .ok (.aload_n 0, 1) := by decide +kernel
theorem dX9_app_91 : decode cX9_app 91 = .ok (.getfield 20, 3) := by decide +kernel
theorem dX9_app_94 : decode cX9_app 94 = .ok (.iload_n 1, 1) := by decide +kernel
theorem dX9_app_95 : decode cX9_app 95 = .ok (.aaload, 1) := by decide +kernel
theorem dX9_app_96 : decode cX9_app 96 = .ok (.invokevirtual 84, 3) := by decide +kernel
theorem dX9_app_99 : decode cX9_app 99 = .ok (.lastore, 1) := by decide +kernel
theorem dX9_app_100 : decode cX9_app 100 = .ok (.aload_n 0, 1) := by decide +kernel
theorem dX9_app_101 : decode cX9_app 101 = .ok (.getfield 44, 3) := by decide +kernel
theorem dX9_app_104 : decode cX9_app 104 = .ok (.getfield 88, 3) := by decide +kernel
theorem dX9_app_107 : decode cX9_app 107 = .ok (.iload_n 1, 1) := by decide +kernel
theorem dX9_app_108 : decode cX9_app 108 = .ok (.if_icmp .ne 10, 3) := by decide +kernel
theorem dX9_app_111 : decode cX9_app 111 = .ok (.aload_n 0, 1) := by decide +kernel
theorem dX9_app_112 : decode cX9_app 112 = .ok (.getfield 44, 3) := by decide +kernel
theorem dX9_app_115 : decode cX9_app 115 = .ok (.invokevirtual 91, 3) := by decide +kernel
theorem dX9_app_118 : decode cX9_app 118 = .ok (.aload_n 0, 1) := by decide +kernel
theorem dX9_app_119 : decode cX9_app 119 = .ok (.aload_n 0, 1) := by decide +kernel
theorem dX9_app_120 : decode cX9_app 120 = .ok (.getfield 20, 3) := by decide +kernel
theorem dX9_app_123 : decode cX9_app 123 = .ok (.iload_n 1, 1) := by decide +kernel
theorem dX9_app_124 : decode cX9_app 124 = .ok (.aaload, 1) := by decide +kernel
theorem dX9_app_125 : decode cX9_app 125 = .ok (.getfield 94, 3) := by decide +kernel
theorem dX9_app_128 : decode cX9_app 128 = .ok (.invokevirtual 97, 3) := by decide +kernel
theorem dX9_app_131 : decode cX9_app 131 = .ok (.ireturn, 1) := by decide +kernel
theorem dX9_fault_0 : decode cX9_fault 0 = .ok (.aload_n 0, 1) := by decide +kernel
theorem dX9_fault_1 : decode cX9_fault 1 = .ok (.getfield 33, 3) := by decide +kernel
theorem dX9_fault_4 : decode cX9_fault 4 = .ok (.getfield 100, 3) := by decide +kernel
theorem dX9_fault_7 : decode cX9_fault 7 = .ok (.ireturn, 1) := by decide +kernel
theorem dX9_where_0 : decode cX9_where 0 = .ok (.aload_n 0, 1) := by decide +kernel
theorem dX9_where_1 : decode cX9_where 1 = .ok (.getfield 69, 3) := by decide +kernel
theorem dX9_where_4 : decode cX9_where 4 = .ok (.iconst 3, 1) := by decide +kernel
theorem dX9_where_5 : decode cX9_where 5 = .ok (.if_icmp .ne 13, 3) := by decide +kernel
theorem dX9_where_8 : decode cX9_where 8 = .ok (.aload_n 0, 1) := by decide +kernel
theorem dX9_where_9 : decode cX9_where 9 = .ok (.getfield 33, 3) := by decide +kernel
theorem dX9_where_12 : decode cX9_where 12 = .ok (.getfield 103, 3) := by decide +kernel
theorem dX9_where_15 : decode cX9_where 15 = .ok (.goto 4, 3) := by decide +kernel
theorem dX9_where_18 : decode cX9_where 18 = .ok (.iconst (-1), 1) := by decide +kernel
theorem dX9_where_19 : decode cX9_where 19 = .ok (.ireturn, 1) := by decide +kernel
theorem dX9_about_0 : decode cX9_about 0 = .ok (.aload_n 0, 1) := by decide +kernel
theorem dX9_about_1 : decode cX9_about 1 = .ok (.iload_n 1, 1) := by decide +kernel
theorem dX9_about_2 : decode cX9_about 2 = .ok (.invokevirtual 106, 3) := by decide +kernel
theorem dX9_about_5 : decode cX9_about 5 = .ok (.ifCond .ne 5, 3) := by decide +kernel
theorem dX9_about_8 : decode cX9_about 8 = .ok (.iconst (-1), 1) := by decide +kernel
theorem dX9_about_9 : decode cX9_about 9 = .ok (.ireturn, 1) := by decide +kernel
theorem dX9_about_10 : decode cX9_about 10 = .ok (.aload_n 0, 1) := by decide +kernel
theorem dX9_about_11 : decode cX9_about 11 = .ok (.getfield 20, 3) := by decide +kernel
theorem dX9_about_14 : decode cX9_about 14 = .ok (.iload_n 1, 1) := by decide +kernel
theorem dX9_about_15 : decode cX9_about 15 = .ok (.aaload, 1) := by decide +kernel
theorem dX9_about_16 : decode cX9_about 16 = .ok (.astore_n 3, 1) := by decide +kernel
theorem dX9_about_17 : decode cX9_about 17 = .ok (.iload_n 2, 1) := by decide +kernel
theorem dX9_about_18 : decode cX9_about 18 = .ok (.tableswitch 68 0 5 #[38, 43, 48, 53, 58, 63], 38) := by decide +kernel
theorem dX9_about_56 : decode cX9_about 56 = .ok (.aload_n 3, 1) := by decide +kernel
theorem dX9_about_57 : decode cX9_about 57 = .ok (.getfield 94, 3) := by decide +kernel
theorem dX9_about_60 : decode cX9_about 60 = .ok (.ireturn, 1) := by decide +kernel
theorem dX9_about_61 : decode cX9_about 61 = .ok (.aload_n 3, 1) := by decide +kernel
theorem dX9_about_62 : decode cX9_about 62 = .ok (.getfield 110, 3) := by decide +kernel
theorem dX9_about_65 : decode cX9_about 65 = .ok (.ireturn, 1) := by decide +kernel
theorem dX9_about_66 : decode cX9_about 66 = .ok (.aload_n 3, 1) := by decide +kernel
theorem dX9_about_67 : decode cX9_about 67 = .ok (.getfield 113, 3) := by decide +kernel
theorem dX9_about_70 : decode cX9_about 70 = .ok (.ireturn, 1) := by decide +kernel
theorem dX9_about_71 : decode cX9_about 71 = .ok (.aload_n 3, 1) := by decide +kernel
theorem dX9_about_72 : decode cX9_about 72 = .ok (.getfield 116, 3) := by decide +kernel
theorem dX9_about_75 : decode cX9_about 75 = .ok (.ireturn, 1) := by decide +kernel
theorem dX9_about_76 : decode cX9_about 76 = .ok (.aload_n 3, 1) := by decide +kernel
theorem dX9_about_77 : decode cX9_about 77 = .ok (.getfield 119, 3) := by decide +kernel
theorem dX9_about_80 : decode cX9_about 80 = .ok (.ireturn, 1) := by decide +kernel
theorem dX9_about_81 : decode cX9_about 81 = .ok (.aload_n 3, 1) := by decide +kernel
theorem dX9_about_82 : decode cX9_about 82 = .ok (.getfield 122, 3) := by decide +kernel
theorem dX9_about_85 : decode cX9_about 85 = .ok (.ireturn, 1) := by decide +kernel
theorem dX9_about_86 : decode cX9_about 86 = .ok (.iconst (-1), 1) := by decide +kernel
theorem dX9_about_87 : decode cX9_about 87 = .ok (.ireturn, 1) := by decide +kernel
theorem dX9_button_0 : decode cX9_button 0 = .ok (.aload_n 0, 1) := by decide +kernel
theorem dX9_button_1 : decode cX9_button 1 = .ok (.iload_n 1, 1) := by decide +kernel
theorem dX9_button_2 : decode cX9_button 2 = .ok (.invokevirtual 106, 3) := by decide +kernel
theorem dX9_button_5 : decode cX9_button 5 = .ok (.ifCond .eq 20, 3) := by decide +kernel
theorem dX9_button_8 : decode cX9_button 8 = .ok (.iload_n 2, 1) := by decide +kernel
theorem dX9_button_9 : decode cX9_button 9 = .ok (.ifCond .lt 16, 3) := by decide +kernel
theorem dX9_button_12 : decode cX9_button 12 = .ok (.iload_n 2, 1) := by decide +kernel
theorem dX9_button_13 : decode cX9_button 13 = .ok (.aload_n 0, 1) := by decide +kernel
theorem dX9_button_14 : decode cX9_button 14 = .ok (.getfield 20, 3) := by decide +kernel
theorem dX9_button_17 : decode cX9_button 17 = .ok (.iload_n 1, 1) := by decide +kernel
theorem dX9_button_18 : decode cX9_button 18 = .ok (.aaload, 1) := by decide +kernel
theorem dX9_button_19 : decode cX9_button 19 = .ok (.getfield 110, 3) := by decide +kernel
theorem dX9_button_22 : decode cX9_button 22 = .ok (.if_icmp .lt 5, 3) := by decide +kernel
theorem dX9_button_25 : decode cX9_button 25 = .ok (.iconst (-1), 1) := by decide +kernel
theorem dX9_button_26 : decode cX9_button 26 = .ok (.ireturn, 1) := by decide +kernel
theorem dX9_button_27 : decode cX9_button 27 = .ok (.aload_n 0, 1) := by decide +kernel
theorem dX9_button_28 : decode cX9_button 28 = .ok (.getfield 20, 3) := by decide +kernel
theorem dX9_button_31 : decode cX9_button 31 = .ok (.iload_n 1, 1) := by decide +kernel
theorem dX9_button_32 : decode cX9_button 32 = .ok (.aaload, 1) := by decide +kernel
theorem dX9_button_33 : decode cX9_button 33 = .ok (.astore 4, 2) := by decide +kernel
theorem dX9_button_35 : decode cX9_button 35 = .ok (.iload_n 3, 1) := by decide +kernel
theorem dX9_button_36 : decode cX9_button 36 = .ok (.tableswitch 58 0 2 #[28, 36, 47], 28) := by decide +kernel
theorem dX9_button_64 : decode cX9_button 64 = .ok (.aload 4, 2) := by decide +kernel
theorem dX9_button_66 : decode cX9_button 66 = .ok (.getfield 125, 3) := by decide +kernel
theorem dX9_button_69 : decode cX9_button 69 = .ok (.iload_n 2, 1) := by decide +kernel
theorem dX9_button_70 : decode cX9_button 70 = .ok (.iaload, 1) := by decide +kernel
theorem dX9_button_71 : decode cX9_button 71 = .ok (.ireturn, 1) := by decide +kernel
theorem dX9_button_72 : decode cX9_button 72 = .ok (.aload 4, 2) := by decide +kernel
theorem dX9_button_74 : decode cX9_button 74 = .ok (.getfield 128, 3) := by decide +kernel
theorem dX9_button_77 : decode cX9_button 77 = .ok (.getfield 132, 3) := by decide +kernel
theorem dX9_button_80 : decode cX9_button 80 = .ok (.iload_n 2, 1) := by decide +kernel
theorem dX9_button_81 : decode cX9_button 81 = .ok (.iaload, 1) := by decide +kernel
theorem dX9_button_82 : decode cX9_button 82 = .ok (.ireturn, 1) := by decide +kernel
theorem dX9_button_83 : decode cX9_button 83 = .ok (.aload 4, 2) := by decide +kernel
theorem dX9_button_85 : decode cX9_button 85 = .ok (.getfield 137, 3) := by decide +kernel
theorem dX9_button_88 : decode cX9_button 88 = .ok (.getfield 141, 3) := by decide +kernel
theorem dX9_button_91 : decode cX9_button 91 = .ok (.iload_n 2, 1) := by decide +kernel
theorem dX9_button_92 : decode cX9_button 92 = .ok (.iaload, 1) := by decide +kernel
theorem dX9_button_93 : decode cX9_button 93 = .ok (.ireturn, 1) := by decide +kernel
theorem dX9_button_94 : decode cX9_button 94 = .ok (.iconst (-1), 1) := by decide +kernel
theorem dX9_button_95 : decode cX9_button 95 = .ok (.ireturn, 1) := by decide +kernel
theorem dX9_act_0 : decode cX9_act 0 = .ok (.aload_n 0, 1) := by decide +kernel
theorem dX9_act_1 : decode cX9_act 1 = .ok (.iload_n 1, 1) := by decide +kernel
theorem dX9_act_2 : decode cX9_act 2 = .ok (.invokevirtual 106, 3) := by decide +kernel
theorem dX9_act_5 : decode cX9_act 5 = .ok (.ifCond .ne 9, 3) := by decide +kernel
theorem dX9_act_8 : decode cX9_act 8 = .ok (.aload_n 0, 1) := by decide +kernel
theorem dX9_act_9 : decode cX9_act 9 = .ok (.iconst 1, 1) := by decide +kernel
theorem dX9_act_10 : decode cX9_act 10 = .ok (.invokevirtual 76, 3) := by decide +kernel
theorem dX9_act_13 : decode cX9_act 13 = .ok (.ireturn, 1) := by decide +kernel
theorem dX9_act_14 : decode cX9_act 14 = .ok (.iload_n 2, 1) := by decide +kernel
theorem dX9_act_15 : decode cX9_act 15 = .ok (.ifCond .lt 9, 3) := by decide +kernel
theorem dX9_act_18 : decode cX9_act 18 = .ok (.iload_n 2, 1) := by decide +kernel
theorem dX9_act_19 : decode cX9_act 19 = .ok (.bipush 27, 2) := by decide +kernel
theorem dX9_act_21 : decode cX9_act 21 = .ok (.if_icmp .lt 9, 3) := by decide +kernel
theorem dX9_act_24 : decode cX9_act 24 = .ok (.aload_n 0, 1) := by decide +kernel
theorem dX9_act_25 : decode cX9_act 25 = .ok (.iconst 2, 1) := by decide +kernel
theorem dX9_act_26 : decode cX9_act 26 = .ok (.invokevirtual 76, 3) := by decide +kernel
theorem dX9_act_29 : decode cX9_act 29 = .ok (.ireturn, 1) := by decide +kernel
theorem dX9_act_30 : decode cX9_act 30 = .ok (.aload_n 0, 1) := by decide +kernel
theorem dX9_act_31 : decode cX9_act 31 = .ok (.getfield 20, 3) := by decide +kernel
theorem dX9_act_34 : decode cX9_act 34 = .ok (.iload_n 1, 1) := by decide +kernel
theorem dX9_act_35 : decode cX9_act 35 = .ok (.aaload, 1) := by decide +kernel
theorem dX9_act_36 : decode cX9_act 36 = .ok (.aload_n 0, 1) := by decide +kernel
theorem dX9_act_37 : decode cX9_act 37 = .ok (.getfield 37, 3) := by decide +kernel
theorem dX9_act_40 : decode cX9_act 40 = .ok (.iload_n 1, 1) := by decide +kernel
theorem dX9_act_41 : decode cX9_act 41 = .ok (.laload, 1) := by decide +kernel
theorem dX9_act_42 : decode cX9_act 42 = .ok (.iload_n 2, 1) := by decide +kernel
theorem dX9_act_43 : decode cX9_act 43 = .ok (.invokevirtual 144, 3) := by decide +kernel
theorem dX9_act_46 : decode cX9_act 46 = .ok (.ifCond .ne 9, 3) := by decide +kernel
theorem dX9_act_49 : decode cX9_act 49 = .ok (.aload_n 0, 1) := by decide +kernel
theorem dX9_act_50 : decode cX9_act 50 = .ok (.iconst 4, 1) := by decide +kernel
theorem dX9_act_51 : decode cX9_act 51 = .ok (.invokevirtual 76, 3) := by decide +kernel
theorem dX9_act_54 : decode cX9_act 54 = .ok (.ireturn, 1) := by decide +kernel
theorem dX9_act_55 : decode cX9_act 55 = .ok (.aload_n 0, 1) := by decide +kernel
theorem dX9_act_56 : decode cX9_act 56 = .ok (.getfield 37, 3) := by decide +kernel
theorem dX9_act_59 : decode cX9_act 59 = .ok (.iload_n 1, 1) := by decide +kernel
theorem dX9_act_60 : decode cX9_act 60 = .ok (.aload_n 0, 1) := by decide +kernel
theorem dX9_act_61 : decode cX9_act 61 = .ok (.getfield 20, 3) := by decide +kernel
theorem dX9_act_64 : decode cX9_act 64 = .ok (.iload_n 1, 1) := by decide +kernel
theorem dX9_act_65 : decode cX9_act 65 = .ok (.aaload, 1) := by decide +kernel
theorem dX9_act_66 : decode cX9_act 66 = .ok (.aload_n 0, 1) := by decide +kernel
theorem dX9_act_67 : decode cX9_act 67 = .ok (.getfield 37, 3) := by decide +kernel
theorem dX9_act_70 : decode cX9_act 70 = .ok (.iload_n 1, 1) := by decide +kernel
theorem dX9_act_71 : decode cX9_act 71 = .ok (.laload, 1) := by decide +kernel
theorem dX9_act_72 : decode cX9_act 72 = .ok (.iload_n 2, 1) := by decide +kernel
theorem dX9_act_73 : decode cX9_act 73 = .ok (.invokevirtual 148, 3) := by decide +kernel
theorem dX9_act_76 : decode cX9_act 76 = .ok (.lastore, 1) := by decide +kernel
theorem dX9_act_77 : decode cX9_act 77 = .ok (.aload_n 0, 1) := by decide +kernel
theorem dX9_act_78 : decode cX9_act 78 = .ok (.iconst 1, 1) := by decide +kernel
theorem dX9_act_79 : decode cX9_act 79 = .ok (.invokevirtual 97, 3) := by decide +kernel
theorem dX9_act_82 : decode cX9_act 82 = .ok (.ireturn, 1) := by decide +kernel
theorem dX9_state_0 : decode cX9_state 0 = .ok (.aload_n 0, 1) := by decide +kernel
theorem dX9_state_1 : decode cX9_state 1 = .ok (.iload_n 1, 1) := by decide +kernel
theorem dX9_state_2 : decode cX9_state 2 = .ok (.invokevirtual 106, 3) := by decide +kernel
theorem dX9_state_5 : decode cX9_state 5 = .ok (.ifCond .ne 5, 3) := by decide +kernel
theorem dX9_state_8 : decode cX9_state 8 = .ok (.iconst (-1), 1) := by decide +kernel
theorem dX9_state_9 : decode cX9_state 9 = .ok (.ireturn, 1) := by decide +kernel
theorem dX9_state_10 : decode cX9_state 10 = .ok (.aload_n 0, 1) := by decide +kernel
theorem dX9_state_11 : decode cX9_state 11 = .ok (.getfield 37, 3) := by decide +kernel
theorem dX9_state_14 : decode cX9_state 14 = .ok (.iload_n 1, 1) := by decide +kernel
theorem dX9_state_15 : decode cX9_state 15 = .ok (.laload, 1) := by decide +kernel
theorem dX9_state_16 : decode cX9_state 16 = .ok (.lstore_n 3, 1) := by decide +kernel
theorem dX9_state_17 : decode cX9_state 17 = .ok (.iload_n 2, 1) := by decide +kernel
theorem dX9_state_18 : decode cX9_state 18 = .ok (.tableswitch 65 0 4 #[34, 39, 44, 49, 54], 34) := by decide +kernel
theorem dX9_state_52 : decode cX9_state 52 = .ok (.lload_n 3, 1) := by decide +kernel
theorem dX9_state_53 : decode cX9_state 53 = .ok (.invokestatic 152, 3) := by decide +kernel
theorem dX9_state_56 : decode cX9_state 56 = .ok (.ireturn, 1) := by decide +kernel
theorem dX9_state_57 : decode cX9_state 57 = .ok (.lload_n 3, 1) := by decide +kernel
theorem dX9_state_58 : decode cX9_state 58 = .ok (.invokestatic 158, 3) := by decide +kernel
theorem dX9_state_61 : decode cX9_state 61 = .ok (.ireturn, 1) := by decide +kernel
theorem dX9_state_62 : decode cX9_state 62 = .ok (.lload_n 3, 1) := by decide +kernel
theorem dX9_state_63 : decode cX9_state 63 = .ok (.invokestatic 161, 3) := by decide +kernel
theorem dX9_state_66 : decode cX9_state 66 = .ok (.ireturn, 1) := by decide +kernel
theorem dX9_state_67 : decode cX9_state 67 = .ok (.lload_n 3, 1) := by decide +kernel
theorem dX9_state_68 : decode cX9_state 68 = .ok (.invokestatic 164, 3) := by decide +kernel
theorem dX9_state_71 : decode cX9_state 71 = .ok (.ireturn, 1) := by decide +kernel
theorem dX9_state_72 : decode cX9_state 72 = .ok (.aload_n 0, 1) := by decide +kernel
theorem dX9_state_73 : decode cX9_state 73 = .ok (.getfield 20, 3) := by decide +kernel
theorem dX9_state_76 : decode cX9_state 76 = .ok (.iload_n 1, 1) := by decide +kernel
theorem dX9_state_77 : decode cX9_state 77 = .ok (.aaload, 1) := by decide +kernel
theorem dX9_state_78 : decode cX9_state 78 = .ok (.lload_n 3, 1) := by decide +kernel
theorem dX9_state_79 : decode cX9_state 79 = .ok (.invokevirtual 167, 3) := by decide +kernel
theorem dX9_state_82 : decode cX9_state 82 = .ok (.ireturn, 1) := by decide +kernel
theorem dX9_state_83 : decode cX9_state 83 = .ok (.iconst (-1), 1) := by decide +kernel
theorem dX9_state_84 : decode cX9_state 84 = .ok (.ireturn, 1) := by decide +kernel
theorem dX9_var_0 : decode cX9_var 0 = .ok (.aload_n 0, 1) := by decide +kernel
theorem dX9_var_1 : decode cX9_var 1 = .ok (.iload_n 1, 1) := by decide +kernel
theorem dX9_var_2 : decode cX9_var 2 = .ok (.invokevirtual 106, 3) := by decide +kernel
theorem dX9_var_5 : decode cX9_var 5 = .ok (.ifCond .eq 20, 3) := by decide +kernel
theorem dX9_var_8 : decode cX9_var 8 = .ok (.iload_n 2, 1) := by decide +kernel
theorem dX9_var_9 : decode cX9_var 9 = .ok (.ifCond .lt 16, 3) := by decide +kernel
theorem dX9_var_12 : decode cX9_var 12 = .ok (.iload_n 2, 1) := by decide +kernel
theorem dX9_var_13 : decode cX9_var 13 = .ok (.aload_n 0, 1) := by decide +kernel
theorem dX9_var_14 : decode cX9_var 14 = .ok (.getfield 20, 3) := by decide +kernel
theorem dX9_var_17 : decode cX9_var 17 = .ok (.iload_n 1, 1) := by decide +kernel
theorem dX9_var_18 : decode cX9_var 18 = .ok (.aaload, 1) := by decide +kernel
theorem dX9_var_19 : decode cX9_var 19 = .ok (.getfield 113, 3) := by decide +kernel
theorem dX9_var_22 : decode cX9_var 22 = .ok (.if_icmp .lt 5, 3) := by decide +kernel
theorem dX9_var_25 : decode cX9_var 25 = .ok (.iconst (-1), 1) := by decide +kernel
theorem dX9_var_26 : decode cX9_var 26 = .ok (.ireturn, 1) := by decide +kernel
theorem dX9_var_27 : decode cX9_var 27 = .ok (.aload_n 0, 1) := by decide +kernel
theorem dX9_var_28 : decode cX9_var 28 = .ok (.getfield 37, 3) := by decide +kernel
theorem dX9_var_31 : decode cX9_var 31 = .ok (.iload_n 1, 1) := by decide +kernel
theorem dX9_var_32 : decode cX9_var 32 = .ok (.laload, 1) := by decide +kernel
theorem dX9_var_33 : decode cX9_var 33 = .ok (.iload_n 2, 1) := by decide +kernel
theorem dX9_var_34 : decode cX9_var 34 = .ok (.invokestatic 170, 3) := by decide +kernel
theorem dX9_var_37 : decode cX9_var 37 = .ok (.ireturn, 1) := by decide +kernel
theorem dX9_can_0 : decode cX9_can 0 = .ok (.aload_n 0, 1) := by decide +kernel
theorem dX9_can_1 : decode cX9_can 1 = .ok (.iload_n 1, 1) := by decide +kernel
theorem dX9_can_2 : decode cX9_can 2 = .ok (.invokevirtual 106, 3) := by decide +kernel
theorem dX9_can_5 : decode cX9_can 5 = .ok (.ifCond .eq 13, 3) := by decide +kernel
theorem dX9_can_8 : decode cX9_can 8 = .ok (.iload_n 2, 1) := by decide +kernel
theorem dX9_can_9 : decode cX9_can 9 = .ok (.ifCond .lt 9, 3) := by decide +kernel
theorem dX9_can_12 : decode cX9_can 12 = .ok (.iload_n 2, 1) := by decide +kernel
theorem dX9_can_13 : decode cX9_can 13 = .ok (.bipush 27, 2) := by decide +kernel
theorem dX9_can_15 : decode cX9_can 15 = .ok (.if_icmp .lt 5, 3) := by decide +kernel
theorem dX9_can_18 : decode cX9_can 18 = .ok (.iconst (-1), 1) := by decide +kernel
theorem dX9_can_19 : decode cX9_can 19 = .ok (.ireturn, 1) := by decide +kernel
theorem dX9_can_20 : decode cX9_can 20 = .ok (.aload_n 0, 1) := by decide +kernel
theorem dX9_can_21 : decode cX9_can 21 = .ok (.getfield 20, 3) := by decide +kernel
theorem dX9_can_24 : decode cX9_can 24 = .ok (.iload_n 1, 1) := by decide +kernel
theorem dX9_can_25 : decode cX9_can 25 = .ok (.aaload, 1) := by decide +kernel
theorem dX9_can_26 : decode cX9_can 26 = .ok (.aload_n 0, 1) := by decide +kernel
theorem dX9_can_27 : decode cX9_can 27 = .ok (.getfield 37, 3) := by decide +kernel
theorem dX9_can_30 : decode cX9_can 30 = .ok (.iload_n 1, 1) := by decide +kernel
theorem dX9_can_31 : decode cX9_can 31 = .ok (.laload, 1) := by decide +kernel
theorem dX9_can_32 : decode cX9_can 32 = .ok (.iload_n 2, 1) := by decide +kernel
theorem dX9_can_33 : decode cX9_can 33 = .ok (.invokevirtual 144, 3) := by decide +kernel
theorem dX9_can_36 : decode cX9_can 36 = .ok (.ifCond .eq 7, 3) := by decide +kernel
theorem dX9_can_39 : decode cX9_can 39 = .ok (.iconst 1, 1) := by decide +kernel
theorem dX9_can_40 : decode cX9_can 40 = .ok (.goto 4, 3) := by decide +kernel
theorem dX9_can_43 : decode cX9_can 43 = .ok (.iconst 0, 1) := by decide +kernel
theorem dX9_can_44 : decode cX9_can 44 = .ok (.ireturn, 1) := by decide +kernel
theorem dX9_begin_0 : decode cX9_begin 0 = .ok (.aload_n 0, 1) := by decide +kernel
theorem dX9_begin_1 : decode cX9_begin 1 = .ok (.iload_n 1, 1) := by decide +kernel
theorem dX9_begin_2 : decode cX9_begin 2 = .ok (.invokevirtual 106, 3) := by decide +kernel
theorem dX9_begin_5 : decode cX9_begin 5 = .ok (.ifCond .ne 10, 3) := by decide +kernel
theorem dX9_begin_8 : decode cX9_begin 8 = .ok (.aload_n 0, 1) := by decide +kernel
theorem dX9_begin_9 : decode cX9_begin 9 = .ok (.iconst 1, 1) := by decide +kernel
theorem dX9_begin_10 : decode cX9_begin 10 = .ok (.putfield 69, 3) := by decide +kernel
theorem dX9_begin_13 : decode cX9_begin 13 = .ok (.iconst 0, 1) := by decide +kernel
theorem dX9_begin_14 : decode cX9_begin 14 = .ok (.ireturn, 1) := by decide +kernel
theorem dX9_begin_15 : decode cX9_begin 15 = .ok (.aload_n 0, 1) := by decide +kernel
theorem dX9_begin_16 : decode cX9_begin 16 = .ok (.getfield 37, 3) := by decide +kernel
theorem dX9_begin_19 : decode cX9_begin 19 = .ok (.iload_n 1, 1) := by decide +kernel
theorem dX9_begin_20 : decode cX9_begin 20 = .ok (.aload_n 0, 1) := by decide +kernel
theorem dX9_begin_21 : decode cX9_begin 21 = .ok (.getfield 20, 3) := by decide +kernel
theorem dX9_begin_24 : decode cX9_begin 24 = .ok (.iload_n 1, 1) := by decide +kernel
theorem dX9_begin_25 : decode cX9_begin 25 = .ok (.aaload, 1) := by decide +kernel
theorem dX9_begin_26 : decode cX9_begin 26 = .ok (.invokevirtual 84, 3) := by decide +kernel
theorem dX9_begin_29 : decode cX9_begin 29 = .ok (.lastore, 1) := by decide +kernel
theorem dX9_begin_30 : decode cX9_begin 30 = .ok (.aload_n 0, 1) := by decide +kernel
theorem dX9_begin_31 : decode cX9_begin 31 = .ok (.iconst 0, 1) := by decide +kernel
theorem dX9_begin_32 : decode cX9_begin 32 = .ok (.putfield 69, 3) := by decide +kernel
theorem dX9_begin_35 : decode cX9_begin 35 = .ok (.iconst 1, 1) := by decide +kernel
theorem dX9_begin_36 : decode cX9_begin 36 = .ok (.ireturn, 1) := by decide +kernel
theorem dX9_map_0 : decode cX9_map 0 = .ok (.aload_n 0, 1) := by decide +kernel
theorem dX9_map_1 : decode cX9_map 1 = .ok (.iload_n 1, 1) := by decide +kernel
theorem dX9_map_2 : decode cX9_map 2 = .ok (.invokevirtual 106, 3) := by decide +kernel
theorem dX9_map_5 : decode cX9_map 5 = .ok (.ifCond .ne 9, 3) := by decide +kernel
theorem dX9_map_8 : decode cX9_map 8 = .ok (.aload_n 0, 1) := by decide +kernel
theorem dX9_map_9 : decode cX9_map 9 = .ok (.iconst 1, 1) := by decide +kernel
theorem dX9_map_10 : decode cX9_map 10 = .ok (.invokevirtual 76, 3) := by decide +kernel
theorem dX9_map_13 : decode cX9_map 13 = .ok (.ireturn, 1) := by decide +kernel
theorem dX9_map_14 : decode cX9_map 14 = .ok (.aload_n 0, 1) := by decide +kernel
theorem dX9_map_15 : decode cX9_map 15 = .ok (.getfield 44, 3) := by decide +kernel
theorem dX9_map_18 : decode cX9_map 18 = .ok (.aload_n 0, 1) := by decide +kernel
theorem dX9_map_19 : decode cX9_map 19 = .ok (.getfield 20, 3) := by decide +kernel
theorem dX9_map_22 : decode cX9_map 22 = .ok (.iload_n 1, 1) := by decide +kernel
theorem dX9_map_23 : decode cX9_map 23 = .ok (.aaload, 1) := by decide +kernel
theorem dX9_map_24 : decode cX9_map 24 = .ok (.iload_n 1, 1) := by decide +kernel
theorem dX9_map_25 : decode cX9_map 25 = .ok (.invokevirtual 174, 3) := by decide +kernel
theorem dX9_map_28 : decode cX9_map 28 = .ok (.ifCond .ne 9, 3) := by decide +kernel
theorem dX9_map_31 : decode cX9_map 31 = .ok (.aload_n 0, 1) := by decide +kernel
theorem dX9_map_32 : decode cX9_map 32 = .ok (.iconst 5, 1) := by decide +kernel
theorem dX9_map_33 : decode cX9_map 33 = .ok (.invokevirtual 76, 3) := by decide +kernel
theorem dX9_map_36 : decode cX9_map 36 = .ok (.ireturn, 1) := by decide +kernel
theorem dX9_map_37 : decode cX9_map 37 = .ok (.aload_n 0, 1) := by decide +kernel
theorem dX9_map_38 : decode cX9_map 38 = .ok (.aload_n 0, 1) := by decide +kernel
theorem dX9_map_39 : decode cX9_map 39 = .ok (.getfield 44, 3) := by decide +kernel
theorem dX9_map_42 : decode cX9_map 42 = .ok (.invokevirtual 178, 3) := by decide +kernel
theorem dX9_map_45 : decode cX9_map 45 = .ok (.invokevirtual 97, 3) := by decide +kernel
theorem dX9_map_48 : decode cX9_map 48 = .ok (.ireturn, 1) := by decide +kernel
theorem dX9_met_0 : decode cX9_met 0 = .ok (.iload_n 1, 1) := by decide +kernel
theorem dX9_met_1 : decode cX9_met 1 = .ok (.ifCond .lt 14, 3) := by decide +kernel
theorem dX9_met_4 : decode cX9_met 4 = .ok (.iload_n 1, 1) := by decide +kernel
theorem dX9_met_5 : decode cX9_met 5 = .ok (.aload_n 0, 1) := by decide +kernel
theorem dX9_met_6 : decode cX9_met 6 = .ok (.getfield 44, 3) := by decide +kernel
theorem dX9_met_9 : decode cX9_met 9 = .ok (.invokevirtual 178, 3) := by decide +kernel
theorem dX9_met_12 : decode cX9_met 12 = .ok (.if_icmp .lt 5, 3) := by decide +kernel
theorem dX9_met_15 : decode cX9_met 15 = .ok (.iconst (-1), 1) := by decide +kernel
theorem dX9_met_16 : decode cX9_met 16 = .ok (.ireturn, 1) := by decide +kernel
theorem dX9_met_17 : decode cX9_met 17 = .ok (.aload_n 0, 1) := by decide +kernel
theorem dX9_met_18 : decode cX9_met 18 = .ok (.getfield 44, 3) := by decide +kernel
theorem dX9_met_21 : decode cX9_met 21 = .ok (.getfield 181, 3) := by decide +kernel
theorem dX9_met_24 : decode cX9_met 24 = .ok (.getfield 185, 3) := by decide +kernel
theorem dX9_met_27 : decode cX9_met 27 = .ok (.iload_n 1, 1) := by decide +kernel
theorem dX9_met_28 : decode cX9_met 28 = .ok (.laload, 1) := by decide +kernel
theorem dX9_met_29 : decode cX9_met 29 = .ok (.lstore_n 3, 1) := by decide +kernel
theorem dX9_met_30 : decode cX9_met 30 = .ok (.iload_n 2, 1) := by decide +kernel
theorem dX9_met_31 : decode cX9_met 31 = .ok (.tableswitch 83 0 5 #[37, 42, 47, 52, 65, 74], 37) := by decide +kernel
theorem dX9_met_68 : decode cX9_met 68 = .ok (.lload_n 3, 1) := by decide +kernel
theorem dX9_met_69 : decode cX9_met 69 = .ok (.invokestatic 152, 3) := by decide +kernel
theorem dX9_met_72 : decode cX9_met 72 = .ok (.ireturn, 1) := by decide +kernel
theorem dX9_met_73 : decode cX9_met 73 = .ok (.lload_n 3, 1) := by decide +kernel
theorem dX9_met_74 : decode cX9_met 74 = .ok (.invokestatic 158, 3) := by decide +kernel
theorem dX9_met_77 : decode cX9_met 77 = .ok (.ireturn, 1) := by decide +kernel
theorem dX9_met_78 : decode cX9_met 78 = .ok (.lload_n 3, 1) := by decide +kernel
theorem dX9_met_79 : decode cX9_met 79 = .ok (.invokestatic 161, 3) := by decide +kernel
theorem dX9_met_82 : decode cX9_met 82 = .ok (.ireturn, 1) := by decide +kernel
theorem dX9_met_83 : decode cX9_met 83 = .ok (.aload_n 0, 1) := by decide +kernel
theorem dX9_met_84 : decode cX9_met 84 = .ok (.getfield 44, 3) := by decide +kernel
theorem dX9_met_87 : decode cX9_met 87 = .ok (.getfield 181, 3) := by decide +kernel
theorem dX9_met_90 : decode cX9_met 90 = .ok (.getfield 190, 3) := by decide +kernel
theorem dX9_met_93 : decode cX9_met 93 = .ok (.iload_n 1, 1) := by decide +kernel
theorem dX9_met_94 : decode cX9_met 94 = .ok (.iaload, 1) := by decide +kernel
theorem dX9_met_95 : decode cX9_met 95 = .ok (.ireturn, 1) := by decide +kernel
theorem dX9_met_96 : decode cX9_met 96 = .ok (.aload_n 0, 1) := by decide +kernel
theorem dX9_met_97 : decode cX9_met 97 = .ok (.getfield 44, 3) := by decide +kernel
theorem dX9_met_100 : decode cX9_met 100 = .ok (.iload_n 1, 1) := by decide +kernel
theorem dX9_met_101 : decode cX9_met 101 = .ok (.invokevirtual 193, 3) := by decide +kernel
theorem dX9_met_104 : decode cX9_met 104 = .ok (.ireturn, 1) := by decide +kernel
theorem dX9_met_105 : decode cX9_met 105 = .ok (.aload_n 0, 1) := by decide +kernel
theorem dX9_met_106 : decode cX9_met 106 = .ok (.getfield 44, 3) := by decide +kernel
theorem dX9_met_109 : decode cX9_met 109 = .ok (.iload_n 1, 1) := by decide +kernel
theorem dX9_met_110 : decode cX9_met 110 = .ok (.invokevirtual 196, 3) := by decide +kernel
theorem dX9_met_113 : decode cX9_met 113 = .ok (.ireturn, 1) := by decide +kernel
theorem dX9_met_114 : decode cX9_met 114 = .ok (.iconst (-1), 1) := by decide +kernel
theorem dX9_met_115 : decode cX9_met 115 = .ok (.ireturn, 1) := by decide +kernel
theorem dX9_leads_0 : decode cX9_leads 0 = .ok (.iload_n 1, 1) := by decide +kernel
theorem dX9_leads_1 : decode cX9_leads 1 = .ok (.ifCond .lt 24, 3) := by decide +kernel
theorem dX9_leads_4 : decode cX9_leads 4 = .ok (.iload_n 1, 1) := by decide +kernel
theorem dX9_leads_5 : decode cX9_leads 5 = .ok (.aload_n 0, 1) := by decide +kernel
theorem dX9_leads_6 : decode cX9_leads 6 = .ok (.getfield 44, 3) := by decide +kernel
theorem dX9_leads_9 : decode cX9_leads 9 = .ok (.invokevirtual 178, 3) := by decide +kernel
theorem dX9_leads_12 : decode cX9_leads 12 = .ok (.if_icmp .ge 13, 3) := by decide +kernel
theorem dX9_leads_15 : decode cX9_leads 15 = .ok (.iload_n 2, 1) := by decide +kernel
theorem dX9_leads_16 : decode cX9_leads 16 = .ok (.ifCond .lt 9, 3) := by decide +kernel
theorem dX9_leads_19 : decode cX9_leads 19 = .ok (.iload_n 2, 1) := by decide +kernel
theorem dX9_leads_20 : decode cX9_leads 20 = .ok (.bipush 27, 2) := by decide +kernel
theorem dX9_leads_22 : decode cX9_leads 22 = .ok (.if_icmp .lt 5, 3) := by decide +kernel
theorem dX9_leads_25 : decode cX9_leads 25 = .ok (.iconst (-1), 1) := by decide +kernel
theorem dX9_leads_26 : decode cX9_leads 26 = .ok (.ireturn, 1) := by decide +kernel
theorem dX9_leads_27 : decode cX9_leads 27 = .ok (.aload_n 0, 1) := by decide +kernel
theorem dX9_leads_28 : decode cX9_leads 28 = .ok (.getfield 44, 3) := by decide +kernel
theorem dX9_leads_31 : decode cX9_leads 31 = .ok (.getfield 199, 3) := by decide +kernel
theorem dX9_leads_34 : decode cX9_leads 34 = .ok (.iload_n 1, 1) := by decide +kernel
theorem dX9_leads_35 : decode cX9_leads 35 = .ok (.bipush 27, 2) := by decide +kernel
theorem dX9_leads_37 : decode cX9_leads 37 = .ok (.imul, 1) := by decide +kernel
theorem dX9_leads_38 : decode cX9_leads 38 = .ok (.iload_n 2, 1) := by decide +kernel
theorem dX9_leads_39 : decode cX9_leads 39 = .ok (.iadd, 1) := by decide +kernel
theorem dX9_leads_40 : decode cX9_leads 40 = .ok (.iaload, 1) := by decide +kernel
theorem dX9_leads_41 : decode cX9_leads 41 = .ok (.ireturn, 1) := by decide +kernel
theorem dX9_rowTo_0 : decode cX9_rowTo 0 = .ok (.aload_n 0, 1) := by decide +kernel
theorem dX9_rowTo_1 : decode cX9_rowTo 1 = .ok (.getfield 44, 3) := by decide +kernel
theorem dX9_rowTo_4 : decode cX9_rowTo 4 = .ok (.invokevirtual 202, 3) := by decide +kernel
theorem dX9_rowTo_7 : decode cX9_rowTo 7 = .ok (.ifCond .ne 10, 3) := by decide +kernel
theorem dX9_rowTo_10 : decode cX9_rowTo 10 = .ok (.aload_n 0, 1) := by decide +kernel
theorem dX9_rowTo_11 : decode cX9_rowTo 11 = .ok (.bipush 6, 2) := by decide +kernel
theorem dX9_rowTo_13 : decode cX9_rowTo 13 = .ok (.invokevirtual 76, 3) := by decide +kernel
theorem dX9_rowTo_16 : decode cX9_rowTo 16 = .ok (.ireturn, 1) := by decide +kernel
theorem dX9_rowTo_17 : decode cX9_rowTo 17 = .ok (.iload_n 1, 1) := by decide +kernel
theorem dX9_rowTo_18 : decode cX9_rowTo 18 = .ok (.ifCond .lt 14, 3) := by decide +kernel
theorem dX9_rowTo_21 : decode cX9_rowTo 21 = .ok (.iload_n 1, 1) := by decide +kernel
theorem dX9_rowTo_22 : decode cX9_rowTo 22 = .ok (.aload_n 0, 1) := by decide +kernel
theorem dX9_rowTo_23 : decode cX9_rowTo 23 = .ok (.getfield 44, 3) := by decide +kernel
theorem dX9_rowTo_26 : decode cX9_rowTo 26 = .ok (.invokevirtual 178, 3) := by decide +kernel
theorem dX9_rowTo_29 : decode cX9_rowTo 29 = .ok (.if_icmp .lt 9, 3) := by decide +kernel
theorem dX9_rowTo_32 : decode cX9_rowTo 32 = .ok (.aload_n 0, 1) := by decide +kernel
theorem dX9_rowTo_33 : decode cX9_rowTo 33 = .ok (.iconst 1, 1) := by decide +kernel
theorem dX9_rowTo_34 : decode cX9_rowTo 34 = .ok (.invokevirtual 76, 3) := by decide +kernel
theorem dX9_rowTo_37 : decode cX9_rowTo 37 = .ok (.ireturn, 1) := by decide +kernel
theorem dX9_rowTo_38 : decode cX9_rowTo 38 = .ok (.aload_n 0, 1) := by decide +kernel
theorem dX9_rowTo_39 : decode cX9_rowTo 39 = .ok (.aload_n 0, 1) := by decide +kernel
theorem dX9_rowTo_40 : decode cX9_rowTo 40 = .ok (.getfield 44, 3) := by decide +kernel
theorem dX9_rowTo_43 : decode cX9_rowTo 43 = .ok (.getfield 181, 3) := by decide +kernel
theorem dX9_rowTo_46 : decode cX9_rowTo 46 = .ok (.iload_n 1, 1) := by decide +kernel
theorem dX9_rowTo_47 : decode cX9_rowTo 47 = .ok (.aload_n 0, 1) := by decide +kernel
theorem dX9_rowTo_48 : decode cX9_rowTo 48 = .ok (.getfield 57, 3) := by decide +kernel
theorem dX9_rowTo_51 : decode cX9_rowTo 51 = .ok (.invokevirtual 206, 3) := by decide +kernel
theorem dX9_rowTo_54 : decode cX9_rowTo 54 = .ok (.putfield 60, 3) := by decide +kernel
theorem dX9_rowTo_57 : decode cX9_rowTo 57 = .ok (.aload_n 0, 1) := by decide +kernel
theorem dX9_rowTo_58 : decode cX9_rowTo 58 = .ok (.aload_n 0, 1) := by decide +kernel
theorem dX9_rowTo_59 : decode cX9_rowTo 59 = .ok (.getfield 60, 3) := by decide +kernel
theorem dX9_rowTo_62 : decode cX9_rowTo 62 = .ok (.invokevirtual 97, 3) := by decide +kernel
theorem dX9_rowTo_65 : decode cX9_rowTo 65 = .ok (.ireturn, 1) := by decide +kernel
theorem dX9_faultAt_0 : decode cX9_faultAt 0 = .ok (.aload_n 0, 1) := by decide +kernel
theorem dX9_faultAt_1 : decode cX9_faultAt 1 = .ok (.getfield 44, 3) := by decide +kernel
theorem dX9_faultAt_4 : decode cX9_faultAt 4 = .ok (.invokevirtual 202, 3) := by decide +kernel
theorem dX9_faultAt_7 : decode cX9_faultAt 7 = .ok (.ifCond .ne 10, 3) := by decide +kernel
theorem dX9_faultAt_10 : decode cX9_faultAt 10 = .ok (.aload_n 0, 1) := by decide +kernel
theorem dX9_faultAt_11 : decode cX9_faultAt 11 = .ok (.bipush 6, 2) := by decide +kernel
theorem dX9_faultAt_13 : decode cX9_faultAt 13 = .ok (.invokevirtual 76, 3) := by decide +kernel
theorem dX9_faultAt_16 : decode cX9_faultAt 16 = .ok (.ireturn, 1) := by decide +kernel
theorem dX9_faultAt_17 : decode cX9_faultAt 17 = .ok (.iload_n 1, 1) := by decide +kernel
theorem dX9_faultAt_18 : decode cX9_faultAt 18 = .ok (.iconst 1, 1) := by decide +kernel
theorem dX9_faultAt_19 : decode cX9_faultAt 19 = .ok (.if_icmp .lt 9, 3) := by decide +kernel
theorem dX9_faultAt_22 : decode cX9_faultAt 22 = .ok (.iload_n 1, 1) := by decide +kernel
theorem dX9_faultAt_23 : decode cX9_faultAt 23 = .ok (.bipush 20, 2) := by decide +kernel
theorem dX9_faultAt_25 : decode cX9_faultAt 25 = .ok (.if_icmp .le 9, 3) := by decide +kernel
theorem dX9_faultAt_28 : decode cX9_faultAt 28 = .ok (.aload_n 0, 1) := by decide +kernel
theorem dX9_faultAt_29 : decode cX9_faultAt 29 = .ok (.iconst 2, 1) := by decide +kernel
theorem dX9_faultAt_30 : decode cX9_faultAt 30 = .ok (.invokevirtual 76, 3) := by decide +kernel
theorem dX9_faultAt_33 : decode cX9_faultAt 33 = .ok (.ireturn, 1) := by decide +kernel
theorem dX9_faultAt_34 : decode cX9_faultAt 34 = .ok (.aload_n 0, 1) := by decide +kernel
theorem dX9_faultAt_35 : decode cX9_faultAt 35 = .ok (.aload_n 0, 1) := by decide +kernel
theorem dX9_faultAt_36 : decode cX9_faultAt 36 = .ok (.getfield 44, 3) := by decide +kernel
theorem dX9_faultAt_39 : decode cX9_faultAt 39 = .ok (.iload_n 1, 1) := by decide +kernel
theorem dX9_faultAt_40 : decode cX9_faultAt 40 = .ok (.invokevirtual 210, 3) := by decide +kernel
theorem dX9_faultAt_43 : decode cX9_faultAt 43 = .ok (.invokevirtual 97, 3) := by decide +kernel
theorem dX9_faultAt_46 : decode cX9_faultAt 46 = .ok (.ireturn, 1) := by decide +kernel
theorem dX9_pressedAt_0 : decode cX9_pressedAt 0 = .ok (.aload_n 0, 1) := by decide +kernel
theorem dX9_pressedAt_1 : decode cX9_pressedAt 1 = .ok (.getfield 44, 3) := by decide +kernel
theorem dX9_pressedAt_4 : decode cX9_pressedAt 4 = .ok (.invokevirtual 202, 3) := by decide +kernel
theorem dX9_pressedAt_7 : decode cX9_pressedAt 7 = .ok (.ifCond .ne 10, 3) := by decide +kernel
