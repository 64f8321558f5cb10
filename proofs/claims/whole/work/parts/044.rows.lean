theorem dX12_views_2 : decode cX12_views 2 = .ok (.putfield 1, 3) := by decide +kernel
theorem dX12_views_5 : decode cX12_views 5 = .ok (.aload_n 0, 1) := by decide +kernel
theorem dX12_views_6 : decode cX12_views 6 = .ok (.getfield 62, 3) := by decide +kernel
theorem dX12_views_9 : decode cX12_views 9 = .ok (.iconst (-1), 1) := by decide +kernel
theorem dX12_views_10 : decode cX12_views 10 = .ok (.if_icmp .ne 10, 3) := by decide +kernel
theorem dX12_views_13 : decode cX12_views 13 = .ok (.aload_n 0, 1) := by decide +kernel
theorem dX12_views_14 : decode cX12_views 14 = .ok (.bipush 6, 2) := by decide +kernel
theorem dX12_views_16 : decode cX12_views 16 = .ok (.invokevirtual 316, 3) := by decide +kernel
theorem dX12_views_19 : decode cX12_views 19 = .ok (.ireturn, 1) := by decide +kernel
theorem dX12_views_20 : decode cX12_views 20 = .ok (.iconst 0, 1) := by decide +kernel
theorem dX12_views_21 : decode cX12_views 21 = .ok (.istore_n 1, 1) := by decide +kernel
theorem dX12_views_22 : decode cX12_views 22 = .ok (.iconst 0, 1) := by decide +kernel
theorem dX12_views_23 : decode cX12_views 23 = .ok (.istore_n 2, 1) := by decide +kernel
theorem dX12_views_24 : decode cX12_views 24 = .ok (.iload_n 2, 1) := by decide +kernel
theorem dX12_views_25 : decode cX12_views 25 = .ok (.aload_n 0, 1) := by decide +kernel
theorem dX12_views_26 : decode cX12_views 26 = .ok (.getfield 334, 3) := by decide +kernel
theorem dX12_views_29 : decode cX12_views 29 = .ok (.if_icmp .ge 36, 3) := by decide +kernel
theorem dX12_views_32 : decode cX12_views 32 = .ok (.iload_n 1, 1) := by decide +kernel
theorem dX12_views_33 : decode cX12_views 33 = .ok (.aload_n 0, 1) := by decide +kernel
theorem dX12_views_34 : decode cX12_views 34 = .ok (.getfield 95, 3) := by decide +kernel
theorem dX12_views_37 : decode cX12_views 37 = .ok (.iconst 0, 1) := by decide +kernel
theorem dX12_views_38 : decode cX12_views 38 = .ok (.iload_n 2, 1) := by decide +kernel
theorem dX12_views_39 : decode cX12_views 39 = .ok (.aload_n 0, 1) := by decide +kernel
theorem dX12_views_40 : decode cX12_views 40 = .ok (.getfield 95, 3) := by decide +kernel
theorem dX12_views_43 : decode cX12_views 43 = .ok (.iload_n 2, 1) := by decide +kernel
theorem dX12_views_44 : decode cX12_views 44 = .ok (.laload, 1) := by decide +kernel
theorem dX12_views_45 : decode cX12_views 45 = .ok (.invokestatic 201, 3) := by decide +kernel
theorem dX12_views_48 : decode cX12_views 48 = .ok (.iconst (-1), 1) := by decide +kernel
theorem dX12_views_49 : decode cX12_views 49 = .ok (.if_icmp .ne 7, 3) := by decide +kernel
theorem dX12_views_52 : decode cX12_views 52 = .ok (.iconst 1, 1) := by decide +kernel
theorem dX12_views_53 : decode cX12_views 53 = .ok (.goto 4, 3) := by decide +kernel
theorem dX12_views_56 : decode cX12_views 56 = .ok (.iconst 0, 1) := by decide +kernel
theorem dX12_views_57 : decode cX12_views 57 = .ok (.iadd, 1) := by decide +kernel
theorem dX12_views_58 : decode cX12_views 58 = .ok (.istore_n 1, 1) := by decide +kernel
theorem dX12_views_59 : decode cX12_views 59 = .ok (.iinc 2 1, 3) := by decide +kernel
theorem dX12_views_62 : decode cX12_views 62 = .ok (.goto (-38), 3) := by decide +kernel
theorem dX12_views_65 : decode cX12_views 65 = .ok (.aload_n 0, 1) := by decide +kernel
theorem dX12_views_66 : decode cX12_views 66 = .ok (.iload_n 1, 1) := by decide +kernel
theorem dX12_views_67 : decode cX12_views 67 = .ok (.invokevirtual 337, 3) := by decide +kernel
theorem dX12_views_70 : decode cX12_views 70 = .ok (.ireturn, 1) := by decide +kernel
theorem dX12_farthest_0 : decode cX12_farthest 0 = .ok (.aload_n 0, 1) := by decide +kernel
theorem dX12_farthest_1 : decode cX12_farthest 1 = .ok (.iconst 0, 1) := by decide +kernel
theorem dX12_farthest_2 : decode cX12_farthest 2 = .ok (.putfield 1, 3) := by decide +kernel
theorem dX12_farthest_5 : decode cX12_farthest 5 = .ok (.aload_n 0, 1) := by decide +kernel
theorem dX12_farthest_6 : decode cX12_farthest 6 = .ok (.getfield 62, 3) := by decide +kernel
theorem dX12_farthest_9 : decode cX12_farthest 9 = .ok (.iconst (-1), 1) := by decide +kernel
theorem dX12_farthest_10 : decode cX12_farthest 10 = .ok (.if_icmp .ne 10, 3) := by decide +kernel
theorem dX12_farthest_13 : decode cX12_farthest 13 = .ok (.aload_n 0, 1) := by decide +kernel
theorem dX12_farthest_14 : decode cX12_farthest 14 = .ok (.bipush 6, 2) := by decide +kernel
theorem dX12_farthest_16 : decode cX12_farthest 16 = .ok (.invokevirtual 316, 3) := by decide +kernel
theorem dX12_farthest_19 : decode cX12_farthest 19 = .ok (.ireturn, 1) := by decide +kernel
theorem dX12_farthest_20 : decode cX12_farthest 20 = .ok (.iconst 0, 1) := by decide +kernel
theorem dX12_farthest_21 : decode cX12_farthest 21 = .ok (.istore_n 1, 1) := by decide +kernel
theorem dX12_farthest_22 : decode cX12_farthest 22 = .ok (.iconst 0, 1) := by decide +kernel
theorem dX12_farthest_23 : decode cX12_farthest 23 = .ok (.istore_n 2, 1) := by decide +kernel
theorem dX12_farthest_24 : decode cX12_farthest 24 = .ok (.iload_n 2, 1) := by decide +kernel
theorem dX12_farthest_25 : decode cX12_farthest 25 = .ok (.aload_n 0, 1) := by decide +kernel
theorem dX12_farthest_26 : decode cX12_farthest 26 = .ok (.getfield 334, 3) := by decide +kernel
theorem dX12_farthest_29 : decode cX12_farthest 29 = .ok (.if_icmp .ge 20, 3) := by decide +kernel
theorem dX12_farthest_32 : decode cX12_farthest 32 = .ok (.iload_n 1, 1) := by decide +kernel
theorem dX12_farthest_33 : decode cX12_farthest 33 = .ok (.aload_n 0, 1) := by decide +kernel
theorem dX12_farthest_34 : decode cX12_farthest 34 = .ok (.getfield 77, 3) := by decide +kernel
theorem dX12_farthest_37 : decode cX12_farthest 37 = .ok (.iload_n 2, 1) := by decide +kernel
theorem dX12_farthest_38 : decode cX12_farthest 38 = .ok (.iaload, 1) := by decide +kernel
theorem dX12_farthest_39 : decode cX12_farthest 39 = .ok (.invokestatic 361, 3) := by decide +kernel
theorem dX12_farthest_42 : decode cX12_farthest 42 = .ok (.istore_n 1, 1) := by decide +kernel
theorem dX12_farthest_43 : decode cX12_farthest 43 = .ok (.iinc 2 1, 3) := by decide +kernel
theorem dX12_farthest_46 : decode cX12_farthest 46 = .ok (.goto (-22), 3) := by decide +kernel
theorem dX12_farthest_49 : decode cX12_farthest 49 = .ok (.aload_n 0, 1) := by decide +kernel
theorem dX12_farthest_50 : decode cX12_farthest 50 = .ok (.iload_n 1, 1) := by decide +kernel
theorem dX12_farthest_51 : decode cX12_farthest 51 = .ok (.invokevirtual 337, 3) := by decide +kernel
theorem dX12_farthest_54 : decode cX12_farthest 54 = .ok (.ireturn, 1) := by decide +kernel
theorem dX12_ways_0 : decode cX12_ways 0 = .ok (.aload_n 0, 1) := by decide +kernel
theorem dX12_ways_1 : decode cX12_ways 1 = .ok (.iconst 0, 1) := by decide +kernel
theorem dX12_ways_2 : decode cX12_ways 2 = .ok (.putfield 1, 3) := by decide +kernel
theorem dX12_ways_5 : decode cX12_ways 5 = .ok (.aload_n 0, 1) := by decide +kernel
theorem dX12_ways_6 : decode cX12_ways 6 = .ok (.getfield 62, 3) := by decide +kernel
theorem dX12_ways_9 : decode cX12_ways 9 = .ok (.iconst (-1), 1) := by decide +kernel
theorem dX12_ways_10 : decode cX12_ways 10 = .ok (.if_icmp .ne 10, 3) := by decide +kernel
theorem dX12_ways_13 : decode cX12_ways 13 = .ok (.aload_n 0, 1) := by decide +kernel
theorem dX12_ways_14 : decode cX12_ways 14 = .ok (.bipush 6, 2) := by decide +kernel
theorem dX12_ways_16 : decode cX12_ways 16 = .ok (.invokevirtual 316, 3) := by decide +kernel
theorem dX12_ways_19 : decode cX12_ways 19 = .ok (.ireturn, 1) := by decide +kernel
theorem dX12_ways_20 : decode cX12_ways 20 = .ok (.iconst 0, 1) := by decide +kernel
theorem dX12_ways_21 : decode cX12_ways 21 = .ok (.istore_n 1, 1) := by decide +kernel
theorem dX12_ways_22 : decode cX12_ways 22 = .ok (.iconst 0, 1) := by decide +kernel
theorem dX12_ways_23 : decode cX12_ways 23 = .ok (.istore_n 2, 1) := by decide +kernel
theorem dX12_ways_24 : decode cX12_ways 24 = .ok (.iload_n 2, 1) := by decide +kernel
theorem dX12_ways_25 : decode cX12_ways 25 = .ok (.aload_n 0, 1) := by decide +kernel
theorem dX12_ways_26 : decode cX12_ways 26 = .ok (.getfield 334, 3) := by decide +kernel
theorem dX12_ways_29 : decode cX12_ways 29 = .ok (.if_icmp .ge 21, 3) := by decide +kernel
theorem dX12_ways_32 : decode cX12_ways 32 = .ok (.iload_n 1, 1) := by decide +kernel
theorem dX12_ways_33 : decode cX12_ways 33 = .ok (.aload_n 0, 1) := by decide +kernel
theorem dX12_ways_34 : decode cX12_ways 34 = .ok (.getfield 80, 3) := by decide +kernel
theorem dX12_ways_37 : decode cX12_ways 37 = .ok (.iload_n 2, 1) := by decide +kernel
theorem dX12_ways_38 : decode cX12_ways 38 = .ok (.iaload, 1) := by decide +kernel
theorem dX12_ways_39 : decode cX12_ways 39 = .ok (.invokestatic 387, 3) := by decide +kernel
theorem dX12_ways_42 : decode cX12_ways 42 = .ok (.iadd, 1) := by decide +kernel
theorem dX12_ways_43 : decode cX12_ways 43 = .ok (.istore_n 1, 1) := by decide +kernel
theorem dX12_ways_44 : decode cX12_ways 44 = .ok (.iinc 2 1, 3) := by decide +kernel
theorem dX12_ways_47 : decode cX12_ways 47 = .ok (.goto (-23), 3) := by decide +kernel
theorem dX12_ways_50 : decode cX12_ways 50 = .ok (.aload_n 0, 1) := by decide +kernel
theorem dX12_ways_51 : decode cX12_ways 51 = .ok (.iload_n 1, 1) := by decide +kernel
theorem dX12_ways_52 : decode cX12_ways 52 = .ok (.invokevirtual 337, 3) := by decide +kernel
theorem dX12_ways_55 : decode cX12_ways 55 = .ok (.ireturn, 1) := by decide +kernel
theorem dX12_push_0 : decode cX12_push 0 = .ok (.aload_n 0, 1) := by decide +kernel
theorem dX12_push_1 : decode cX12_push 1 = .ok (.iconst 0, 1) := by decide +kernel
theorem dX12_push_2 : decode cX12_push 2 = .ok (.putfield 1, 3) := by decide +kernel
theorem dX12_push_5 : decode cX12_push 5 = .ok (.iload_n 1, 1) := by decide +kernel
theorem dX12_push_6 : decode cX12_push 6 = .ok (.invokestatic 374, 3) := by decide +kernel
theorem dX12_push_9 : decode cX12_push 9 = .ok (.ifCond .ne 9, 3) := by decide +kernel
theorem dX12_push_12 : decode cX12_push 12 = .ok (.aload_n 0, 1) := by decide +kernel
theorem dX12_push_13 : decode cX12_push 13 = .ok (.iconst 2, 1) := by decide +kernel
theorem dX12_push_14 : decode cX12_push 14 = .ok (.invokevirtual 316, 3) := by decide +kernel
theorem dX12_push_17 : decode cX12_push 17 = .ok (.ireturn, 1) := by decide +kernel
theorem dX12_push_18 : decode cX12_push 18 = .ok (.aload_n 0, 1) := by decide +kernel
theorem dX12_push_19 : decode cX12_push 19 = .ok (.getfield 415, 3) := by decide +kernel
theorem dX12_push_22 : decode cX12_push 22 = .ok (.sipush 400, 3) := by decide +kernel
theorem dX12_push_25 : decode cX12_push 25 = .ok (.if_icmp .ne 9, 3) := by decide +kernel
theorem dX12_push_28 : decode cX12_push 28 = .ok (.aload_n 0, 1) := by decide +kernel
theorem dX12_push_29 : decode cX12_push 29 = .ok (.iconst 4, 1) := by decide +kernel
theorem dX12_push_30 : decode cX12_push 30 = .ok (.invokevirtual 316, 3) := by decide +kernel
theorem dX12_push_33 : decode cX12_push 33 = .ok (.ireturn, 1) := by decide +kernel
theorem dX12_push_34 : decode cX12_push 34 = .ok (.aload_n 0, 1) := by decide +kernel
theorem dX12_push_35 : decode cX12_push 35 = .ok (.getfield 101, 3) := by decide +kernel
theorem dX12_push_38 : decode cX12_push 38 = .ok (.aload_n 0, 1) := by decide +kernel
theorem dX12_push_39 : decode cX12_push 39 = .ok (.getfield 415, 3) := by decide +kernel
theorem dX12_push_42 : decode cX12_push 42 = .ok (.iload_n 1, 1) := by decide +kernel
theorem dX12_push_43 : decode cX12_push 43 = .ok (.iastore, 1) := by decide +kernel
theorem dX12_push_44 : decode cX12_push 44 = .ok (.aload_n 0, 1) := by decide +kernel
theorem dX12_push_45 : decode cX12_push 45 = .ok (.dup, 1) := by decide +kernel
theorem dX12_push_46 : decode cX12_push 46 = .ok (.getfield 415, 3) := by decide +kernel
theorem dX12_push_49 : decode cX12_push 49 = .ok (.iconst 1, 1) := by decide +kernel
theorem dX12_push_50 : decode cX12_push 50 = .ok (.iadd, 1) := by decide +kernel
theorem dX12_push_51 : decode cX12_push 51 = .ok (.putfield 415, 3) := by decide +kernel
theorem dX12_push_54 : decode cX12_push 54 = .ok (.aload_n 0, 1) := by decide +kernel
theorem dX12_push_55 : decode cX12_push 55 = .ok (.aload_n 0, 1) := by decide +kernel
theorem dX12_push_56 : decode cX12_push 56 = .ok (.getfield 415, 3) := by decide +kernel
theorem dX12_push_59 : decode cX12_push 59 = .ok (.invokevirtual 337, 3) := by decide +kernel
theorem dX12_push_62 : decode cX12_push 62 = .ok (.ireturn, 1) := by decide +kernel
theorem dX12_cut_0 : decode cX12_cut 0 = .ok (.aload_n 0, 1) := by decide +kernel
theorem dX12_cut_1 : decode cX12_cut 1 = .ok (.iconst 0, 1) := by decide +kernel
theorem dX12_cut_2 : decode cX12_cut 2 = .ok (.putfield 1, 3) := by decide +kernel
theorem dX12_cut_5 : decode cX12_cut 5 = .ok (.aload_n 0, 1) := by decide +kernel
theorem dX12_cut_6 : decode cX12_cut 6 = .ok (.iload_n 1, 1) := by decide +kernel
theorem dX12_cut_7 : decode cX12_cut 7 = .ok (.ifCond .lt 11, 3) := by decide +kernel
theorem dX12_cut_10 : decode cX12_cut 10 = .ok (.iload_n 1, 1) := by decide +kernel
theorem dX12_cut_11 : decode cX12_cut 11 = .ok (.aload_n 0, 1) := by decide +kernel
theorem dX12_cut_12 : decode cX12_cut 12 = .ok (.getfield 415, 3) := by decide +kernel
theorem dX12_cut_15 : decode cX12_cut 15 = .ok (.if_icmp .le 7, 3) := by decide +kernel
theorem dX12_cut_18 : decode cX12_cut 18 = .ok (.iconst 2, 1) := by decide +kernel
theorem dX12_cut_19 : decode cX12_cut 19 = .ok (.goto 4, 3) := by decide +kernel
theorem dX12_cut_22 : decode cX12_cut 22 = .ok (.iconst 0, 1) := by decide +kernel
theorem dX12_cut_23 : decode cX12_cut 23 = .ok (.putfield 7, 3) := by decide +kernel
theorem dX12_cut_26 : decode cX12_cut 26 = .ok (.aload_n 0, 1) := by decide +kernel
theorem dX12_cut_27 : decode cX12_cut 27 = .ok (.iconst (-1), 1) := by decide +kernel
theorem dX12_cut_28 : decode cX12_cut 28 = .ok (.putfield 10, 3) := by decide +kernel
theorem dX12_cut_31 : decode cX12_cut 31 = .ok (.aload_n 0, 1) := by decide +kernel
theorem dX12_cut_32 : decode cX12_cut 32 = .ok (.getfield 7, 3) := by decide +kernel
theorem dX12_cut_35 : decode cX12_cut 35 = .ok (.ifCond .ne 8, 3) := by decide +kernel
theorem dX12_cut_38 : decode cX12_cut 38 = .ok (.aload_n 0, 1) := by decide +kernel
theorem dX12_cut_39 : decode cX12_cut 39 = .ok (.iload_n 1, 1) := by decide +kernel
theorem dX12_cut_40 : decode cX12_cut 40 = .ok (.putfield 415, 3) := by decide +kernel
theorem dX12_cut_43 : decode cX12_cut 43 = .ok (.aload_n 0, 1) := by decide +kernel
theorem dX12_cut_44 : decode cX12_cut 44 = .ok (.getfield 7, 3) := by decide +kernel
theorem dX12_cut_47 : decode cX12_cut 47 = .ok (.ifCond .ne 7, 3) := by decide +kernel
theorem dX12_cut_50 : decode cX12_cut 50 = .ok (.iconst 1, 1) := by decide +kernel
theorem dX12_cut_51 : decode cX12_cut 51 = .ok (.goto 4, 3) := by decide +kernel
theorem dX12_cut_54 : decode cX12_cut 54 = .ok (.iconst 0, 1) := by decide +kernel
theorem dX12_cut_55 : decode cX12_cut 55 = .ok (.ireturn, 1) := by decide +kernel
theorem dX12_comes_0 : decode cX12_comes 0 = .ok (.aload_n 0, 1) := by decide +kernel
theorem dX12_comes_1 : decode cX12_comes 1 = .ok (.invokevirtual 324, 3) := by decide +kernel
theorem dX12_comes_4 : decode cX12_comes 4 = .ok (.aload_n 0, 1) := by decide +kernel
theorem dX12_comes_5 : decode cX12_comes 5 = .ok (.iconst 0, 1) := by decide +kernel
theorem dX12_comes_6 : decode cX12_comes 6 = .ok (.putfield 418, 3) := by decide +kernel
theorem dX12_comes_9 : decode cX12_comes 9 = .ok (.iconst 0, 1) := by decide +kernel
theorem dX12_comes_10 : decode cX12_comes 10 = .ok (.istore_n 3, 1) := by decide +kernel
theorem dX12_comes_11 : decode cX12_comes 11 = .ok (.iload_n 3, 1) := by decide +kernel
theorem dX12_comes_12 : decode cX12_comes 12 = .ok (.aload_n 0, 1) := by decide +kernel
theorem dX12_comes_13 : decode cX12_comes 13 = .ok (.getfield 415, 3) := by decide +kernel
theorem dX12_comes_16 : decode cX12_comes 16 = .ok (.if_icmp .ge 72, 3) := by decide +kernel
theorem dX12_comes_19 : decode cX12_comes 19 = .ok (.aload_n 0, 1) := by decide +kernel
theorem dX12_comes_20 : decode cX12_comes 20 = .ok (.getfield 343, 3) := by decide +kernel
theorem dX12_comes_23 : decode cX12_comes 23 = .ok (.ifCond .ne 65, 3) := by decide +kernel
theorem dX12_comes_26 : decode cX12_comes 26 = .ok (.aload_n 0, 1) := by decide +kernel
theorem dX12_comes_27 : decode cX12_comes 27 = .ok (.dup, 1) := by decide +kernel
theorem dX12_comes_28 : decode cX12_comes 28 = .ok (.getfield 418, 3) := by decide +kernel
theorem dX12_comes_31 : decode cX12_comes 31 = .ok (.iconst 1, 1) := by decide +kernel
theorem dX12_comes_32 : decode cX12_comes 32 = .ok (.iadd, 1) := by decide +kernel
theorem dX12_comes_33 : decode cX12_comes 33 = .ok (.putfield 418, 3) := by decide +kernel
theorem dX12_comes_36 : decode cX12_comes 36 = .ok (.iload_n 3, 1) := by decide +kernel
theorem dX12_comes_37 : decode cX12_comes 37 = .ok (.iload_n 2, 1) := by decide +kernel
theorem dX12_comes_38 : decode cX12_comes 38 = .ok (.if_icmp .eq 44, 3) := by decide +kernel
theorem dX12_comes_41 : decode cX12_comes 41 = .ok (.aload_n 0, 1) := by decide +kernel
theorem dX12_comes_42 : decode cX12_comes 42 = .ok (.getfield 101, 3) := by decide +kernel
theorem dX12_comes_45 : decode cX12_comes 45 = .ok (.iload_n 3, 1) := by decide +kernel
theorem dX12_comes_46 : decode cX12_comes 46 = .ok (.iaload, 1) := by decide +kernel
theorem dX12_comes_47 : decode cX12_comes 47 = .ok (.invokestatic 374, 3) := by decide +kernel
theorem dX12_comes_50 : decode cX12_comes 50 = .ok (.ifCond .eq 32, 3) := by decide +kernel
theorem dX12_comes_53 : decode cX12_comes 53 = .ok (.aload_n 0, 1) := by decide +kernel
theorem dX12_comes_54 : decode cX12_comes 54 = .ok (.aload_n 1, 1) := by decide +kernel
theorem dX12_comes_55 : decode cX12_comes 55 = .ok (.invokevirtual 381, 3) := by decide +kernel
theorem dX12_comes_58 : decode cX12_comes 58 = .ok (.aload_n 0, 1) := by decide +kernel
theorem dX12_comes_59 : decode cX12_comes 59 = .ok (.getfield 101, 3) := by decide +kernel
theorem dX12_comes_62 : decode cX12_comes 62 = .ok (.iload_n 3, 1) := by decide +kernel
theorem dX12_comes_63 : decode cX12_comes 63 = .ok (.iaload, 1) := by decide +kernel
theorem dX12_comes_64 : decode cX12_comes 64 = .ok (.ishr, 1) := by decide +kernel
theorem dX12_comes_65 : decode cX12_comes 65 = .ok (.iconst 1, 1) := by decide +kernel
theorem dX12_comes_66 : decode cX12_comes 66 = .ok (.iand, 1) := by decide +kernel
theorem dX12_comes_67 : decode cX12_comes 67 = .ok (.iconst 1, 1) := by decide +kernel
theorem dX12_comes_68 : decode cX12_comes 68 = .ok (.if_icmp .ne 14, 3) := by decide +kernel
theorem dX12_comes_71 : decode cX12_comes 71 = .ok (.aload_n 0, 1) := by decide +kernel
theorem dX12_comes_72 : decode cX12_comes 72 = .ok (.aload_n 1, 1) := by decide +kernel
theorem dX12_comes_73 : decode cX12_comes 73 = .ok (.aload_n 0, 1) := by decide +kernel
theorem dX12_comes_74 : decode cX12_comes 74 = .ok (.getfield 101, 3) := by decide +kernel
theorem dX12_comes_77 : decode cX12_comes 77 = .ok (.iload_n 3, 1) := by decide +kernel
theorem dX12_comes_78 : decode cX12_comes 78 = .ok (.iaload, 1) := by decide +kernel
theorem dX12_comes_79 : decode cX12_comes 79 = .ok (.invokevirtual 384, 3) := by decide +kernel
theorem dX12_comes_82 : decode cX12_comes 82 = .ok (.iinc 3 1, 3) := by decide +kernel
theorem dX12_comes_85 : decode cX12_comes 85 = .ok (.goto (-74), 3) := by decide +kernel
theorem dX12_comes_88 : decode cX12_comes 88 = .ok (.aload_n 0, 1) := by decide +kernel
theorem dX12_comes_89 : decode cX12_comes 89 = .ok (.getfield 343, 3) := by decide +kernel
theorem dX12_comes_92 : decode cX12_comes 92 = .ok (.ireturn, 1) := by decide +kernel
theorem dX12_tryRow_0 : decode cX12_tryRow 0 = .ok (.aload_n 0, 1) := by decide +kernel
theorem dX12_tryRow_1 : decode cX12_tryRow 1 = .ok (.iconst 0, 1) := by decide +kernel
theorem dX12_tryRow_2 : decode cX12_tryRow 2 = .ok (.putfield 1, 3) := by decide +kernel
theorem dX12_tryRow_5 : decode cX12_tryRow 5 = .ok (.aload_n 0, 1) := by decide +kernel
theorem dX12_tryRow_6 : decode cX12_tryRow 6 = .ok (.iload_n 1, 1) := by decide +kernel
theorem dX12_tryRow_7 : decode cX12_tryRow 7 = .ok (.invokevirtual 340, 3) := by decide +kernel
theorem dX12_tryRow_10 : decode cX12_tryRow 10 = .ok (.ifCond .ne 9, 3) := by decide +kernel
theorem dX12_tryRow_13 : decode cX12_tryRow 13 = .ok (.aload_n 0, 1) := by decide +kernel
theorem dX12_tryRow_14 : decode cX12_tryRow 14 = .ok (.iconst 1, 1) := by decide +kernel
theorem dX12_tryRow_15 : decode cX12_tryRow 15 = .ok (.invokevirtual 316, 3) := by decide +kernel
theorem dX12_tryRow_18 : decode cX12_tryRow 18 = .ok (.ireturn, 1) := by decide +kernel
theorem dX12_tryRow_19 : decode cX12_tryRow 19 = .ok (.aload_n 0, 1) := by decide +kernel
theorem dX12_tryRow_20 : decode cX12_tryRow 20 = .ok (.aload_n 0, 1) := by decide +kernel
theorem dX12_tryRow_21 : decode cX12_tryRow 21 = .ok (.getfield 21, 3) := by decide +kernel
theorem dX12_tryRow_24 : decode cX12_tryRow 24 = .ok (.iload_n 1, 1) := by decide +kernel
theorem dX12_tryRow_25 : decode cX12_tryRow 25 = .ok (.aaload, 1) := by decide +kernel
theorem dX12_tryRow_26 : decode cX12_tryRow 26 = .ok (.iconst (-1), 1) := by decide +kernel
theorem dX12_tryRow_27 : decode cX12_tryRow 27 = .ok (.invokevirtual 421, 3) := by decide +kernel
theorem dX12_tryRow_30 : decode cX12_tryRow 30 = .ok (.istore_n 2, 1) := by decide +kernel
theorem dX12_tryRow_31 : decode cX12_tryRow 31 = .ok (.aload_n 0, 1) := by decide +kernel
theorem dX12_tryRow_32 : decode cX12_tryRow 32 = .ok (.aload_n 0, 1) := by decide +kernel
theorem dX12_tryRow_33 : decode cX12_tryRow 33 = .ok (.getfield 418, 3) := by decide +kernel
theorem dX12_tryRow_36 : decode cX12_tryRow 36 = .ok (.putfield 104, 3) := by decide +kernel
theorem dX12_tryRow_39 : decode cX12_tryRow 39 = .ok (.aload_n 0, 1) := by decide +kernel
theorem dX12_tryRow_40 : decode cX12_tryRow 40 = .ok (.iload_n 2, 1) := by decide +kernel
theorem dX12_tryRow_41 : decode cX12_tryRow 41 = .ok (.invokevirtual 337, 3) := by decide +kernel
theorem dX12_tryRow_44 : decode cX12_tryRow 44 = .ok (.ireturn, 1) := by decide +kernel
theorem dX12_tried_0 : decode cX12_tried 0 = .ok (.aload_n 0, 1) := by decide +kernel
theorem dX12_tried_1 : decode cX12_tried 1 = .ok (.iconst 0, 1) := by decide +kernel
theorem dX12_tried_2 : decode cX12_tried 2 = .ok (.putfield 1, 3) := by decide +kernel
theorem dX12_tried_5 : decode cX12_tried 5 = .ok (.aload_n 0, 1) := by decide +kernel
theorem dX12_tried_6 : decode cX12_tried 6 = .ok (.getfield 104, 3) := by decide +kernel
theorem dX12_tried_9 : decode cX12_tried 9 = .ok (.ireturn, 1) := by decide +kernel
theorem dX12_shorter_0 : decode cX12_shorter 0 = .ok (.aload_n 0, 1) := by decide +kernel
theorem dX12_shorter_1 : decode cX12_shorter 1 = .ok (.iconst 0, 1) := by decide +kernel
theorem dX12_shorter_2 : decode cX12_shorter 2 = .ok (.putfield 1, 3) := by decide +kernel
theorem dX12_shorter_5 : decode cX12_shorter 5 = .ok (.aload_n 0, 1) := by decide +kernel
theorem dX12_shorter_6 : decode cX12_shorter 6 = .ok (.iload_n 1, 1) := by decide +kernel
theorem dX12_shorter_7 : decode cX12_shorter 7 = .ok (.invokevirtual 340, 3) := by decide +kernel
theorem dX12_shorter_10 : decode cX12_shorter 10 = .ok (.ifCond .ne 9, 3) := by decide +kernel
theorem dX12_shorter_13 : decode cX12_shorter 13 = .ok (.aload_n 0, 1) := by decide +kernel
theorem dX12_shorter_14 : decode cX12_shorter 14 = .ok (.iconst 1, 1) := by decide +kernel
theorem dX12_shorter_15 : decode cX12_shorter 15 = .ok (.invokevirtual 316, 3) := by decide +kernel
theorem dX12_shorter_18 : decode cX12_shorter 18 = .ok (.ireturn, 1) := by decide +kernel
theorem dX12_shorter_19 : decode cX12_shorter 19 = .ok (.aload_n 0, 1) := by decide +kernel
theorem dX12_shorter_20 : decode cX12_shorter 20 = .ok (.aload_n 0, 1) := by decide +kernel
theorem dX12_shorter_21 : decode cX12_shorter 21 = .ok (.getfield 21, 3) := by decide +kernel
theorem dX12_shorter_24 : decode cX12_shorter 24 = .ok (.iload_n 1, 1) := by decide +kernel
theorem dX12_shorter_25 : decode cX12_shorter 25 = .ok (.aaload, 1) := by decide +kernel
theorem dX12_shorter_26 : decode cX12_shorter 26 = .ok (.iconst (-1), 1) := by decide +kernel
theorem dX12_shorter_27 : decode cX12_shorter 27 = .ok (.invokevirtual 421, 3) := by decide +kernel
theorem dX12_shorter_30 : decode cX12_shorter 30 = .ok (.istore_n 2, 1) := by decide +kernel
theorem dX12_shorter_31 : decode cX12_shorter 31 = .ok (.iload_n 2, 1) := by decide +kernel
theorem dX12_shorter_32 : decode cX12_shorter 32 = .ok (.ifCond .ne 9, 3) := by decide +kernel
theorem dX12_shorter_35 : decode cX12_shorter 35 = .ok (.aload_n 0, 1) := by decide +kernel
theorem dX12_shorter_36 : decode cX12_shorter 36 = .ok (.iconst 4, 1) := by decide +kernel
theorem dX12_shorter_37 : decode cX12_shorter 37 = .ok (.invokevirtual 316, 3) := by decide +kernel
theorem dX12_shorter_40 : decode cX12_shorter 40 = .ok (.ireturn, 1) := by decide +kernel
theorem dX12_shorter_41 : decode cX12_shorter 41 = .ok (.aload_n 0, 1) := by decide +kernel
theorem dX12_shorter_42 : decode cX12_shorter 42 = .ok (.aload_n 0, 1) := by decide +kernel
theorem dX12_shorter_43 : decode cX12_shorter 43 = .ok (.getfield 418, 3) := by decide +kernel
theorem dX12_shorter_46 : decode cX12_shorter 46 = .ok (.putfield 415, 3) := by decide +kernel
theorem dX12_shorter_49 : decode cX12_shorter 49 = .ok (.iconst 1, 1) := by decide +kernel
theorem dX12_shorter_50 : decode cX12_shorter 50 = .ok (.istore_n 3, 1) := by decide +kernel
theorem dX12_shorter_51 : decode cX12_shorter 51 = .ok (.iload_n 3, 1) := by decide +kernel
theorem dX12_shorter_52 : decode cX12_shorter 52 = .ok (.ifCond .eq 95, 3) := by decide +kernel
theorem dX12_shorter_55 : decode cX12_shorter 55 = .ok (.iconst 0, 1) := by decide +kernel
theorem dX12_shorter_56 : decode cX12_shorter 56 = .ok (.istore_n 3, 1) := by decide +kernel
theorem dX12_shorter_57 : decode cX12_shorter 57 = .ok (.aload_n 0, 1) := by decide +kernel
theorem dX12_shorter_58 : decode cX12_shorter 58 = .ok (.getfield 415, 3) := by decide +kernel
theorem dX12_shorter_61 : decode cX12_shorter 61 = .ok (.iconst 1, 1) := by decide +kernel
theorem dX12_shorter_62 : decode cX12_shorter 62 = .ok (.isub, 1) := by decide +kernel
theorem dX12_shorter_63 : decode cX12_shorter 63 = .ok (.istore 4, 2) := by decide +kernel
theorem dX12_shorter_65 : decode cX12_shorter 65 = .ok (.iload 4, 2) := by decide +kernel
theorem dX12_shorter_67 : decode cX12_shorter 67 = .ok (.ifCond .lt 77, 3) := by decide +kernel
theorem dX12_shorter_70 : decode cX12_shorter 70 = .ok (.aload_n 0, 1) := by decide +kernel
theorem dX12_shorter_71 : decode cX12_shorter 71 = .ok (.aload_n 0, 1) := by decide +kernel
theorem dX12_shorter_72 : decode cX12_shorter 72 = .ok (.getfield 21, 3) := by decide +kernel
theorem dX12_shorter_75 : decode cX12_shorter 75 = .ok (.iload_n 1, 1) := by decide +kernel
theorem dX12_shorter_76 : decode cX12_shorter 76 = .ok (.aaload, 1) := by decide +kernel
theorem dX12_shorter_77 : decode cX12_shorter 77 = .ok (.iload 4, 2) := by decide +kernel
theorem dX12_shorter_79 : decode cX12_shorter 79 = .ok (.invokevirtual 421, 3) := by decide +kernel
theorem dX12_shorter_82 : decode cX12_shorter 82 = .ok (.iload_n 2, 1) := by decide +kernel
theorem dX12_shorter_83 : decode cX12_shorter 83 = .ok (.if_icmp .eq 6, 3) := by decide +kernel
theorem dX12_shorter_86 : decode cX12_shorter 86 = .ok (.goto 52, 3) := by decide +kernel
theorem dX12_shorter_89 : decode cX12_shorter 89 = .ok (.iload 4, 2) := by decide +kernel
theorem dX12_shorter_91 : decode cX12_shorter 91 = .ok (.iconst 1, 1) := by decide +kernel
theorem dX12_shorter_92 : decode cX12_shorter 92 = .ok (.iadd, 1) := by decide +kernel
theorem dX12_shorter_93 : decode cX12_shorter 93 = .ok (.istore 5, 2) := by decide +kernel
theorem dX12_shorter_95 : decode cX12_shorter 95 = .ok (.iload 5, 2) := by decide +kernel
theorem dX12_shorter_97 : decode cX12_shorter 97 = .ok (.aload_n 0, 1) := by decide +kernel
theorem dX12_shorter_98 : decode cX12_shorter 98 = .ok (.getfield 415, 3) := by decide +kernel
theorem dX12_shorter_101 : decode cX12_shorter 101 = .ok (.if_icmp .ge 25, 3) := by decide +kernel
theorem dX12_shorter_104 : decode cX12_shorter 104 = .ok (.aload_n 0, 1) := by decide +kernel
theorem dX12_shorter_105 : decode cX12_shorter 105 = .ok (.getfield 101, 3) := by decide +kernel
theorem dX12_shorter_108 : decode cX12_shorter 108 = .ok (.iload 5, 2) := by decide +kernel
theorem dX12_shorter_110 : decode cX12_shorter 110 = .ok (.iconst 1, 1) := by decide +kernel
theorem dX12_shorter_111 : decode cX12_shorter 111 = .ok (.isub, 1) := by decide +kernel
theorem dX12_shorter_112 : decode cX12_shorter 112 = .ok (.aload_n 0, 1) := by decide +kernel
theorem dX12_shorter_113 : decode cX12_shorter 113 = .ok (.getfield 101, 3) := by decide +kernel
theorem dX12_shorter_116 : decode cX12_shorter 116 = .ok (.iload 5, 2) := by decide +kernel
theorem dX12_shorter_118 : decode cX12_shorter 118 = .ok (.iaload, 1) := by decide +kernel
theorem dX12_shorter_119 : decode cX12_shorter 119 = .ok (.iastore, 1) := by decide +kernel
theorem dX12_shorter_120 : decode cX12_shorter 120 = .ok (.iinc 5 1, 3) := by decide +kernel
theorem dX12_shorter_123 : decode cX12_shorter 123 = .ok (.goto (-28), 3) := by decide +kernel
theorem dX12_shorter_126 : decode cX12_shorter 126 = .ok (.aload_n 0, 1) := by decide +kernel
theorem dX12_shorter_127 : decode cX12_shorter 127 = .ok (.dup, 1) := by decide +kernel
theorem dX12_shorter_128 : decode cX12_shorter 128 = .ok (.getfield 415, 3) := by decide +kernel
theorem dX12_shorter_131 : decode cX12_shorter 131 = .ok (.iconst 1, 1) := by decide +kernel
theorem dX12_shorter_132 : decode cX12_shorter 132 = .ok (.isub, 1) := by decide +kernel
theorem dX12_shorter_133 : decode cX12_shorter 133 = .ok (.putfield 415, 3) := by decide +kernel
theorem dX12_shorter_136 : decode cX12_shorter 136 = .ok (.iconst 1, 1) := by decide +kernel
theorem dX12_shorter_137 : decode cX12_shorter 137 = .ok (.istore_n 3, 1) := by decide +kernel
theorem dX12_shorter_138 : decode cX12_shorter 138 = .ok (.iinc 4 (-1), 3) := by decide +kernel
theorem dX12_shorter_141 : decode cX12_shorter 141 = .ok (.goto (-76), 3) := by decide +kernel
theorem dX12_shorter_144 : decode cX12_shorter 144 = .ok (.goto (-93), 3) := by decide +kernel
theorem dX12_shorter_147 : decode cX12_shorter 147 = .ok (.aload_n 0, 1) := by decide +kernel
theorem dX12_shorter_148 : decode cX12_shorter 148 = .ok (.aload_n 0, 1) := by decide +kernel
theorem dX12_shorter_149 : decode cX12_shorter 149 = .ok (.getfield 415, 3) := by decide +kernel
theorem dX12_shorter_152 : decode cX12_shorter 152 = .ok (.invokevirtual 337, 3) := by decide +kernel
theorem dX12_shorter_155 : decode cX12_shorter 155 = .ok (.ireturn, 1) := by decide +kernel
theorem dX12_row_0 : decode cX12_row 0 = .ok (.aload_n 0, 1) := by decide +kernel
theorem dX12_row_1 : decode cX12_row 1 = .ok (.iload_n 1, 1) := by decide +kernel
theorem dX12_row_2 : decode cX12_row 2 = .ok (.ifCond .lt 11, 3) := by decide +kernel
theorem dX12_row_5 : decode cX12_row 5 = .ok (.iload_n 1, 1) := by decide +kernel
theorem dX12_row_6 : decode cX12_row 6 = .ok (.aload_n 0, 1) := by decide +kernel
theorem dX12_row_7 : decode cX12_row 7 = .ok (.getfield 415, 3) := by decide +kernel
theorem dX12_row_10 : decode cX12_row 10 = .ok (.if_icmp .lt 7, 3) := by decide +kernel
theorem dX12_row_13 : decode cX12_row 13 = .ok (.iconst 1, 1) := by decide +kernel
theorem dX12_row_14 : decode cX12_row 14 = .ok (.goto 4, 3) := by decide +kernel
theorem dX12_row_17 : decode cX12_row 17 = .ok (.iconst 0, 1) := by decide +kernel
theorem dX12_row_18 : decode cX12_row 18 = .ok (.putfield 1, 3) := by decide +kernel
theorem dX12_row_21 : decode cX12_row 21 = .ok (.aload_n 0, 1) := by decide +kernel
theorem dX12_row_22 : decode cX12_row 22 = .ok (.getfield 1, 3) := by decide +kernel
theorem dX12_row_25 : decode cX12_row 25 = .ok (.ifCond .le 7, 3) := by decide +kernel
theorem dX12_row_28 : decode cX12_row 28 = .ok (.iconst 0, 1) := by decide +kernel
theorem dX12_row_29 : decode cX12_row 29 = .ok (.goto 9, 3) := by decide +kernel
theorem dX12_row_32 : decode cX12_row 32 = .ok (.aload_n 0, 1) := by decide +kernel
theorem dX12_row_33 : decode cX12_row 33 = .ok (.getfield 101, 3) := by decide +kernel
theorem dX12_row_36 : decode cX12_row 36 = .ok (.iload_n 1, 1) := by decide +kernel
theorem dX12_row_37 : decode cX12_row 37 = .ok (.iaload, 1) := by decide +kernel
theorem dX12_row_38 : decode cX12_row 38 = .ok (.ireturn, 1) := by decide +kernel
theorem dX12_sameAct_0 : decode cX12_sameAct 0 = .ok (.aload_n 0, 1) := by decide +kernel
theorem dX12_sameAct_1 : decode cX12_sameAct 1 = .ok (.aload_n 2, 1) := by decide +kernel
theorem dX12_sameAct_2 : decode cX12_sameAct 2 = .ok (.invokevirtual 381, 3) := by decide +kernel
theorem dX12_sameAct_5 : decode cX12_sameAct 5 = .ok (.istore 4, 2) := by decide +kernel
theorem dX12_sameAct_7 : decode cX12_sameAct 7 = .ok (.iload_n 3, 1) := by decide +kernel
theorem dX12_sameAct_8 : decode cX12_sameAct 8 = .ok (.bipush 24, 2) := by decide +kernel
theorem dX12_sameAct_10 : decode cX12_sameAct 10 = .ok (.if_icmp .lt 19, 3) := by decide +kernel
theorem dX12_sameAct_13 : decode cX12_sameAct 13 = .ok (.iload 4, 2) := by decide +kernel
theorem dX12_sameAct_15 : decode cX12_sameAct 15 = .ok (.iload_n 3, 1) := by decide +kernel
theorem dX12_sameAct_16 : decode cX12_sameAct 16 = .ok (.ishr, 1) := by decide +kernel
theorem dX12_sameAct_17 : decode cX12_sameAct 17 = .ok (.iconst 1, 1) := by decide +kernel
theorem dX12_sameAct_18 : decode cX12_sameAct 18 = .ok (.iand, 1) := by decide +kernel
theorem dX12_sameAct_19 : decode cX12_sameAct 19 = .ok (.iconst 1, 1) := by decide +kernel
theorem dX12_sameAct_20 : decode cX12_sameAct 20 = .ok (.if_icmp .ne 7, 3) := by decide +kernel
theorem dX12_sameAct_23 : decode cX12_sameAct 23 = .ok (.iload_n 3, 1) := by decide +kernel
theorem dX12_sameAct_24 : decode cX12_sameAct 24 = .ok (.goto 4, 3) := by decide +kernel
theorem dX12_sameAct_27 : decode cX12_sameAct 27 = .ok (.iconst (-1), 1) := by decide +kernel
theorem dX12_sameAct_28 : decode cX12_sameAct 28 = .ok (.ireturn, 1) := by decide +kernel
theorem dX12_sameAct_29 : decode cX12_sameAct 29 = .ok (.iconst 0, 1) := by decide +kernel
theorem dX12_sameAct_30 : decode cX12_sameAct 30 = .ok (.istore 5, 2) := by decide +kernel
theorem dX12_sameAct_32 : decode cX12_sameAct 32 = .ok (.iload 5, 2) := by decide +kernel
theorem dX12_sameAct_34 : decode cX12_sameAct 34 = .ok (.aload_n 2, 1) := by decide +kernel
theorem dX12_sameAct_35 : decode cX12_sameAct 35 = .ok (.getfield 208, 3) := by decide +kernel
theorem dX12_sameAct_38 : decode cX12_sameAct 38 = .ok (.if_icmp .ge 36, 3) := by decide +kernel
theorem dX12_sameAct_41 : decode cX12_sameAct 41 = .ok (.iload 4, 2) := by decide +kernel
theorem dX12_sameAct_43 : decode cX12_sameAct 43 = .ok (.iload 5, 2) := by decide +kernel
theorem dX12_sameAct_45 : decode cX12_sameAct 45 = .ok (.ishr, 1) := by decide +kernel
theorem dX12_sameAct_46 : decode cX12_sameAct 46 = .ok (.iconst 1, 1) := by decide +kernel
theorem dX12_sameAct_47 : decode cX12_sameAct 47 = .ok (.iand, 1) := by decide +kernel
theorem dX12_sameAct_48 : decode cX12_sameAct 48 = .ok (.ifCond .eq 20, 3) := by decide +kernel
theorem dX12_sameAct_51 : decode cX12_sameAct 51 = .ok (.aload_n 2, 1) := by decide +kernel
theorem dX12_sameAct_52 : decode cX12_sameAct 52 = .ok (.getfield 264, 3) := by decide +kernel
theorem dX12_sameAct_55 : decode cX12_sameAct 55 = .ok (.iload 5, 2) := by decide +kernel
theorem dX12_sameAct_57 : decode cX12_sameAct 57 = .ok (.laload, 1) := by decide +kernel
theorem dX12_sameAct_58 : decode cX12_sameAct 58 = .ok (.aload_n 1, 1) := by decide +kernel
theorem dX12_sameAct_59 : decode cX12_sameAct 59 = .ok (.getfield 264, 3) := by decide +kernel
theorem dX12_sameAct_62 : decode cX12_sameAct 62 = .ok (.iload_n 3, 1) := by decide +kernel
theorem dX12_sameAct_63 : decode cX12_sameAct 63 = .ok (.laload, 1) := by decide +kernel
theorem dX12_sameAct_64 : decode cX12_sameAct 64 = .ok (.lcmp, 1) := by decide +kernel
theorem dX12_sameAct_65 : decode cX12_sameAct 65 = .ok (.ifCond .eq 9, 3) := by decide +kernel
theorem dX12_sameAct_68 : decode cX12_sameAct 68 = .ok (.iinc 5 1, 3) := by decide +kernel
theorem dX12_sameAct_71 : decode cX12_sameAct 71 = .ok (.goto (-39), 3) := by decide +kernel
theorem dX12_sameAct_74 : decode cX12_sameAct 74 = .ok (.iload 5, 2) := by decide +kernel
theorem dX12_sameAct_76 : decode cX12_sameAct 76 = .ok (.aload_n 2, 1) := by decide +kernel
theorem dX12_sameAct_77 : decode cX12_sameAct 77 = .ok (.getfield 208, 3) := by decide +kernel
theorem dX12_sameAct_80 : decode cX12_sameAct 80 = .ok (.if_icmp .ge 8, 3) := by decide +kernel
theorem dX12_sameAct_83 : decode cX12_sameAct 83 = .ok (.iload 5, 2) := by decide +kernel
theorem dX12_sameAct_85 : decode cX12_sameAct 85 = .ok (.goto 4, 3) := by decide +kernel
theorem dX12_sameAct_88 : decode cX12_sameAct 88 = .ok (.iconst (-1), 1) := by decide +kernel
theorem dX12_sameAct_89 : decode cX12_sameAct 89 = .ok (.ireturn, 1) := by decide +kernel
theorem dX12_sees_0 : decode cX12_sees 0 = .ok (.aload_n 0, 1) := by decide +kernel
theorem dX12_sees_1 : decode cX12_sees 1 = .ok (.aload_n 0, 1) := by decide +kernel
theorem dX12_sees_2 : decode cX12_sees 2 = .ok (.getfield 343, 3) := by decide +kernel
theorem dX12_sees_5 : decode cX12_sees 5 = .ok (.putfield 425, 3) := by decide +kernel
theorem dX12_sees_8 : decode cX12_sees 8 = .ok (.aload_n 0, 1) := by decide +kernel
theorem dX12_sees_9 : decode cX12_sees 9 = .ok (.iconst 0, 1) := by decide +kernel
theorem dX12_sees_10 : decode cX12_sees 10 = .ok (.putfield 428, 3) := by decide +kernel
theorem dX12_sees_13 : decode cX12_sees 13 = .ok (.aload_n 0, 1) := by decide +kernel
theorem dX12_sees_14 : decode cX12_sees 14 = .ok (.iconst 0, 1) := by decide +kernel
theorem dX12_sees_15 : decode cX12_sees 15 = .ok (.putfield 431, 3) := by decide +kernel
theorem dX12_sees_18 : decode cX12_sees 18 = .ok (.aload_n 0, 1) := by decide +kernel
theorem dX12_sees_19 : decode cX12_sees 19 = .ok (.lconst 0, 1) := by decide +kernel
theorem dX12_sees_20 : decode cX12_sees 20 = .ok (.putfield 434, 3) := by decide +kernel
theorem dX12_sees_23 : decode cX12_sees 23 = .ok (.aload_n 0, 1) := by decide +kernel
theorem dX12_sees_24 : decode cX12_sees 24 = .ok (.getfield 343, 3) := by decide +kernel
theorem dX12_sees_27 : decode cX12_sees 27 = .ok (.ifCond .le 4, 3) := by decide +kernel
theorem dX12_sees_30 : decode cX12_sees 30 = .ok (.return_, 1) := by decide +kernel
theorem dX12_sees_31 : decode cX12_sees 31 = .ok (.aload_n 0, 1) := by decide +kernel
theorem dX12_sees_32 : decode cX12_sees 32 = .ok (.getfield 52, 3) := by decide +kernel
theorem dX12_sees_35 : decode cX12_sees 35 = .ok (.aload_n 0, 1) := by decide +kernel
theorem dX12_sees_36 : decode cX12_sees 36 = .ok (.getfield 346, 3) := by decide +kernel
theorem dX12_sees_39 : decode cX12_sees 39 = .ok (.iconst 1, 1) := by decide +kernel
theorem dX12_sees_40 : decode cX12_sees 40 = .ok (.isub, 1) := by decide +kernel
theorem dX12_sees_41 : decode cX12_sees 41 = .ok (.iaload, 1) := by decide +kernel
theorem dX12_sees_42 : decode cX12_sees 42 = .ok (.istore_n 2, 1) := by decide +kernel
theorem dX12_sees_43 : decode cX12_sees 43 = .ok (.aload_n 0, 1) := by decide +kernel
theorem dX12_sees_44 : decode cX12_sees 44 = .ok (.aload_n 1, 1) := by decide +kernel
theorem dX12_sees_45 : decode cX12_sees 45 = .ok (.getfield 228, 3) := by decide +kernel
theorem dX12_sees_48 : decode cX12_sees 48 = .ok (.iload_n 2, 1) := by decide +kernel
theorem dX12_sees_49 : decode cX12_sees 49 = .ok (.laload, 1) := by decide +kernel
theorem dX12_sees_50 : decode cX12_sees 50 = .ok (.putfield 434, 3) := by decide +kernel
theorem dX12_sees_53 : decode cX12_sees 53 = .ok (.aload_n 0, 1) := by decide +kernel
theorem dX12_sees_54 : decode cX12_sees 54 = .ok (.getfield 428, 3) := by decide +kernel
theorem dX12_sees_57 : decode cX12_sees 57 = .ok (.aload_n 1, 1) := by decide +kernel
theorem dX12_sees_58 : decode cX12_sees 58 = .ok (.getfield 252, 3) := by decide +kernel
theorem dX12_sees_61 : decode cX12_sees 61 = .ok (.iload_n 2, 1) := by decide +kernel
theorem dX12_sees_62 : decode cX12_sees 62 = .ok (.iaload, 1) := by decide +kernel
theorem dX12_sees_63 : decode cX12_sees 63 = .ok (.if_icmp .ge 44, 3) := by decide +kernel
theorem dX12_sees_66 : decode cX12_sees 66 = .ok (.aload_n 0, 1) := by decide +kernel
theorem dX12_sees_67 : decode cX12_sees 67 = .ok (.getfield 125, 3) := by decide +kernel
theorem dX12_sees_70 : decode cX12_sees 70 = .ok (.aload_n 0, 1) := by decide +kernel
theorem dX12_sees_71 : decode cX12_sees 71 = .ok (.getfield 428, 3) := by decide +kernel
theorem dX12_sees_74 : decode cX12_sees 74 = .ok (.aload_n 0, 1) := by decide +kernel
theorem dX12_sees_75 : decode cX12_sees 75 = .ok (.getfield 59, 3) := by decide +kernel
theorem dX12_sees_78 : decode cX12_sees 78 = .ok (.aload_n 1, 1) := by decide +kernel
theorem dX12_sees_79 : decode cX12_sees 79 = .ok (.getfield 257, 3) := by decide +kernel
theorem dX12_sees_82 : decode cX12_sees 82 = .ok (.bipush 6, 2) := by decide +kernel
theorem dX12_sees_84 : decode cX12_sees 84 = .ok (.iload_n 2, 1) := by decide +kernel
theorem dX12_sees_85 : decode cX12_sees 85 = .ok (.imul, 1) := by decide +kernel
theorem dX12_sees_86 : decode cX12_sees 86 = .ok (.aload_n 0, 1) := by decide +kernel
theorem dX12_sees_87 : decode cX12_sees 87 = .ok (.getfield 428, 3) := by decide +kernel
theorem dX12_sees_90 : decode cX12_sees 90 = .ok (.iadd, 1) := by decide +kernel
theorem dX12_sees_91 : decode cX12_sees 91 = .ok (.iaload, 1) := by decide +kernel
theorem dX12_sees_92 : decode cX12_sees 92 = .ok (.iaload, 1) := by decide +kernel
theorem dX12_sees_93 : decode cX12_sees 93 = .ok (.iastore, 1) := by decide +kernel
theorem dX12_sees_94 : decode cX12_sees 94 = .ok (.aload_n 0, 1) := by decide +kernel
theorem dX12_sees_95 : decode cX12_sees 95 = .ok (.dup, 1) := by decide +kernel
theorem dX12_sees_96 : decode cX12_sees 96 = .ok (.getfield 428, 3) := by decide +kernel
theorem dX12_sees_99 : decode cX12_sees 99 = .ok (.iconst 1, 1) := by decide +kernel
theorem dX12_sees_100 : decode cX12_sees 100 = .ok (.iadd, 1) := by decide +kernel
theorem dX12_sees_101 : decode cX12_sees 101 = .ok (.putfield 428, 3) := by decide +kernel
theorem dX12_sees_104 : decode cX12_sees 104 = .ok (.goto (-51), 3) := by decide +kernel
theorem dX12_sees_107 : decode cX12_sees 107 = .ok (.aload_n 0, 1) := by decide +kernel
theorem dX12_sees_108 : decode cX12_sees 108 = .ok (.aload_n 1, 1) := by decide +kernel
theorem dX12_sees_109 : decode cX12_sees 109 = .ok (.invokevirtual 354, 3) := by decide +kernel
theorem dX12_sees_112 : decode cX12_sees 112 = .ok (.istore_n 3, 1) := by decide +kernel
theorem dX12_sees_113 : decode cX12_sees 113 = .ok (.iconst 0, 1) := by decide +kernel
theorem dX12_sees_114 : decode cX12_sees 114 = .ok (.istore 4, 2) := by decide +kernel
theorem dX12_sees_116 : decode cX12_sees 116 = .ok (.iload 4, 2) := by decide +kernel
theorem dX12_sees_118 : decode cX12_sees 118 = .ok (.aload_n 1, 1) := by decide +kernel
theorem dX12_sees_119 : decode cX12_sees 119 = .ok (.getfield 208, 3) := by decide +kernel
theorem dX12_sees_122 : decode cX12_sees 122 = .ok (.if_icmp .ge 47, 3) := by decide +kernel
theorem dX12_sees_125 : decode cX12_sees 125 = .ok (.iload_n 3, 1) := by decide +kernel
theorem dX12_sees_126 : decode cX12_sees 126 = .ok (.iload 4, 2) := by decide +kernel
theorem dX12_sees_128 : decode cX12_sees 128 = .ok (.ishr, 1) := by decide +kernel
theorem dX12_sees_129 : decode cX12_sees 129 = .ok (.iconst 1, 1) := by decide +kernel
theorem dX12_sees_130 : decode cX12_sees 130 = .ok (.iand, 1) := by decide +kernel
theorem dX12_sees_131 : decode cX12_sees 131 = .ok (.ifCond .ne 6, 3) := by decide +kernel
theorem dX12_sees_134 : decode cX12_sees 134 = .ok (.goto 29, 3) := by decide +kernel
theorem dX12_sees_137 : decode cX12_sees 137 = .ok (.aload_n 0, 1) := by decide +kernel
theorem dX12_sees_138 : decode cX12_sees 138 = .ok (.getfield 128, 3) := by decide +kernel
theorem dX12_sees_141 : decode cX12_sees 141 = .ok (.aload_n 0, 1) := by decide +kernel
theorem dX12_sees_142 : decode cX12_sees 142 = .ok (.getfield 431, 3) := by decide +kernel
theorem dX12_sees_145 : decode cX12_sees 145 = .ok (.aload_n 1, 1) := by decide +kernel
theorem dX12_sees_146 : decode cX12_sees 146 = .ok (.getfield 264, 3) := by decide +kernel
theorem dX12_sees_149 : decode cX12_sees 149 = .ok (.iload 4, 2) := by decide +kernel
theorem dX12_sees_151 : decode cX12_sees 151 = .ok (.laload, 1) := by decide +kernel
theorem dX12_sees_152 : decode cX12_sees 152 = .ok (.lastore, 1) := by decide +kernel
theorem dX12_sees_153 : decode cX12_sees 153 = .ok (.aload_n 0, 1) := by decide +kernel
theorem dX12_sees_154 : decode cX12_sees 154 = .ok (.dup, 1) := by decide +kernel
theorem dX12_sees_155 : decode cX12_sees 155 = .ok (.getfield 431, 3) := by decide +kernel
theorem dX12_sees_158 : decode cX12_sees 158 = .ok (.iconst 1, 1) := by decide +kernel
theorem dX12_sees_159 : decode cX12_sees 159 = .ok (.iadd, 1) := by decide +kernel
theorem dX12_sees_160 : decode cX12_sees 160 = .ok (.putfield 431, 3) := by decide +kernel
theorem dX12_sees_163 : decode cX12_sees 163 = .ok (.iinc 4 1, 3) := by decide +kernel
theorem dX12_sees_166 : decode cX12_sees 166 = .ok (.goto (-50), 3) := by decide +kernel
theorem dX12_sees_169 : decode cX12_sees 169 = .ok (.return_, 1) := by decide +kernel
theorem dX12_isSeen_0 : decode cX12_isSeen 0 = .ok (.aload_n 0, 1) := by decide +kernel
theorem dX12_isSeen_1 : decode cX12_isSeen 1 = .ok (.getfield 343, 3) := by decide +kernel
theorem dX12_isSeen_4 : decode cX12_isSeen 4 = .ok (.aload_n 0, 1) := by decide +kernel
theorem dX12_isSeen_5 : decode cX12_isSeen 5 = .ok (.getfield 425, 3) := by decide +kernel
theorem dX12_isSeen_8 : decode cX12_isSeen 8 = .ok (.if_icmp .eq 5, 3) := by decide +kernel
theorem dX12_isSeen_11 : decode cX12_isSeen 11 = .ok (.iconst 0, 1) := by decide +kernel
theorem dX12_isSeen_12 : decode cX12_isSeen 12 = .ok (.ireturn, 1) := by decide +kernel
theorem dX12_isSeen_13 : decode cX12_isSeen 13 = .ok (.aload_n 0, 1) := by decide +kernel
theorem dX12_isSeen_14 : decode cX12_isSeen 14 = .ok (.getfield 343, 3) := by decide +kernel
theorem dX12_isSeen_17 : decode cX12_isSeen 17 = .ok (.ifCond .le 5, 3) := by decide +kernel
theorem dX12_isSeen_20 : decode cX12_isSeen 20 = .ok (.iconst 1, 1) := by decide +kernel
theorem dX12_isSeen_21 : decode cX12_isSeen 21 = .ok (.ireturn, 1) := by decide +kernel
theorem dX12_isSeen_22 : decode cX12_isSeen 22 = .ok (.aload_n 0, 1) := by decide +kernel
theorem dX12_isSeen_23 : decode cX12_isSeen 23 = .ok (.getfield 52, 3) := by decide +kernel
theorem dX12_isSeen_26 : decode cX12_isSeen 26 = .ok (.aload_n 0, 1) := by decide +kernel
theorem dX12_isSeen_27 : decode cX12_isSeen 27 = .ok (.getfield 346, 3) := by decide +kernel
theorem dX12_isSeen_30 : decode cX12_isSeen 30 = .ok (.iconst 1, 1) := by decide +kernel
theorem dX12_isSeen_31 : decode cX12_isSeen 31 = .ok (.isub, 1) := by decide +kernel
theorem dX12_isSeen_32 : decode cX12_isSeen 32 = .ok (.iaload, 1) := by decide +kernel
theorem dX12_isSeen_33 : decode cX12_isSeen 33 = .ok (.istore_n 2, 1) := by decide +kernel
theorem dX12_isSeen_34 : decode cX12_isSeen 34 = .ok (.aload_n 1, 1) := by decide +kernel
theorem dX12_isSeen_35 : decode cX12_isSeen 35 = .ok (.getfield 228, 3) := by decide +kernel
theorem dX12_isSeen_38 : decode cX12_isSeen 38 = .ok (.iload_n 2, 1) := by decide +kernel
theorem dX12_isSeen_39 : decode cX12_isSeen 39 = .ok (.laload, 1) := by decide +kernel
theorem dX12_isSeen_40 : decode cX12_isSeen 40 = .ok (.aload_n 0, 1) := by decide +kernel
theorem dX12_isSeen_41 : decode cX12_isSeen 41 = .ok (.getfield 434, 3) := by decide +kernel
theorem dX12_isSeen_44 : decode cX12_isSeen 44 = .ok (.lcmp, 1) := by decide +kernel
theorem dX12_isSeen_45 : decode cX12_isSeen 45 = .ok (.ifCond .ne 20, 3) := by decide +kernel
theorem dX12_isSeen_48 : decode cX12_isSeen 48 = .ok (.aload_n 1, 1) := by decide +kernel
theorem dX12_isSeen_49 : decode cX12_isSeen 49 = .ok (.getfield 252, 3) := by decide +kernel
theorem dX12_isSeen_52 : decode cX12_isSeen 52 = .ok (.iload_n 2, 1) := by decide +kernel
theorem dX12_isSeen_53 : decode cX12_isSeen 53 = .ok (.iaload, 1) := by decide +kernel
theorem dX12_isSeen_54 : decode cX12_isSeen 54 = .ok (.aload_n 0, 1) := by decide +kernel
theorem dX12_isSeen_55 : decode cX12_isSeen 55 = .ok (.getfield 428, 3) := by decide +kernel
theorem dX12_isSeen_58 : decode cX12_isSeen 58 = .ok (.if_icmp .ne 7, 3) := by decide +kernel
theorem dX12_isSeen_61 : decode cX12_isSeen 61 = .ok (.iconst 1, 1) := by decide +kernel
theorem dX12_isSeen_62 : decode cX12_isSeen 62 = .ok (.goto 4, 3) := by decide +kernel
theorem dX12_isSeen_65 : decode cX12_isSeen 65 = .ok (.iconst 0, 1) := by decide +kernel
theorem dX12_isSeen_66 : decode cX12_isSeen 66 = .ok (.istore_n 3, 1) := by decide +kernel
theorem dX12_isSeen_67 : decode cX12_isSeen 67 = .ok (.iconst 0, 1) := by decide +kernel
theorem dX12_isSeen_68 : decode cX12_isSeen 68 = .ok (.istore 4, 2) := by decide +kernel
theorem dX12_isSeen_70 : decode cX12_isSeen 70 = .ok (.iload 4, 2) := by decide +kernel
theorem dX12_isSeen_72 : decode cX12_isSeen 72 = .ok (.aload_n 0, 1) := by decide +kernel
theorem dX12_isSeen_73 : decode cX12_isSeen 73 = .ok (.getfield 428, 3) := by decide +kernel
theorem dX12_isSeen_76 : decode cX12_isSeen 76 = .ok (.if_icmp .ge 46, 3) := by decide +kernel
theorem dX12_isSeen_79 : decode cX12_isSeen 79 = .ok (.iload_n 3, 1) := by decide +kernel
theorem dX12_isSeen_80 : decode cX12_isSeen 80 = .ok (.ifCond .eq 42, 3) := by decide +kernel
theorem dX12_isSeen_83 : decode cX12_isSeen 83 = .ok (.aload_n 0, 1) := by decide +kernel
theorem dX12_isSeen_84 : decode cX12_isSeen 84 = .ok (.getfield 59, 3) := by decide +kernel
theorem dX12_isSeen_87 : decode cX12_isSeen 87 = .ok (.aload_n 1, 1) := by decide +kernel
theorem dX12_isSeen_88 : decode cX12_isSeen 88 = .ok (.getfield 257, 3) := by decide +kernel
theorem dX12_isSeen_91 : decode cX12_isSeen 91 = .ok (.bipush 6, 2) := by decide +kernel
theorem dX12_isSeen_93 : decode cX12_isSeen 93 = .ok (.iload_n 2, 1) := by decide +kernel
theorem dX12_isSeen_94 : decode cX12_isSeen 94 = .ok (.imul, 1) := by decide +kernel
theorem dX12_isSeen_95 : decode cX12_isSeen 95 = .ok (.iload 4, 2) := by decide +kernel
theorem dX12_isSeen_97 : decode cX12_isSeen 97 = .ok (.iadd, 1) := by decide +kernel
theorem dX12_isSeen_98 : decode cX12_isSeen 98 = .ok (.iaload, 1) := by decide +kernel
theorem dX12_isSeen_99 : decode cX12_isSeen 99 = .ok (.iaload, 1) := by decide +kernel
theorem dX12_isSeen_100 : decode cX12_isSeen 100 = .ok (.aload_n 0, 1) := by decide +kernel
theorem dX12_isSeen_101 : decode cX12_isSeen 101 = .ok (.getfield 125, 3) := by decide +kernel
theorem dX12_isSeen_104 : decode cX12_isSeen 104 = .ok (.iload 4, 2) := by decide +kernel
theorem dX12_isSeen_106 : decode cX12_isSeen 106 = .ok (.iaload, 1) := by decide +kernel
theorem dX12_isSeen_107 : decode cX12_isSeen 107 = .ok (.if_icmp .ne 7, 3) := by decide +kernel
theorem dX12_isSeen_110 : decode cX12_isSeen 110 = .ok (.iconst 1, 1) := by decide +kernel
theorem dX12_isSeen_111 : decode cX12_isSeen 111 = .ok (.goto 4, 3) := by decide +kernel
theorem dX12_isSeen_114 : decode cX12_isSeen 114 = .ok (.iconst 0, 1) := by decide +kernel
theorem dX12_isSeen_115 : decode cX12_isSeen 115 = .ok (.istore_n 3, 1) := by decide +kernel
theorem dX12_isSeen_116 : decode cX12_isSeen 116 = .ok (.iinc 4 1, 3) := by decide +kernel
theorem dX12_isSeen_119 : decode cX12_isSeen 119 = .ok (.goto (-49), 3) := by decide +kernel
theorem dX12_isSeen_122 : decode cX12_isSeen 122 = .ok (.aload_n 0, 1) := by decide +kernel
theorem dX12_isSeen_123 : decode cX12_isSeen 123 = .ok (.aload_n 1, 1) := by decide +kernel
theorem dX12_isSeen_124 : decode cX12_isSeen 124 = .ok (.invokevirtual 354, 3) := by decide +kernel
theorem dX12_isSeen_127 : decode cX12_isSeen 127 = .ok (.istore 4, 2) := by decide +kernel
theorem dX12_isSeen_129 : decode cX12_isSeen 129 = .ok (.iconst 0, 1) := by decide +kernel
theorem dX12_isSeen_130 : decode cX12_isSeen 130 = .ok (.istore 5, 2) := by decide +kernel
theorem dX12_isSeen_132 : decode cX12_isSeen 132 = .ok (.iconst 0, 1) := by decide +kernel
theorem dX12_isSeen_133 : decode cX12_isSeen 133 = .ok (.istore 6, 2) := by decide +kernel
theorem dX12_isSeen_135 : decode cX12_isSeen 135 = .ok (.iload 6, 2) := by decide +kernel
theorem dX12_isSeen_137 : decode cX12_isSeen 137 = .ok (.aload_n 1, 1) := by decide +kernel
theorem dX12_isSeen_138 : decode cX12_isSeen 138 = .ok (.getfield 208, 3) := by decide +kernel
theorem dX12_isSeen_141 : decode cX12_isSeen 141 = .ok (.if_icmp .ge 58, 3) := by decide +kernel
theorem dX12_isSeen_144 : decode cX12_isSeen 144 = .ok (.iload_n 3, 1) := by decide +kernel
theorem dX12_isSeen_145 : decode cX12_isSeen 145 = .ok (.ifCond .eq 54, 3) := by decide +kernel
theorem dX12_isSeen_148 : decode cX12_isSeen 148 = .ok (.iload 4, 2) := by decide +kernel
theorem dX12_isSeen_150 : decode cX12_isSeen 150 = .ok (.iload 6, 2) := by decide +kernel
theorem dX12_isSeen_152 : decode cX12_isSeen 152 = .ok (.ishr, 1) := by decide +kernel
theorem dX12_isSeen_153 : decode cX12_isSeen 153 = .ok (.iconst 1, 1) := by decide +kernel
theorem dX12_isSeen_154 : decode cX12_isSeen 154 = .ok (.iand, 1) := by decide +kernel
theorem dX12_isSeen_155 : decode cX12_isSeen 155 = .ok (.ifCond .ne 6, 3) := by decide +kernel
theorem dX12_isSeen_158 : decode cX12_isSeen 158 = .ok (.goto 35, 3) := by decide +kernel
theorem dX12_isSeen_161 : decode cX12_isSeen 161 = .ok (.iinc 5 1, 3) := by decide +kernel
theorem dX12_isSeen_164 : decode cX12_isSeen 164 = .ok (.aload_n 0, 1) := by decide +kernel
theorem dX12_isSeen_165 : decode cX12_isSeen 165 = .ok (.getfield 128, 3) := by decide +kernel
theorem dX12_isSeen_168 : decode cX12_isSeen 168 = .ok (.iconst 0, 1) := by decide +kernel
theorem dX12_isSeen_169 : decode cX12_isSeen 169 = .ok (.aload_n 0, 1) := by decide +kernel
theorem dX12_isSeen_170 : decode cX12_isSeen 170 = .ok (.getfield 431, 3) := by decide +kernel
theorem dX12_isSeen_173 : decode cX12_isSeen 173 = .ok (.aload_n 1, 1) := by decide +kernel
theorem dX12_isSeen_174 : decode cX12_isSeen 174 = .ok (.getfield 264, 3) := by decide +kernel
theorem dX12_isSeen_177 : decode cX12_isSeen 177 = .ok (.iload 6, 2) := by decide +kernel
theorem dX12_isSeen_179 : decode cX12_isSeen 179 = .ok (.laload, 1) := by decide +kernel
theorem dX12_isSeen_180 : decode cX12_isSeen 180 = .ok (.invokestatic 201, 3) := by decide +kernel
theorem dX12_isSeen_183 : decode cX12_isSeen 183 = .ok (.iconst (-1), 1) := by decide +kernel
theorem dX12_isSeen_184 : decode cX12_isSeen 184 = .ok (.if_icmp .eq 7, 3) := by decide +kernel
theorem dX12_isSeen_187 : decode cX12_isSeen 187 = .ok (.iconst 1, 1) := by decide +kernel
theorem dX12_isSeen_188 : decode cX12_isSeen 188 = .ok (.goto 4, 3) := by decide +kernel
theorem dX12_isSeen_191 : decode cX12_isSeen 191 = .ok (.iconst 0, 1) := by decide +kernel
theorem dX12_isSeen_192 : decode cX12_isSeen 192 = .ok (.istore_n 3, 1) := by decide +kernel
theorem dX12_isSeen_193 : decode cX12_isSeen 193 = .ok (.iinc 6 1, 3) := by decide +kernel
theorem dX12_isSeen_196 : decode cX12_isSeen 196 = .ok (.goto (-61), 3) := by decide +kernel
theorem dX12_isSeen_199 : decode cX12_isSeen 199 = .ok (.iload_n 3, 1) := by decide +kernel
theorem dX12_isSeen_200 : decode cX12_isSeen 200 = .ok (.ifCond .eq 16, 3) := by decide +kernel
theorem dX12_isSeen_203 : decode cX12_isSeen 203 = .ok (.iload 5, 2) := by decide +kernel
theorem dX12_isSeen_205 : decode cX12_isSeen 205 = .ok (.aload_n 0, 1) := by decide +kernel
theorem dX12_isSeen_206 : decode cX12_isSeen 206 = .ok (.getfield 431, 3) := by decide +kernel
theorem dX12_isSeen_209 : decode cX12_isSeen 209 = .ok (.if_icmp .ne 7, 3) := by decide +kernel
theorem dX12_isSeen_212 : decode cX12_isSeen 212 = .ok (.iconst 1, 1) := by decide +kernel
theorem dX12_isSeen_213 : decode cX12_isSeen 213 = .ok (.goto 4, 3) := by decide +kernel
theorem dX12_isSeen_216 : decode cX12_isSeen 216 = .ok (.iconst 0, 1) := by decide +kernel
theorem dX12_isSeen_217 : decode cX12_isSeen 217 = .ok (.ireturn, 1) := by decide +kernel
theorem dX12_isAlike_0 : decode cX12_isAlike 0 = .ok (.aload_n 0, 1) := by decide +kernel
theorem dX12_isAlike_1 : decode cX12_isAlike 1 = .ok (.aload_n 0, 1) := by decide +kernel
theorem dX12_isAlike_2 : decode cX12_isAlike 2 = .ok (.getfield 107, 3) := by decide +kernel
theorem dX12_isAlike_5 : decode cX12_isAlike 5 = .ok (.iload_n 1, 1) := by decide +kernel
theorem dX12_isAlike_6 : decode cX12_isAlike 6 = .ok (.laload, 1) := by decide +kernel
theorem dX12_isAlike_7 : decode cX12_isAlike 7 = .ok (.aload_n 0, 1) := by decide +kernel
theorem dX12_isAlike_8 : decode cX12_isAlike 8 = .ok (.getfield 110, 3) := by decide +kernel
theorem dX12_isAlike_11 : decode cX12_isAlike 11 = .ok (.iload_n 1, 1) := by decide +kernel
theorem dX12_isAlike_12 : decode cX12_isAlike 12 = .ok (.laload, 1) := by decide +kernel
theorem dX12_isAlike_13 : decode cX12_isAlike 13 = .ok (.invokevirtual 377, 3) := by decide +kernel
theorem dX12_isAlike_16 : decode cX12_isAlike 16 = .ok (.aload_n 0, 1) := by decide +kernel
theorem dX12_isAlike_17 : decode cX12_isAlike 17 = .ok (.aload_n 0, 1) := by decide +kernel
theorem dX12_isAlike_18 : decode cX12_isAlike 18 = .ok (.getfield 21, 3) := by decide +kernel
theorem dX12_isAlike_21 : decode cX12_isAlike 21 = .ok (.iconst 0, 1) := by decide +kernel
theorem dX12_isAlike_22 : decode cX12_isAlike 22 = .ok (.aaload, 1) := by decide +kernel
theorem dX12_isAlike_23 : decode cX12_isAlike 23 = .ok (.invokevirtual 437, 3) := by decide +kernel
theorem dX12_isAlike_26 : decode cX12_isAlike 26 = .ok (.aload_n 0, 1) := by decide +kernel
theorem dX12_isAlike_27 : decode cX12_isAlike 27 = .ok (.aload_n 0, 1) := by decide +kernel
theorem dX12_isAlike_28 : decode cX12_isAlike 28 = .ok (.getfield 113, 3) := by decide +kernel
theorem dX12_isAlike_31 : decode cX12_isAlike 31 = .ok (.iload_n 1, 1) := by decide +kernel
theorem dX12_isAlike_32 : decode cX12_isAlike 32 = .ok (.laload, 1) := by decide +kernel
theorem dX12_isAlike_33 : decode cX12_isAlike 33 = .ok (.aload_n 0, 1) := by decide +kernel
theorem dX12_isAlike_34 : decode cX12_isAlike 34 = .ok (.getfield 116, 3) := by decide +kernel
theorem dX12_isAlike_37 : decode cX12_isAlike 37 = .ok (.iload_n 1, 1) := by decide +kernel
theorem dX12_isAlike_38 : decode cX12_isAlike 38 = .ok (.laload, 1) := by decide +kernel
theorem dX12_isAlike_39 : decode cX12_isAlike 39 = .ok (.invokevirtual 377, 3) := by decide +kernel
theorem dX12_isAlike_42 : decode cX12_isAlike 42 = .ok (.aload_n 0, 1) := by decide +kernel
theorem dX12_isAlike_43 : decode cX12_isAlike 43 = .ok (.aload_n 0, 1) := by decide +kernel
theorem dX12_isAlike_44 : decode cX12_isAlike 44 = .ok (.getfield 21, 3) := by decide +kernel
theorem dX12_isAlike_47 : decode cX12_isAlike 47 = .ok (.iconst 1, 1) := by decide +kernel
theorem dX12_isAlike_48 : decode cX12_isAlike 48 = .ok (.aaload, 1) := by decide +kernel
theorem dX12_isAlike_49 : decode cX12_isAlike 49 = .ok (.invokevirtual 440, 3) := by decide +kernel
theorem dX12_isAlike_52 : decode cX12_isAlike 52 = .ok (.ireturn, 1) := by decide +kernel
theorem dX12_rowOf_0 : decode cX12_rowOf 0 = .ok (.iconst 0, 1) := by decide +kernel
theorem dX12_rowOf_1 : decode cX12_rowOf 1 = .ok (.istore_n 3, 1) := by decide +kernel
theorem dX12_rowOf_2 : decode cX12_rowOf 2 = .ok (.iload_n 1, 1) := by decide +kernel
theorem dX12_rowOf_3 : decode cX12_rowOf 3 = .ok (.istore 4, 2) := by decide +kernel
theorem dX12_rowOf_5 : decode cX12_rowOf 5 = .ok (.aload_n 0, 1) := by decide +kernel
theorem dX12_rowOf_6 : decode cX12_rowOf 6 = .ok (.getfield 119, 3) := by decide +kernel
theorem dX12_rowOf_9 : decode cX12_rowOf 9 = .ok (.iload 4, 2) := by decide +kernel
theorem dX12_rowOf_11 : decode cX12_rowOf 11 = .ok (.iaload, 1) := by decide +kernel
theorem dX12_rowOf_12 : decode cX12_rowOf 12 = .ok (.iconst (-1), 1) := by decide +kernel
theorem dX12_rowOf_13 : decode cX12_rowOf 13 = .ok (.if_icmp .eq 18, 3) := by decide +kernel
theorem dX12_rowOf_16 : decode cX12_rowOf 16 = .ok (.iinc 3 1, 3) := by decide +kernel
theorem dX12_rowOf_19 : decode cX12_rowOf 19 = .ok (.aload_n 0, 1) := by decide +kernel
theorem dX12_rowOf_20 : decode cX12_rowOf 20 = .ok (.getfield 119, 3) := by decide +kernel
theorem dX12_rowOf_23 : decode cX12_rowOf 23 = .ok (.iload 4, 2) := by decide +kernel
theorem dX12_rowOf_25 : decode cX12_rowOf 25 = .ok (.iaload, 1) := by decide +kernel
theorem dX12_rowOf_26 : decode cX12_rowOf 26 = .ok (.istore 4, 2) := by decide +kernel
theorem dX12_rowOf_28 : decode cX12_rowOf 28 = .ok (.goto (-23), 3) := by decide +kernel
theorem dX12_rowOf_31 : decode cX12_rowOf 31 = .ok (.aload_n 0, 1) := by decide +kernel
theorem dX12_rowOf_32 : decode cX12_rowOf 32 = .ok (.iload_n 3, 1) := by decide +kernel
theorem dX12_rowOf_33 : decode cX12_rowOf 33 = .ok (.putfield 415, 3) := by decide +kernel
theorem dX12_rowOf_36 : decode cX12_rowOf 36 = .ok (.iload_n 1, 1) := by decide +kernel
theorem dX12_rowOf_37 : decode cX12_rowOf 37 = .ok (.istore 4, 2) := by decide +kernel
theorem dX12_rowOf_39 : decode cX12_rowOf 39 = .ok (.aload_n 0, 1) := by decide +kernel
theorem dX12_rowOf_40 : decode cX12_rowOf 40 = .ok (.getfield 119, 3) := by decide +kernel
theorem dX12_rowOf_43 : decode cX12_rowOf 43 = .ok (.iload 4, 2) := by decide +kernel
theorem dX12_rowOf_45 : decode cX12_rowOf 45 = .ok (.iaload, 1) := by decide +kernel
theorem dX12_rowOf_46 : decode cX12_rowOf 46 = .ok (.iconst (-1), 1) := by decide +kernel
theorem dX12_rowOf_47 : decode cX12_rowOf 47 = .ok (.if_icmp .eq 31, 3) := by decide +kernel
theorem dX12_rowOf_50 : decode cX12_rowOf 50 = .ok (.iinc 3 (-1), 3) := by decide +kernel
theorem dX12_rowOf_53 : decode cX12_rowOf 53 = .ok (.aload_n 0, 1) := by decide +kernel
theorem dX12_rowOf_54 : decode cX12_rowOf 54 = .ok (.getfield 101, 3) := by decide +kernel
theorem dX12_rowOf_57 : decode cX12_rowOf 57 = .ok (.iload_n 3, 1) := by decide +kernel
theorem dX12_rowOf_58 : decode cX12_rowOf 58 = .ok (.aload_n 0, 1) := by decide +kernel
theorem dX12_rowOf_59 : decode cX12_rowOf 59 = .ok (.getfield 122, 3) := by decide +kernel
theorem dX12_rowOf_62 : decode cX12_rowOf 62 = .ok (.iload 4, 2) := by decide +kernel
theorem dX12_rowOf_64 : decode cX12_rowOf 64 = .ok (.iaload, 1) := by decide +kernel
theorem dX12_rowOf_65 : decode cX12_rowOf 65 = .ok (.iastore, 1) := by decide +kernel
theorem dX12_rowOf_66 : decode cX12_rowOf 66 = .ok (.aload_n 0, 1) := by decide +kernel
theorem dX12_rowOf_67 : decode cX12_rowOf 67 = .ok (.getfield 119, 3) := by decide +kernel
theorem dX12_rowOf_70 : decode cX12_rowOf 70 = .ok (.iload 4, 2) := by decide +kernel
theorem dX12_rowOf_72 : decode cX12_rowOf 72 = .ok (.iaload, 1) := by decide +kernel
theorem dX12_rowOf_73 : decode cX12_rowOf 73 = .ok (.istore 4, 2) := by decide +kernel
theorem dX12_rowOf_75 : decode cX12_rowOf 75 = .ok (.goto (-36), 3) := by decide +kernel
theorem dX12_rowOf_78 : decode cX12_rowOf 78 = .ok (.iload_n 2, 1) := by decide +kernel
theorem dX12_rowOf_79 : decode cX12_rowOf 79 = .ok (.iconst (-1), 1) := by decide +kernel
theorem dX12_rowOf_80 : decode cX12_rowOf 80 = .ok (.if_icmp .ne 12, 3) := by decide +kernel
theorem dX12_rowOf_83 : decode cX12_rowOf 83 = .ok (.aload_n 0, 1) := by decide +kernel
theorem dX12_rowOf_84 : decode cX12_rowOf 84 = .ok (.aload_n 0, 1) := by decide +kernel
theorem dX12_rowOf_85 : decode cX12_rowOf 85 = .ok (.getfield 415, 3) := by decide +kernel
theorem dX12_rowOf_88 : decode cX12_rowOf 88 = .ok (.invokevirtual 337, 3) := by decide +kernel
theorem dX12_rowOf_91 : decode cX12_rowOf 91 = .ok (.ireturn, 1) := by decide +kernel
theorem dX12_rowOf_92 : decode cX12_rowOf 92 = .ok (.aload_n 0, 1) := by decide +kernel
theorem dX12_rowOf_93 : decode cX12_rowOf 93 = .ok (.getfield 101, 3) := by decide +kernel
theorem dX12_rowOf_96 : decode cX12_rowOf 96 = .ok (.aload_n 0, 1) := by decide +kernel
theorem dX12_rowOf_97 : decode cX12_rowOf 97 = .ok (.getfield 415, 3) := by decide +kernel
theorem dX12_rowOf_100 : decode cX12_rowOf 100 = .ok (.iload_n 2, 1) := by decide +kernel
theorem dX12_rowOf_101 : decode cX12_rowOf 101 = .ok (.iastore, 1) := by decide +kernel
theorem dX12_rowOf_102 : decode cX12_rowOf 102 = .ok (.aload_n 0, 1) := by decide +kernel
theorem dX12_rowOf_103 : decode cX12_rowOf 103 = .ok (.dup, 1) := by decide +kernel
theorem dX12_rowOf_104 : decode cX12_rowOf 104 = .ok (.getfield 415, 3) := by decide +kernel
theorem dX12_rowOf_107 : decode cX12_rowOf 107 = .ok (.iconst 1, 1) := by decide +kernel
theorem dX12_rowOf_108 : decode cX12_rowOf 108 = .ok (.iadd, 1) := by decide +kernel
theorem dX12_rowOf_109 : decode cX12_rowOf 109 = .ok (.putfield 415, 3) := by decide +kernel
theorem dX12_rowOf_112 : decode cX12_rowOf 112 = .ok (.aload_n 0, 1) := by decide +kernel
theorem dX12_rowOf_113 : decode cX12_rowOf 113 = .ok (.aload_n 0, 1) := by decide +kernel
theorem dX12_rowOf_114 : decode cX12_rowOf 114 = .ok (.getfield 415, 3) := by decide +kernel
theorem dX12_rowOf_117 : decode cX12_rowOf 117 = .ok (.invokevirtual 337, 3) := by decide +kernel
theorem dX12_rowOf_120 : decode cX12_rowOf 120 = .ok (.ireturn, 1) := by decide +kernel
theorem dX12_apart_0 : decode cX12_apart 0 = .ok (.aload_n 0, 1) := by decide +kernel
theorem dX12_apart_1 : decode cX12_apart 1 = .ok (.iconst 0, 1) := by decide +kernel
theorem dX12_apart_2 : decode cX12_apart 2 = .ok (.putfield 1, 3) := by decide +kernel
theorem dX12_apart_5 : decode cX12_apart 5 = .ok (.aload_n 0, 1) := by decide +kernel
theorem dX12_apart_6 : decode cX12_apart 6 = .ok (.getfield 30, 3) := by decide +kernel
theorem dX12_apart_9 : decode cX12_apart 9 = .ok (.iconst 0, 1) := by decide +kernel
theorem dX12_apart_10 : decode cX12_apart 10 = .ok (.baload, 1) := by decide +kernel
theorem dX12_apart_11 : decode cX12_apart 11 = .ok (.ifCond .eq 12, 3) := by decide +kernel
theorem dX12_apart_14 : decode cX12_apart 14 = .ok (.aload_n 0, 1) := by decide +kernel
theorem dX12_apart_15 : decode cX12_apart 15 = .ok (.getfield 30, 3) := by decide +kernel
theorem dX12_apart_18 : decode cX12_apart 18 = .ok (.iconst 1, 1) := by decide +kernel
theorem dX12_apart_19 : decode cX12_apart 19 = .ok (.baload, 1) := by decide +kernel
theorem dX12_apart_20 : decode cX12_apart 20 = .ok (.ifCond .ne 9, 3) := by decide +kernel
theorem dX12_apart_23 : decode cX12_apart 23 = .ok (.aload_n 0, 1) := by decide +kernel
theorem dX12_apart_24 : decode cX12_apart 24 = .ok (.iconst 1, 1) := by decide +kernel
theorem dX12_apart_25 : decode cX12_apart 25 = .ok (.invokevirtual 316, 3) := by decide +kernel
theorem dX12_apart_28 : decode cX12_apart 28 = .ok (.ireturn, 1) := by decide +kernel
theorem dX12_apart_29 : decode cX12_apart 29 = .ok (.aload_n 0, 1) := by decide +kernel
theorem dX12_apart_30 : decode cX12_apart 30 = .ok (.getfield 21, 3) := by decide +kernel
theorem dX12_apart_33 : decode cX12_apart 33 = .ok (.iconst 0, 1) := by decide +kernel
theorem dX12_apart_34 : decode cX12_apart 34 = .ok (.aaload, 1) := by decide +kernel
theorem dX12_apart_35 : decode cX12_apart 35 = .ok (.astore_n 1, 1) := by decide +kernel
theorem dX12_apart_36 : decode cX12_apart 36 = .ok (.aload_n 0, 1) := by decide +kernel
theorem dX12_apart_37 : decode cX12_apart 37 = .ok (.getfield 21, 3) := by decide +kernel
theorem dX12_apart_40 : decode cX12_apart 40 = .ok (.iconst 1, 1) := by decide +kernel
theorem dX12_apart_41 : decode cX12_apart 41 = .ok (.aaload, 1) := by decide +kernel
theorem dX12_apart_42 : decode cX12_apart 42 = .ok (.astore_n 2, 1) := by decide +kernel
theorem dX12_apart_43 : decode cX12_apart 43 = .ok (.aload_n 0, 1) := by decide +kernel
theorem dX12_apart_44 : decode cX12_apart 44 = .ok (.invokevirtual 324, 3) := by decide +kernel
theorem dX12_apart_47 : decode cX12_apart 47 = .ok (.aload_n 0, 1) := by decide +kernel
theorem dX12_apart_48 : decode cX12_apart 48 = .ok (.getfield 107, 3) := by decide +kernel
theorem dX12_apart_51 : decode cX12_apart 51 = .ok (.iconst 0, 1) := by decide +kernel
theorem dX12_apart_52 : decode cX12_apart 52 = .ok (.aload_n 0, 1) := by decide +kernel
theorem dX12_apart_53 : decode cX12_apart 53 = .ok (.invokevirtual 327, 3) := by decide +kernel
theorem dX12_apart_56 : decode cX12_apart 56 = .ok (.lastore, 1) := by decide +kernel
theorem dX12_apart_57 : decode cX12_apart 57 = .ok (.aload_n 0, 1) := by decide +kernel
theorem dX12_apart_58 : decode cX12_apart 58 = .ok (.getfield 110, 3) := by decide +kernel
theorem dX12_apart_61 : decode cX12_apart 61 = .ok (.iconst 0, 1) := by decide +kernel
theorem dX12_apart_62 : decode cX12_apart 62 = .ok (.aload_n 0, 1) := by decide +kernel
theorem dX12_apart_63 : decode cX12_apart 63 = .ok (.invokevirtual 331, 3) := by decide +kernel
theorem dX12_apart_66 : decode cX12_apart 66 = .ok (.lastore, 1) := by decide +kernel
theorem dX12_apart_67 : decode cX12_apart 67 = .ok (.aload_n 0, 1) := by decide +kernel
theorem dX12_apart_68 : decode cX12_apart 68 = .ok (.getfield 113, 3) := by decide +kernel
theorem dX12_apart_71 : decode cX12_apart 71 = .ok (.iconst 0, 1) := by decide +kernel
theorem dX12_apart_72 : decode cX12_apart 72 = .ok (.aload_n 0, 1) := by decide +kernel
theorem dX12_apart_73 : decode cX12_apart 73 = .ok (.invokevirtual 327, 3) := by decide +kernel
theorem dX12_apart_76 : decode cX12_apart 76 = .ok (.lastore, 1) := by decide +kernel
theorem dX12_apart_77 : decode cX12_apart 77 = .ok (.aload_n 0, 1) := by decide +kernel
theorem dX12_apart_78 : decode cX12_apart 78 = .ok (.getfield 116, 3) := by decide +kernel
theorem dX12_apart_81 : decode cX12_apart 81 = .ok (.iconst 0, 1) := by decide +kernel
theorem dX12_apart_82 : decode cX12_apart 82 = .ok (.aload_n 0, 1) := by decide +kernel
theorem dX12_apart_83 : decode cX12_apart 83 = .ok (.invokevirtual 331, 3) := by decide +kernel
theorem dX12_apart_86 : decode cX12_apart 86 = .ok (.lastore, 1) := by decide +kernel
theorem dX12_apart_87 : decode cX12_apart 87 = .ok (.aload_n 0, 1) := by decide +kernel
theorem dX12_apart_88 : decode cX12_apart 88 = .ok (.getfield 119, 3) := by decide +kernel
theorem dX12_apart_91 : decode cX12_apart 91 = .ok (.iconst 0, 1) := by decide +kernel
theorem dX12_apart_92 : decode cX12_apart 92 = .ok (.iconst (-1), 1) := by decide +kernel
theorem dX12_apart_93 : decode cX12_apart 93 = .ok (.iastore, 1) := by decide +kernel
theorem dX12_apart_94 : decode cX12_apart 94 = .ok (.aload_n 0, 1) := by decide +kernel
theorem dX12_apart_95 : decode cX12_apart 95 = .ok (.iconst 1, 1) := by decide +kernel
theorem dX12_apart_96 : decode cX12_apart 96 = .ok (.putfield 444, 3) := by decide +kernel
theorem dX12_apart_99 : decode cX12_apart 99 = .ok (.aload_n 0, 1) := by decide +kernel
theorem dX12_apart_100 : decode cX12_apart 100 = .ok (.iconst 0, 1) := by decide +kernel
theorem dX12_apart_101 : decode cX12_apart 101 = .ok (.invokevirtual 447, 3) := by decide +kernel
theorem dX12_apart_104 : decode cX12_apart 104 = .ok (.ifCond .ne 10, 3) := by decide +kernel
theorem dX12_apart_107 : decode cX12_apart 107 = .ok (.aload_n 0, 1) := by decide +kernel
theorem dX12_apart_108 : decode cX12_apart 108 = .ok (.iconst 0, 1) := by decide +kernel
theorem dX12_apart_109 : decode cX12_apart 109 = .ok (.iconst (-1), 1) := by decide +kernel
theorem dX12_apart_110 : decode cX12_apart 110 = .ok (.invokevirtual 450, 3) := by decide +kernel
theorem dX12_apart_113 : decode cX12_apart 113 = .ok (.ireturn, 1) := by decide +kernel
theorem dX12_apart_114 : decode cX12_apart 114 = .ok (.iconst 0, 1) := by decide +kernel
theorem dX12_apart_115 : decode cX12_apart 115 = .ok (.istore_n 3, 1) := by decide +kernel
theorem dX12_apart_116 : decode cX12_apart 116 = .ok (.iload_n 3, 1) := by decide +kernel
theorem dX12_apart_117 : decode cX12_apart 117 = .ok (.aload_n 0, 1) := by decide +kernel
theorem dX12_apart_118 : decode cX12_apart 118 = .ok (.getfield 444, 3) := by decide +kernel
theorem dX12_apart_121 : decode cX12_apart 121 = .ok (.if_icmp .ge 411, 3) := by decide +kernel
theorem dX12_apart_124 : decode cX12_apart 124 = .ok (.aload_n 0, 1) := by decide +kernel
theorem dX12_apart_125 : decode cX12_apart 125 = .ok (.aload_n 0, 1) := by decide +kernel
theorem dX12_apart_126 : decode cX12_apart 126 = .ok (.getfield 107, 3) := by decide +kernel
theorem dX12_apart_129 : decode cX12_apart 129 = .ok (.iload_n 3, 1) := by decide +kernel
theorem dX12_apart_130 : decode cX12_apart 130 = .ok (.laload, 1) := by decide +kernel
theorem dX12_apart_131 : decode cX12_apart 131 = .ok (.aload_n 0, 1) := by decide +kernel
theorem dX12_apart_132 : decode cX12_apart 132 = .ok (.getfield 110, 3) := by decide +kernel
theorem dX12_apart_135 : decode cX12_apart 135 = .ok (.iload_n 3, 1) := by decide +kernel
theorem dX12_apart_136 : decode cX12_apart 136 = .ok (.laload, 1) := by decide +kernel
theorem dX12_apart_137 : decode cX12_apart 137 = .ok (.invokevirtual 377, 3) := by decide +kernel
theorem dX12_apart_140 : decode cX12_apart 140 = .ok (.aload_n 0, 1) := by decide +kernel
theorem dX12_apart_141 : decode cX12_apart 141 = .ok (.aload_n 1, 1) := by decide +kernel
theorem dX12_apart_142 : decode cX12_apart 142 = .ok (.invokevirtual 381, 3) := by decide +kernel
theorem dX12_apart_145 : decode cX12_apart 145 = .ok (.istore 4, 2) := by decide +kernel
theorem dX12_apart_147 : decode cX12_apart 147 = .ok (.aload_n 0, 1) := by decide +kernel
theorem dX12_apart_148 : decode cX12_apart 148 = .ok (.aload_n 0, 1) := by decide +kernel
theorem dX12_apart_149 : decode cX12_apart 149 = .ok (.getfield 113, 3) := by decide +kernel
theorem dX12_apart_152 : decode cX12_apart 152 = .ok (.iload_n 3, 1) := by decide +kernel
theorem dX12_apart_153 : decode cX12_apart 153 = .ok (.laload, 1) := by decide +kernel
theorem dX12_apart_154 : decode cX12_apart 154 = .ok (.aload_n 0, 1) := by decide +kernel
theorem dX12_apart_155 : decode cX12_apart 155 = .ok (.getfield 116, 3) := by decide +kernel
theorem dX12_apart_158 : decode cX12_apart 158 = .ok (.iload_n 3, 1) := by decide +kernel
theorem dX12_apart_159 : decode cX12_apart 159 = .ok (.laload, 1) := by decide +kernel
theorem dX12_apart_160 : decode cX12_apart 160 = .ok (.invokevirtual 377, 3) := by decide +kernel
theorem dX12_apart_163 : decode cX12_apart 163 = .ok (.aload_n 0, 1) := by decide +kernel
theorem dX12_apart_164 : decode cX12_apart 164 = .ok (.aload_n 2, 1) := by decide +kernel
theorem dX12_apart_165 : decode cX12_apart 165 = .ok (.invokevirtual 381, 3) := by decide +kernel
theorem dX12_apart_168 : decode cX12_apart 168 = .ok (.istore 5, 2) := by decide +kernel
theorem dX12_apart_170 : decode cX12_apart 170 = .ok (.iconst 0, 1) := by decide +kernel
theorem dX12_apart_171 : decode cX12_apart 171 = .ok (.istore 6, 2) := by decide +kernel
theorem dX12_apart_173 : decode cX12_apart 173 = .ok (.iconst 0, 1) := by decide +kernel
theorem dX12_apart_174 : decode cX12_apart 174 = .ok (.istore 7, 2) := by decide +kernel
theorem dX12_apart_176 : decode cX12_apart 176 = .ok (.iload 7, 2) := by decide +kernel
theorem dX12_apart_178 : decode cX12_apart 178 = .ok (.bipush 27, 2) := by decide +kernel
theorem dX12_apart_180 : decode cX12_apart 180 = .ok (.if_icmp .ge 299, 3) := by decide +kernel
theorem dX12_apart_183 : decode cX12_apart 183 = .ok (.iload 4, 2) := by decide +kernel
theorem dX12_apart_185 : decode cX12_apart 185 = .ok (.iload 7, 2) := by decide +kernel
theorem dX12_apart_187 : decode cX12_apart 187 = .ok (.ishr, 1) := by decide +kernel
theorem dX12_apart_188 : decode cX12_apart 188 = .ok (.iconst 1, 1) := by decide +kernel
theorem dX12_apart_189 : decode cX12_apart 189 = .ok (.iand, 1) := by decide +kernel
theorem dX12_apart_190 : decode cX12_apart 190 = .ok (.ifCond .ne 6, 3) := by decide +kernel
theorem dX12_apart_193 : decode cX12_apart 193 = .ok (.goto 280, 3) := by decide +kernel
theorem dX12_apart_196 : decode cX12_apart 196 = .ok (.aload_n 0, 1) := by decide +kernel
theorem dX12_apart_197 : decode cX12_apart 197 = .ok (.aload_n 0, 1) := by decide +kernel
theorem dX12_apart_198 : decode cX12_apart 198 = .ok (.getfield 113, 3) := by decide +kernel
theorem dX12_apart_201 : decode cX12_apart 201 = .ok (.iload_n 3, 1) := by decide +kernel
theorem dX12_apart_202 : decode cX12_apart 202 = .ok (.laload, 1) := by decide +kernel
theorem dX12_apart_203 : decode cX12_apart 203 = .ok (.aload_n 0, 1) := by decide +kernel
theorem dX12_apart_204 : decode cX12_apart 204 = .ok (.getfield 116, 3) := by decide +kernel
theorem dX12_apart_207 : decode cX12_apart 207 = .ok (.iload_n 3, 1) := by decide +kernel
theorem dX12_apart_208 : decode cX12_apart 208 = .ok (.laload, 1) := by decide +kernel
theorem dX12_apart_209 : decode cX12_apart 209 = .ok (.invokevirtual 377, 3) := by decide +kernel
theorem dX12_apart_212 : decode cX12_apart 212 = .ok (.aload_n 0, 1) := by decide +kernel
theorem dX12_apart_213 : decode cX12_apart 213 = .ok (.aload_n 1, 1) := by decide +kernel
theorem dX12_apart_214 : decode cX12_apart 214 = .ok (.aload_n 2, 1) := by decide +kernel
theorem dX12_apart_215 : decode cX12_apart 215 = .ok (.iload 7, 2) := by decide +kernel
theorem dX12_apart_217 : decode cX12_apart 217 = .ok (.invokevirtual 453, 3) := by decide +kernel
theorem dX12_apart_220 : decode cX12_apart 220 = .ok (.istore 8, 2) := by decide +kernel
theorem dX12_apart_222 : decode cX12_apart 222 = .ok (.iload 8, 2) := by decide +kernel
theorem dX12_apart_224 : decode cX12_apart 224 = .ok (.iconst (-1), 1) := by decide +kernel
theorem dX12_apart_225 : decode cX12_apart 225 = .ok (.if_icmp .ne 11, 3) := by decide +kernel
theorem dX12_apart_228 : decode cX12_apart 228 = .ok (.aload_n 0, 1) := by decide +kernel
theorem dX12_apart_229 : decode cX12_apart 229 = .ok (.iload_n 3, 1) := by decide +kernel
theorem dX12_apart_230 : decode cX12_apart 230 = .ok (.iload 7, 2) := by decide +kernel
theorem dX12_apart_232 : decode cX12_apart 232 = .ok (.invokevirtual 450, 3) := by decide +kernel
theorem dX12_apart_235 : decode cX12_apart 235 = .ok (.ireturn, 1) := by decide +kernel
theorem dX12_apart_236 : decode cX12_apart 236 = .ok (.iload 6, 2) := by decide +kernel
theorem dX12_apart_238 : decode cX12_apart 238 = .ok (.iconst 1, 1) := by decide +kernel
theorem dX12_apart_239 : decode cX12_apart 239 = .ok (.iload 8, 2) := by decide +kernel
theorem dX12_apart_241 : decode cX12_apart 241 = .ok (.ishl, 1) := by decide +kernel
theorem dX12_apart_242 : decode cX12_apart 242 = .ok (.ior, 1) := by decide +kernel
theorem dX12_apart_243 : decode cX12_apart 243 = .ok (.istore 6, 2) := by decide +kernel
theorem dX12_apart_245 : decode cX12_apart 245 = .ok (.aload_n 0, 1) := by decide +kernel
theorem dX12_apart_246 : decode cX12_apart 246 = .ok (.aload_n 2, 1) := by decide +kernel
theorem dX12_apart_247 : decode cX12_apart 247 = .ok (.iload 8, 2) := by decide +kernel
theorem dX12_apart_249 : decode cX12_apart 249 = .ok (.invokevirtual 384, 3) := by decide +kernel
theorem dX12_apart_252 : decode cX12_apart 252 = .ok (.aload_n 0, 1) := by decide +kernel
theorem dX12_apart_253 : decode cX12_apart 253 = .ok (.invokevirtual 327, 3) := by decide +kernel
theorem dX12_apart_256 : decode cX12_apart 256 = .ok (.lstore 9, 2) := by decide +kernel
theorem dX12_apart_258 : decode cX12_apart 258 = .ok (.aload_n 0, 1) := by decide +kernel
theorem dX12_apart_259 : decode cX12_apart 259 = .ok (.invokevirtual 331, 3) := by decide +kernel
theorem dX12_apart_262 : decode cX12_apart 262 = .ok (.lstore 11, 2) := by decide +kernel
theorem dX12_apart_264 : decode cX12_apart 264 = .ok (.aload_n 0, 1) := by decide +kernel
theorem dX12_apart_265 : decode cX12_apart 265 = .ok (.aload_n 0, 1) := by decide +kernel
theorem dX12_apart_266 : decode cX12_apart 266 = .ok (.getfield 107, 3) := by decide +kernel
theorem dX12_apart_269 : decode cX12_apart 269 = .ok (.iload_n 3, 1) := by decide +kernel
theorem dX12_apart_270 : decode cX12_apart 270 = .ok (.laload, 1) := by decide +kernel
theorem dX12_apart_271 : decode cX12_apart 271 = .ok (.aload_n 0, 1) := by decide +kernel
theorem dX12_apart_272 : decode cX12_apart 272 = .ok (.getfield 110, 3) := by decide +kernel
theorem dX12_apart_275 : decode cX12_apart 275 = .ok (.iload_n 3, 1) := by decide +kernel
theorem dX12_apart_276 : decode cX12_apart 276 = .ok (.laload, 1) := by decide +kernel
theorem dX12_apart_277 : decode cX12_apart 277 = .ok (.invokevirtual 377, 3) := by decide +kernel
theorem dX12_apart_280 : decode cX12_apart 280 = .ok (.aload_n 0, 1) := by decide +kernel
theorem dX12_apart_281 : decode cX12_apart 281 = .ok (.aload_n 1, 1) := by decide +kernel
theorem dX12_apart_282 : decode cX12_apart 282 = .ok (.iload 7, 2) := by decide +kernel
theorem dX12_apart_284 : decode cX12_apart 284 = .ok (.invokevirtual 384, 3) := by decide +kernel
theorem dX12_apart_287 : decode cX12_apart 287 = .ok (.iconst 0, 1) := by decide +kernel
theorem dX12_apart_288 : decode cX12_apart 288 = .ok (.istore 13, 2) := by decide +kernel
theorem dX12_apart_290 : decode cX12_apart 290 = .ok (.iload 13, 2) := by decide +kernel
theorem dX12_apart_292 : decode cX12_apart 292 = .ok (.aload_n 0, 1) := by decide +kernel
theorem dX12_apart_293 : decode cX12_apart 293 = .ok (.getfield 444, 3) := by decide +kernel
theorem dX12_apart_296 : decode cX12_apart 296 = .ok (.if_icmp .ge 65, 3) := by decide +kernel
theorem dX12_apart_299 : decode cX12_apart 299 = .ok (.aload_n 0, 1) := by decide +kernel
theorem dX12_apart_300 : decode cX12_apart 300 = .ok (.getfield 107, 3) := by decide +kernel
theorem dX12_apart_303 : decode cX12_apart 303 = .ok (.iload 13, 2) := by decide +kernel
theorem dX12_apart_305 : decode cX12_apart 305 = .ok (.laload, 1) := by decide +kernel
theorem dX12_apart_306 : decode cX12_apart 306 = .ok (.aload_n 0, 1) := by decide +kernel
theorem dX12_apart_307 : decode cX12_apart 307 = .ok (.invokevirtual 327, 3) := by decide +kernel
theorem dX12_apart_310 : decode cX12_apart 310 = .ok (.lcmp, 1) := by decide +kernel
theorem dX12_apart_311 : decode cX12_apart 311 = .ok (.ifCond .ne 44, 3) := by decide +kernel
theorem dX12_apart_314 : decode cX12_apart 314 = .ok (.aload_n 0, 1) := by decide +kernel
theorem dX12_apart_315 : decode cX12_apart 315 = .ok (.getfield 110, 3) := by decide +kernel
theorem dX12_apart_318 : decode cX12_apart 318 = .ok (.iload 13, 2) := by decide +kernel
theorem dX12_apart_320 : decode cX12_apart 320 = .ok (.laload, 1) := by decide +kernel
theorem dX12_apart_321 : decode cX12_apart 321 = .ok (.aload_n 0, 1) := by decide +kernel
theorem dX12_apart_322 : decode cX12_apart 322 = .ok (.invokevirtual 331, 3) := by decide +kernel
theorem dX12_apart_325 : decode cX12_apart 325 = .ok (.lcmp, 1) := by decide +kernel
theorem dX12_apart_326 : decode cX12_apart 326 = .ok (.ifCond .ne 29, 3) := by decide +kernel
theorem dX12_apart_329 : decode cX12_apart 329 = .ok (.aload_n 0, 1) := by decide +kernel
theorem dX12_apart_330 : decode cX12_apart 330 = .ok (.getfield 113, 3) := by decide +kernel
theorem dX12_apart_333 : decode cX12_apart 333 = .ok (.iload 13, 2) := by decide +kernel
theorem dX12_apart_335 : decode cX12_apart 335 = .ok (.laload, 1) := by decide +kernel
theorem dX12_apart_336 : decode cX12_apart 336 = .ok (.lload 9, 2) := by decide +kernel
theorem dX12_apart_338 : decode cX12_apart 338 = .ok (.lcmp, 1) := by decide +kernel
theorem dX12_apart_339 : decode cX12_apart 339 = .ok (.ifCond .ne 16, 3) := by decide +kernel
theorem dX12_apart_342 : decode cX12_apart 342 = .ok (.aload_n 0, 1) := by decide +kernel
theorem dX12_apart_343 : decode cX12_apart 343 = .ok (.getfield 116, 3) := by decide +kernel
theorem dX12_apart_346 : decode cX12_apart 346 = .ok (.iload 13, 2) := by decide +kernel
theorem dX12_apart_348 : decode cX12_apart 348 = .ok (.laload, 1) := by decide +kernel
theorem dX12_apart_349 : decode cX12_apart 349 = .ok (.lload 11, 2) := by decide +kernel
theorem dX12_apart_351 : decode cX12_apart 351 = .ok (.lcmp, 1) := by decide +kernel
theorem dX12_apart_352 : decode cX12_apart 352 = .ok (.ifCond .eq 9, 3) := by decide +kernel
theorem dX12_apart_355 : decode cX12_apart 355 = .ok (.iinc 13 1, 3) := by decide +kernel
theorem dX12_apart_358 : decode cX12_apart 358 = .ok (.goto (-68), 3) := by decide +kernel
theorem dX12_apart_361 : decode cX12_apart 361 = .ok (.iload 13, 2) := by decide +kernel
theorem dX12_apart_363 : decode cX12_apart 363 = .ok (.aload_n 0, 1) := by decide +kernel
theorem dX12_apart_364 : decode cX12_apart 364 = .ok (.getfield 444, 3) := by decide +kernel
theorem dX12_apart_367 : decode cX12_apart 367 = .ok (.if_icmp .ge 6, 3) := by decide +kernel
theorem dX12_apart_370 : decode cX12_apart 370 = .ok (.goto 103, 3) := by decide +kernel
theorem dX12_apart_373 : decode cX12_apart 373 = .ok (.aload_n 0, 1) := by decide +kernel
theorem dX12_apart_374 : decode cX12_apart 374 = .ok (.getfield 444, 3) := by decide +kernel
theorem dX12_apart_377 : decode cX12_apart 377 = .ok (.sipush 400, 3) := by decide +kernel
theorem dX12_apart_380 : decode cX12_apart 380 = .ok (.if_icmp .ne 9, 3) := by decide +kernel
theorem dX12_apart_383 : decode cX12_apart 383 = .ok (.aload_n 0, 1) := by decide +kernel
theorem dX12_apart_384 : decode cX12_apart 384 = .ok (.iconst 5, 1) := by decide +kernel
theorem dX12_apart_385 : decode cX12_apart 385 = .ok (.invokevirtual 316, 3) := by decide +kernel
theorem dX12_apart_388 : decode cX12_apart 388 = .ok (.ireturn, 1) := by decide +kernel
theorem dX12_apart_389 : decode cX12_apart 389 = .ok (.aload_n 0, 1) := by decide +kernel
theorem dX12_apart_390 : decode cX12_apart 390 = .ok (.getfield 107, 3) := by decide +kernel
theorem dX12_apart_393 : decode cX12_apart 393 = .ok (.iload 13, 2) := by decide +kernel
theorem dX12_apart_395 : decode cX12_apart 395 = .ok (.aload_n 0, 1) := by decide +kernel
theorem dX12_apart_396 : decode cX12_apart 396 = .ok (.invokevirtual 327, 3) := by decide +kernel
theorem dX12_apart_399 : decode cX12_apart 399 = .ok (.lastore, 1) := by decide +kernel
theorem dX12_apart_400 : decode cX12_apart 400 = .ok (.aload_n 0, 1) := by decide +kernel
theorem dX12_apart_401 : decode cX12_apart 401 = .ok (.getfield 110, 3) := by decide +kernel
theorem dX12_apart_404 : decode cX12_apart 404 = .ok (.iload 13, 2) := by decide +kernel
theorem dX12_apart_406 : decode cX12_apart 406 = .ok (.aload_n 0, 1) := by decide +kernel
theorem dX12_apart_407 : decode cX12_apart 407 = .ok (.invokevirtual 331, 3) := by decide +kernel
theorem dX12_apart_410 : decode cX12_apart 410 = .ok (.lastore, 1) := by decide +kernel
theorem dX12_apart_411 : decode cX12_apart 411 = .ok (.aload_n 0, 1) := by decide +kernel
theorem dX12_apart_412 : decode cX12_apart 412 = .ok (.getfield 113, 3) := by decide +kernel
theorem dX12_apart_415 : decode cX12_apart 415 = .ok (.iload 13, 2) := by decide +kernel
theorem dX12_apart_417 : decode cX12_apart 417 = .ok (.lload 9, 2) := by decide +kernel
theorem dX12_apart_419 : decode cX12_apart 419 = .ok (.lastore, 1) := by decide +kernel
theorem dX12_apart_420 : decode cX12_apart 420 = .ok (.aload_n 0, 1) := by decide +kernel
theorem dX12_apart_421 : decode cX12_apart 421 = .ok (.getfield 116, 3) := by decide +kernel
theorem dX12_apart_424 : decode cX12_apart 424 = .ok (.iload 13, 2) := by decide +kernel
theorem dX12_apart_426 : decode cX12_apart 426 = .ok (.lload 11, 2) := by decide +kernel
theorem dX12_apart_428 : decode cX12_apart 428 = .ok (.lastore, 1) := by decide +kernel
theorem dX12_apart_429 : decode cX12_apart 429 = .ok (.aload_n 0, 1) := by decide +kernel
theorem dX12_apart_430 : decode cX12_apart 430 = .ok (.getfield 119, 3) := by decide +kernel
theorem dX12_apart_433 : decode cX12_apart 433 = .ok (.iload 13, 2) := by decide +kernel
theorem dX12_apart_435 : decode cX12_apart 435 = .ok (.iload_n 3, 1) := by decide +kernel
theorem dX12_apart_436 : decode cX12_apart 436 = .ok (.iastore, 1) := by decide +kernel
theorem dX12_apart_437 : decode cX12_apart 437 = .ok (.aload_n 0, 1) := by decide +kernel
theorem dX12_apart_438 : decode cX12_apart 438 = .ok (.getfield 122, 3) := by decide +kernel
theorem dX12_apart_441 : decode cX12_apart 441 = .ok (.iload 13, 2) := by decide +kernel
theorem dX12_apart_443 : decode cX12_apart 443 = .ok (.iload 7, 2) := by decide +kernel
theorem dX12_apart_445 : decode cX12_apart 445 = .ok (.iastore, 1) := by decide +kernel
theorem dX12_apart_446 : decode cX12_apart 446 = .ok (.aload_n 0, 1) := by decide +kernel
theorem dX12_apart_447 : decode cX12_apart 447 = .ok (.dup, 1) := by decide +kernel
theorem dX12_apart_448 : decode cX12_apart 448 = .ok (.getfield 444, 3) := by decide +kernel
theorem dX12_apart_451 : decode cX12_apart 451 = .ok (.iconst 1, 1) := by decide +kernel
theorem dX12_apart_452 : decode cX12_apart 452 = .ok (.iadd, 1) := by decide +kernel
theorem dX12_apart_453 : decode cX12_apart 453 = .ok (.putfield 444, 3) := by decide +kernel
theorem dX12_apart_456 : decode cX12_apart 456 = .ok (.aload_n 0, 1) := by decide +kernel
theorem dX12_apart_457 : decode cX12_apart 457 = .ok (.iload 13, 2) := by decide +kernel
theorem dX12_apart_459 : decode cX12_apart 459 = .ok (.invokevirtual 447, 3) := by decide +kernel
theorem dX12_apart_462 : decode cX12_apart 462 = .ok (.ifCond .ne 11, 3) := by decide +kernel
theorem dX12_apart_465 : decode cX12_apart 465 = .ok (.aload_n 0, 1) := by decide +kernel
theorem dX12_apart_466 : decode cX12_apart 466 = .ok (.iload 13, 2) := by decide +kernel
theorem dX12_apart_468 : decode cX12_apart 468 = .ok (.iconst (-1), 1) := by decide +kernel
theorem dX12_apart_469 : decode cX12_apart 469 = .ok (.invokevirtual 450, 3) := by decide +kernel
theorem dX12_apart_472 : decode cX12_apart 472 = .ok (.ireturn, 1) := by decide +kernel
theorem dX12_apart_473 : decode cX12_apart 473 = .ok (.iinc 7 1, 3) := by decide +kernel
theorem dX12_apart_476 : decode cX12_apart 476 = .ok (.goto (-300), 3) := by decide +kernel
theorem dX12_apart_479 : decode cX12_apart 479 = .ok (.iload 5, 2) := by decide +kernel
theorem dX12_apart_481 : decode cX12_apart 481 = .ok (.iload 6, 2) := by decide +kernel
theorem dX12_apart_483 : decode cX12_apart 483 = .ok (.iconst (-1), 1) := by decide +kernel
theorem dX12_apart_484 : decode cX12_apart 484 = .ok (.ixor, 1) := by decide +kernel
theorem dX12_apart_485 : decode cX12_apart 485 = .ok (.iand, 1) := by decide +kernel
theorem dX12_apart_486 : decode cX12_apart 486 = .ok (.istore 7, 2) := by decide +kernel
theorem dX12_apart_488 : decode cX12_apart 488 = .ok (.iload 7, 2) := by decide +kernel
theorem dX12_apart_490 : decode cX12_apart 490 = .ok (.ifCond .ne 6, 3) := by decide +kernel
theorem dX12_apart_493 : decode cX12_apart 493 = .ok (.goto 33, 3) := by decide +kernel
theorem dX12_apart_496 : decode cX12_apart 496 = .ok (.iconst 0, 1) := by decide +kernel
theorem dX12_apart_497 : decode cX12_apart 497 = .ok (.istore 8, 2) := by decide +kernel
theorem dX12_apart_499 : decode cX12_apart 499 = .ok (.iload 7, 2) := by decide +kernel
theorem dX12_apart_501 : decode cX12_apart 501 = .ok (.iload 8, 2) := by decide +kernel
theorem dX12_apart_503 : decode cX12_apart 503 = .ok (.ishr, 1) := by decide +kernel
theorem dX12_apart_504 : decode cX12_apart 504 = .ok (.iconst 1, 1) := by decide +kernel
theorem dX12_apart_505 : decode cX12_apart 505 = .ok (.iand, 1) := by decide +kernel
theorem dX12_apart_506 : decode cX12_apart 506 = .ok (.ifCond .ne 9, 3) := by decide +kernel
theorem dX12_apart_509 : decode cX12_apart 509 = .ok (.iinc 8 1, 3) := by decide +kernel
theorem dX12_apart_512 : decode cX12_apart 512 = .ok (.goto (-13), 3) := by decide +kernel
theorem dX12_apart_515 : decode cX12_apart 515 = .ok (.aload_n 0, 1) := by decide +kernel
theorem dX12_apart_516 : decode cX12_apart 516 = .ok (.iload_n 3, 1) := by decide +kernel
theorem dX12_apart_517 : decode cX12_apart 517 = .ok (.bipush 100, 2) := by decide +kernel
theorem dX12_apart_519 : decode cX12_apart 519 = .ok (.iload 8, 2) := by decide +kernel
theorem dX12_apart_521 : decode cX12_apart 521 = .ok (.iadd, 1) := by decide +kernel
theorem dX12_apart_522 : decode cX12_apart 522 = .ok (.invokevirtual 450, 3) := by decide +kernel
theorem dX12_apart_525 : decode cX12_apart 525 = .ok (.ireturn, 1) := by decide +kernel
theorem dX12_apart_526 : decode cX12_apart 526 = .ok (.iinc 3 1, 3) := by decide +kernel
theorem dX12_apart_529 : decode cX12_apart 529 = .ok (.goto (-413), 3) := by decide +kernel
theorem dX12_apart_532 : decode cX12_apart 532 = .ok (.aload_n 0, 1) := by decide +kernel
theorem dX12_apart_533 : decode cX12_apart 533 = .ok (.bipush (-2), 2) := by decide +kernel
theorem dX12_apart_535 : decode cX12_apart 535 = .ok (.invokevirtual 337, 3) := by decide +kernel
theorem dX12_apart_538 : decode cX12_apart 538 = .ok (.ireturn, 1) := by decide +kernel
theorem dX12_count_0 : decode cX12_count 0 = .ok (.aload_n 0, 1) := by decide +kernel
theorem dX12_count_1 : decode cX12_count 1 = .ok (.iconst 0, 1) := by decide +kernel
theorem dX12_count_2 : decode cX12_count 2 = .ok (.putfield 1, 3) := by decide +kernel
theorem dX12_count_5 : decode cX12_count 5 = .ok (.iload_n 1, 1) := by decide +kernel
theorem dX12_count_6 : decode cX12_count 6 = .ok (.tableswitch 59 0 4 #[34, 39, 44, 49, 54], 34) := by decide +kernel
theorem dX12_count_40 : decode cX12_count 40 = .ok (.aload_n 0, 1) := by decide +kernel
theorem dX12_count_41 : decode cX12_count 41 = .ok (.getfield 334, 3) := by decide +kernel
theorem dX12_count_44 : decode cX12_count 44 = .ok (.ireturn, 1) := by decide +kernel
theorem dX12_count_45 : decode cX12_count 45 = .ok (.aload_n 0, 1) := by decide +kernel
theorem dX12_count_46 : decode cX12_count 46 = .ok (.getfield 62, 3) := by decide +kernel
theorem dX12_count_49 : decode cX12_count 49 = .ok (.ireturn, 1) := by decide +kernel
theorem dX12_count_50 : decode cX12_count 50 = .ok (.aload_n 0, 1) := by decide +kernel
theorem dX12_count_51 : decode cX12_count 51 = .ok (.getfield 415, 3) := by decide +kernel
theorem dX12_count_54 : decode cX12_count 54 = .ok (.ireturn, 1) := by decide +kernel
theorem dX12_count_55 : decode cX12_count 55 = .ok (.aload_n 0, 1) := by decide +kernel
theorem dX12_count_56 : decode cX12_count 56 = .ok (.getfield 313, 3) := by decide +kernel
theorem dX12_count_59 : decode cX12_count 59 = .ok (.ireturn, 1) := by decide +kernel
theorem dX12_count_60 : decode cX12_count 60 = .ok (.aload_n 0, 1) := by decide +kernel
theorem dX12_count_61 : decode cX12_count 61 = .ok (.getfield 444, 3) := by decide +kernel
theorem dX12_count_64 : decode cX12_count 64 = .ok (.ireturn, 1) := by decide +kernel
theorem dX12_count_65 : decode cX12_count 65 = .ok (.iconst (-1), 1) := by decide +kernel
theorem dX12_count_66 : decode cX12_count 66 = .ok (.ireturn, 1) := by decide +kernel
theorem dX12_trouble_0 : decode cX12_trouble 0 = .ok (.aload_n 0, 1) := by decide +kernel
theorem dX12_trouble_1 : decode cX12_trouble 1 = .ok (.iconst 0, 1) := by decide +kernel
theorem dX12_trouble_2 : decode cX12_trouble 2 = .ok (.putfield 1, 3) := by decide +kernel
theorem dX12_trouble_5 : decode cX12_trouble 5 = .ok (.aload_n 0, 1) := by decide +kernel
theorem dX12_trouble_6 : decode cX12_trouble 6 = .ok (.getfield 7, 3) := by decide +kernel
theorem dX12_trouble_9 : decode cX12_trouble 9 = .ok (.ireturn, 1) := by decide +kernel
theorem dJ9_max_7cf53_0 : decode cJ9_max_7cf53 0 = .ok (.iload_n 0, 1) := by decide +kernel
theorem dJ9_max_7cf53_1 : decode cJ9_max_7cf53 1 = .ok (.iload_n 1, 1) := by decide +kernel
theorem dJ9_max_7cf53_2 : decode cJ9_max_7cf53 2 = .ok (.if_icmp .lt 7, 3) := by decide +kernel
theorem dJ9_max_7cf53_5 : decode cJ9_max_7cf53 5 = .ok (.iload_n 0, 1) := by decide +kernel
theorem dJ9_max_7cf53_6 : decode cJ9_max_7cf53 6 = .ok (.goto 4, 3) := by decide +kernel
theorem dJ9_max_7cf53_9 : decode cJ9_max_7cf53 9 = .ok (.iload_n 1, 1) := by decide +kernel
theorem dJ9_max_7cf53_10 : decode cJ9_max_7cf53 10 = .ok (.ireturn, 1) := by decide +kernel
theorem dJ9_min_7cf53_0 : decode cJ9_min_7cf53 0 = .ok (.iload_n 0, 1) := by decide +kernel
theorem dJ9_min_7cf53_1 : decode cJ9_min_7cf53 1 = .ok (.iload_n 1, 1) := by decide +kernel
theorem dJ9_min_7cf53_2 : decode cJ9_min_7cf53 2 = .ok (.if_icmp .gt 7, 3) := by decide +kernel
theorem dJ9_min_7cf53_5 : decode cJ9_min_7cf53 5 = .ok (.iload_n 0, 1) := by decide +kernel
theorem dJ9_min_7cf53_6 : decode cJ9_min_7cf53 6 = .ok (.goto 4, 3) := by decide +kernel
theorem dJ9_min_7cf53_9 : decode cJ9_min_7cf53 9 = .ok (.iload_n 1, 1) := by decide +kernel
theorem dJ9_min_7cf53_10 : decode cJ9_min_7cf53 10 = .ok (.ireturn, 1) := by decide +kernel
theorem dJ0_length_8abf5_0 : decode cJ0_length_8abf5 0 = .ok (.aload_n 0, 1) := by decide +kernel
theorem dJ0_length_8abf5_1 : decode cJ0_length_8abf5 1 = .ok (.getfield 9, 3) := by decide +kernel
theorem dJ0_length_8abf5_4 : decode cJ0_length_8abf5 4 = .ok (.arraylength, 1) := by decide +kernel
theorem dJ0_length_8abf5_5 : decode cJ0_length_8abf5 5 = .ok (.aload_n 0, 1) := by decide +kernel
theorem dJ0_length_8abf5_6 : decode cJ0_length_8abf5 6 = .ok (.invokevirtual 335, 3) := by decide +kernel
theorem dJ0_length_8abf5_9 : decode cJ0_length_8abf5 9 = .ok (.ishr, 1) := by decide +kernel
theorem dJ0_length_8abf5_10 : decode cJ0_length_8abf5 10 = .ok (.ireturn, 1) := by decide +kernel
theorem dJ0_charAt_5068e_0 : decode cJ0_charAt_5068e 0 = .ok (.aload_n 0, 1) := by decide +kernel
theorem dJ0_charAt_5068e_1 : decode cJ0_charAt_5068e 1 = .ok (.invokevirtual 492, 3) := by decide +kernel
theorem dJ0_charAt_5068e_4 : decode cJ0_charAt_5068e 4 = .ok (.ifCond .eq 12, 3) := by decide +kernel
theorem dJ0_charAt_5068e_7 : decode cJ0_charAt_5068e 7 = .ok (.aload_n 0, 1) := by decide +kernel
theorem dJ0_charAt_5068e_8 : decode cJ0_charAt_5068e 8 = .ok (.getfield 9, 3) := by decide +kernel
theorem dJ0_charAt_5068e_11 : decode cJ0_charAt_5068e 11 = .ok (.iload_n 1, 1) := by decide +kernel
theorem dJ0_charAt_5068e_12 : decode cJ0_charAt_5068e 12 = .ok (.invokestatic 495, 3) := by decide +kernel
theorem dJ0_charAt_5068e_15 : decode cJ0_charAt_5068e 15 = .ok (.ireturn, 1) := by decide +kernel
theorem dJ0_charAt_5068e_16 : decode cJ0_charAt_5068e 16 = .ok (.aload_n 0, 1) := by decide +kernel
theorem dJ0_charAt_5068e_17 : decode cJ0_charAt_5068e 17 = .ok (.getfield 9, 3) := by decide +kernel
theorem dJ0_charAt_5068e_20 : decode cJ0_charAt_5068e 20 = .ok (.iload_n 1, 1) := by decide +kernel
theorem dJ0_charAt_5068e_21 : decode cJ0_charAt_5068e 21 = .ok (.invokestatic 498, 3) := by decide +kernel
theorem dJ0_charAt_5068e_24 : decode cJ0_charAt_5068e 24 = .ok (.ireturn, 1) := by decide +kernel
theorem dJ0_coder_7d493_0 : decode cJ0_coder_7d493 0 = .ok (.getstatic 38, 3) := by decide +kernel
theorem dJ0_coder_7d493_3 : decode cJ0_coder_7d493 3 = .ok (.ifCond .eq 10, 3) := by decide +kernel
theorem dJ0_coder_7d493_6 : decode cJ0_coder_7d493 6 = .ok (.aload_n 0, 1) := by decide +kernel
theorem dJ0_coder_7d493_7 : decode cJ0_coder_7d493 7 = .ok (.getfield 15, 3) := by decide +kernel
theorem dJ0_coder_7d493_10 : decode cJ0_coder_7d493 10 = .ok (.goto 4, 3) := by decide +kernel
theorem dJ0_coder_7d493_13 : decode cJ0_coder_7d493 13 = .ok (.iconst 1, 1) := by decide +kernel
theorem dJ0_coder_7d493_14 : decode cJ0_coder_7d493 14 = .ok (.ireturn, 1) := by decide +kernel
theorem dJ0_isLatin1_aae02_0 : decode cJ0_isLatin1_aae02 0 = .ok (.getstatic 38, 3) := by decide +kernel
theorem dJ0_isLatin1_aae02_3 : decode cJ0_isLatin1_aae02 3 = .ok (.ifCond .eq 14, 3) := by decide +kernel
theorem dJ0_isLatin1_aae02_6 : decode cJ0_isLatin1_aae02 6 = .ok (.aload_n 0, 1) := by decide +kernel
theorem dJ0_isLatin1_aae02_7 : decode cJ0_isLatin1_aae02 7 = .ok (.getfield 15, 3) := by decide +kernel
theorem dJ0_isLatin1_aae02_10 : decode cJ0_isLatin1_aae02 10 = .ok (.ifCond .ne 7, 3) := by decide +kernel
theorem dJ0_isLatin1_aae02_13 : decode cJ0_isLatin1_aae02 13 = .ok (.iconst 1, 1) := by decide +kernel
theorem dJ0_isLatin1_aae02_14 : decode cJ0_isLatin1_aae02 14 = .ok (.goto 4, 3) := by decide +kernel
theorem dJ0_isLatin1_aae02_17 : decode cJ0_isLatin1_aae02 17 = .ok (.iconst 0, 1) := by decide +kernel
theorem dJ0_isLatin1_aae02_18 : decode cJ0_isLatin1_aae02 18 = .ok (.ireturn, 1) := by decide +kernel
theorem dJ0_checkIndex_df160_0 : decode cJ0_checkIndex_df160 0 = .ok (.iload_n 0, 1) := by decide +kernel
theorem dJ0_checkIndex_df160_1 : decode cJ0_checkIndex_df160 1 = .ok (.iload_n 1, 1) := by decide +kernel
theorem dJ0_checkIndex_df160_2 : decode cJ0_checkIndex_df160 2 = .ok (.getstatic 1053, 3) := by decide +kernel
theorem dJ0_checkIndex_df160_5 : decode cJ0_checkIndex_df160 5 = .ok (.invokestatic 1059, 3) := by decide +kernel
theorem dJ0_checkIndex_df160_8 : decode cJ0_checkIndex_df160 8 = .ok (.pop, 1) := by decide +kernel
theorem dJ0_checkIndex_df160_9 : decode cJ0_checkIndex_df160 9 = .ok (.return_, 1) := by decide +kernel
theorem dJ1_charAt_3b067_0 : decode cJ1_charAt_3b067 0 = .ok (.iload_n 1, 1) := by decide +kernel
theorem dJ1_charAt_3b067_1 : decode cJ1_charAt_3b067 1 = .ok (.aload_n 0, 1) := by decide +kernel
theorem dJ1_charAt_3b067_2 : decode cJ1_charAt_3b067 2 = .ok (.arraylength, 1) := by decide +kernel
theorem dJ1_charAt_3b067_3 : decode cJ1_charAt_3b067 3 = .ok (.invokestatic 9, 3) := by decide +kernel
theorem dJ1_charAt_3b067_6 : decode cJ1_charAt_3b067 6 = .ok (.aload_n 0, 1) := by decide +kernel
theorem dJ1_charAt_3b067_7 : decode cJ1_charAt_3b067 7 = .ok (.iload_n 1, 1) := by decide +kernel
theorem dJ1_charAt_3b067_8 : decode cJ1_charAt_3b067 8 = .ok (.baload, 1) := by decide +kernel
theorem dJ1_charAt_3b067_9 : decode cJ1_charAt_3b067 9 = .ok (.sipush 255, 3) := by decide +kernel
theorem dJ1_charAt_3b067_12 : decode cJ1_charAt_3b067 12 = .ok (.iand, 1) := by decide +kernel
theorem dJ1_charAt_3b067_13 : decode cJ1_charAt_3b067 13 = .ok (.i2c, 1) := by decide +kernel
theorem dJ1_charAt_3b067_14 : decode cJ1_charAt_3b067 14 = .ok (.ireturn, 1) := by decide +kernel
theorem dJ2_getChar_3b067_0 : decode cJ2_getChar_3b067 0 = .ok (.getstatic 44, 3) := by decide +kernel
theorem dJ2_getChar_3b067_3 : decode cJ2_getChar_3b067 3 = .ok (.ifCond .ne 25, 3) := by decide +kernel
theorem dJ2_getChar_3b067_6 : decode cJ2_getChar_3b067 6 = .ok (.iload_n 1, 1) := by decide +kernel
theorem dJ2_getChar_3b067_7 : decode cJ2_getChar_3b067 7 = .ok (.ifCond .lt 11, 3) := by decide +kernel
theorem dJ2_getChar_3b067_10 : decode cJ2_getChar_3b067 10 = .ok (.iload_n 1, 1) := by decide +kernel
theorem dJ2_getChar_3b067_11 : decode cJ2_getChar_3b067 11 = .ok (.aload_n 0, 1) := by decide +kernel
theorem dJ2_getChar_3b067_12 : decode cJ2_getChar_3b067 12 = .ok (.invokestatic 48, 3) := by decide +kernel
theorem dJ2_getChar_3b067_15 : decode cJ2_getChar_3b067 15 = .ok (.if_icmp .lt 13, 3) := by decide +kernel
theorem dJ2_getChar_3b067_18 : decode cJ2_getChar_3b067 18 = .ok (.new 52, 3) := by decide +kernel
theorem dJ2_getChar_3b067_21 : decode cJ2_getChar_3b067 21 = .ok (.dup, 1) := by decide +kernel
theorem dJ2_getChar_3b067_22 : decode cJ2_getChar_3b067 22 = .ok (.ldc 54, 2) := by decide +kernel
theorem dJ2_getChar_3b067_24 : decode cJ2_getChar_3b067 24 = .ok (.invokespecial 56, 3) := by decide +kernel
theorem dJ2_getChar_3b067_27 : decode cJ2_getChar_3b067 27 = .ok (.athrow, 1) := by decide +kernel
theorem dJ2_getChar_3b067_28 : decode cJ2_getChar_3b067 28 = .ok (.iload_n 1, 1) := by decide +kernel
theorem dJ2_getChar_3b067_29 : decode cJ2_getChar_3b067 29 = .ok (.iconst 1, 1) := by decide +kernel
theorem dJ2_getChar_3b067_30 : decode cJ2_getChar_3b067 30 = .ok (.ishl, 1) := by decide +kernel
theorem dJ2_getChar_3b067_31 : decode cJ2_getChar_3b067 31 = .ok (.istore_n 1, 1) := by decide +kernel
theorem dJ2_getChar_3b067_32 : decode cJ2_getChar_3b067 32 = .ok (.aload_n 0, 1) := by decide +kernel
theorem dJ2_getChar_3b067_33 : decode cJ2_getChar_3b067 33 = .ok (.iload_n 1, 1) := by decide +kernel
theorem dJ2_getChar_3b067_34 : decode cJ2_getChar_3b067 34 = .ok (.iinc 1 1, 3) := by decide +kernel
theorem dJ2_getChar_3b067_37 : decode cJ2_getChar_3b067 37 = .ok (.baload, 1) := by decide +kernel
theorem dJ2_getChar_3b067_38 : decode cJ2_getChar_3b067 38 = .ok (.sipush 255, 3) := by decide +kernel
theorem dJ2_getChar_3b067_41 : decode cJ2_getChar_3b067 41 = .ok (.iand, 1) := by decide +kernel
theorem dJ2_getChar_3b067_42 : decode cJ2_getChar_3b067 42 = .ok (.getstatic 59, 3) := by decide +kernel
theorem dJ2_getChar_3b067_45 : decode cJ2_getChar_3b067 45 = .ok (.ishl, 1) := by decide +kernel
theorem dJ2_getChar_3b067_46 : decode cJ2_getChar_3b067 46 = .ok (.aload_n 0, 1) := by decide +kernel
theorem dJ2_getChar_3b067_47 : decode cJ2_getChar_3b067 47 = .ok (.iload_n 1, 1) := by decide +kernel
theorem dJ2_getChar_3b067_48 : decode cJ2_getChar_3b067 48 = .ok (.baload, 1) := by decide +kernel
theorem dJ2_getChar_3b067_49 : decode cJ2_getChar_3b067 49 = .ok (.sipush 255, 3) := by decide +kernel
theorem dJ2_getChar_3b067_52 : decode cJ2_getChar_3b067 52 = .ok (.iand, 1) := by decide +kernel
theorem dJ2_getChar_3b067_53 : decode cJ2_getChar_3b067 53 = .ok (.getstatic 63, 3) := by decide +kernel
theorem dJ2_getChar_3b067_56 : decode cJ2_getChar_3b067 56 = .ok (.ishl, 1) := by decide +kernel
theorem dJ2_getChar_3b067_57 : decode cJ2_getChar_3b067 57 = .ok (.ior, 1) := by decide +kernel
theorem dJ2_getChar_3b067_58 : decode cJ2_getChar_3b067 58 = .ok (.i2c, 1) := by decide +kernel
theorem dJ2_getChar_3b067_59 : decode cJ2_getChar_3b067 59 = .ok (.ireturn, 1) := by decide +kernel
theorem dJ2_length_9d52b_0 : decode cJ2_length_9d52b 0 = .ok (.aload_n 0, 1) := by decide +kernel
theorem dJ2_length_9d52b_1 : decode cJ2_length_9d52b 1 = .ok (.arraylength, 1) := by decide +kernel
theorem dJ2_length_9d52b_2 : decode cJ2_length_9d52b 2 = .ok (.iconst 1, 1) := by decide +kernel
theorem dJ2_length_9d52b_3 : decode cJ2_length_9d52b 3 = .ok (.ishr, 1) := by decide +kernel
theorem dJ2_length_9d52b_4 : decode cJ2_length_9d52b 4 = .ok (.ireturn, 1) := by decide +kernel
theorem dJ2_charAt_3b067_0 : decode cJ2_charAt_3b067 0 = .ok (.iload_n 1, 1) := by decide +kernel
theorem dJ2_charAt_3b067_1 : decode cJ2_charAt_3b067 1 = .ok (.aload_n 0, 1) := by decide +kernel
theorem dJ2_charAt_3b067_2 : decode cJ2_charAt_3b067 2 = .ok (.invokestatic 67, 3) := by decide +kernel
theorem dJ2_charAt_3b067_5 : decode cJ2_charAt_3b067 5 = .ok (.aload_n 0, 1) := by decide +kernel
theorem dJ2_charAt_3b067_6 : decode cJ2_charAt_3b067 6 = .ok (.iload_n 1, 1) := by decide +kernel
theorem dJ2_charAt_3b067_7 : decode cJ2_charAt_3b067 7 = .ok (.invokestatic 71, 3) := by decide +kernel
theorem dJ2_charAt_3b067_10 : decode cJ2_charAt_3b067 10 = .ok (.ireturn, 1) := by decide +kernel
theorem dJ2_checkIndex_2214a_0 : decode cJ2_checkIndex_2214a 0 = .ok (.iload_n 0, 1) := by decide +kernel
theorem dJ2_checkIndex_2214a_1 : decode cJ2_checkIndex_2214a 1 = .ok (.aload_n 1, 1) := by decide +kernel
theorem dJ2_checkIndex_2214a_2 : decode cJ2_checkIndex_2214a 2 = .ok (.invokestatic 48, 3) := by decide +kernel
theorem dJ2_checkIndex_2214a_5 : decode cJ2_checkIndex_2214a 5 = .ok (.invokestatic 414, 3) := by decide +kernel
theorem dJ2_checkIndex_2214a_8 : decode cJ2_checkIndex_2214a 8 = .ok (.return_, 1) := by decide +kernel
theorem dJ7_fill_53178_0 : decode cJ7_fill_53178 0 = .ok (.iconst 0, 1) := by decide +kernel
theorem dJ7_fill_53178_1 : decode cJ7_fill_53178 1 = .ok (.istore_n 2, 1) := by decide +kernel
theorem dJ7_fill_53178_2 : decode cJ7_fill_53178 2 = .ok (.aload_n 0, 1) := by decide +kernel
theorem dJ7_fill_53178_3 : decode cJ7_fill_53178 3 = .ok (.arraylength, 1) := by decide +kernel
theorem dJ7_fill_53178_4 : decode cJ7_fill_53178 4 = .ok (.istore_n 3, 1) := by decide +kernel
theorem dJ7_fill_53178_5 : decode cJ7_fill_53178 5 = .ok (.iload_n 2, 1) := by decide +kernel
theorem dJ7_fill_53178_6 : decode cJ7_fill_53178 6 = .ok (.iload_n 3, 1) := by decide +kernel
theorem dJ7_fill_53178_7 : decode cJ7_fill_53178 7 = .ok (.if_icmp .ge 13, 3) := by decide +kernel
theorem dJ7_fill_53178_10 : decode cJ7_fill_53178 10 = .ok (.aload_n 0, 1) := by decide +kernel
theorem dJ7_fill_53178_11 : decode cJ7_fill_53178 11 = .ok (.iload_n 2, 1) := by decide +kernel
theorem dJ7_fill_53178_12 : decode cJ7_fill_53178 12 = .ok (.iload_n 1, 1) := by decide +kernel
theorem dJ7_fill_53178_13 : decode cJ7_fill_53178 13 = .ok (.iastore, 1) := by decide +kernel
theorem dJ7_fill_53178_14 : decode cJ7_fill_53178 14 = .ok (.iinc 2 1, 3) := by decide +kernel
theorem dJ7_fill_53178_17 : decode cJ7_fill_53178 17 = .ok (.goto (-12), 3) := by decide +kernel
theorem dJ7_fill_53178_20 : decode cJ7_fill_53178 20 = .ok (.return_, 1) := by decide +kernel
theorem dJ3_checkIndex_8e157_0 : decode cJ3_checkIndex_8e157 0 = .ok (.iload_n 0, 1) := by decide +kernel
theorem dJ3_checkIndex_8e157_1 : decode cJ3_checkIndex_8e157 1 = .ok (.ifCond .lt 8, 3) := by decide +kernel
theorem dJ3_checkIndex_8e157_4 : decode cJ3_checkIndex_8e157 4 = .ok (.iload_n 0, 1) := by decide +kernel
theorem dJ3_checkIndex_8e157_5 : decode cJ3_checkIndex_8e157 5 = .ok (.iload_n 1, 1) := by decide +kernel
theorem dJ3_checkIndex_8e157_6 : decode cJ3_checkIndex_8e157 6 = .ok (.if_icmp .lt 10, 3) := by decide +kernel
theorem dJ3_checkIndex_8e157_9 : decode cJ3_checkIndex_8e157 9 = .ok (.aload_n 2, 1) := by decide +kernel
theorem dJ3_checkIndex_8e157_10 : decode cJ3_checkIndex_8e157 10 = .ok (.iload_n 0, 1) := by decide +kernel
theorem dJ3_checkIndex_8e157_11 : decode cJ3_checkIndex_8e157 11 = .ok (.iload_n 1, 1) := by decide +kernel
theorem dJ3_checkIndex_8e157_12 : decode cJ3_checkIndex_8e157 12 = .ok (.invokestatic 95, 3) := by decide +kernel
theorem dJ3_checkIndex_8e157_15 : decode cJ3_checkIndex_8e157 15 = .ok (.athrow, 1) := by decide +kernel
theorem dJ3_checkIndex_8e157_16 : decode cJ3_checkIndex_8e157 16 = .ok (.iload_n 0, 1) := by decide +kernel
theorem dJ3_checkIndex_8e157_17 : decode cJ3_checkIndex_8e157 17 = .ok (.ireturn, 1) := by decide +kernel
theorem dL_row_0 : decode cL_row 0 = .ok (.aload_n 2, 1) := by decide +kernel
theorem dL_row_1 : decode cL_row 1 = .ok (.iconst 0, 1) := by decide +kernel
theorem dL_row_2 : decode cL_row 2 = .ok (.aload_n 0, 1) := by decide +kernel
theorem dL_row_3 : decode cL_row 3 = .ok (.iload_n 1, 1) := by decide +kernel
theorem dL_row_4 : decode cL_row 4 = .ok (.invokevirtual 7, 3) := by decide +kernel
theorem dL_row_7 : decode cL_row 7 = .ok (.i2l, 1) := by decide +kernel
theorem dL_row_8 : decode cL_row 8 = .ok (.lastore, 1) := by decide +kernel
theorem dL_row_9 : decode cL_row 9 = .ok (.goto 6, 3) := by decide +kernel
theorem dL_row_12 : decode cL_row 12 = .ok (.astore_n 3, 1) := by decide +kernel
theorem dL_row_13 : decode cL_row 13 = .ok (.iconst 1, 1) := by decide +kernel
theorem dL_row_14 : decode cL_row 14 = .ok (.ireturn, 1) := by decide +kernel
theorem dL_row_15 : decode cL_row 15 = .ok (.iconst 0, 1) := by decide +kernel
theorem dL_row_16 : decode cL_row 16 = .ok (.ireturn, 1) := by decide +kernel
theorem dL_law_0 : decode cL_law 0 = .ok (.new 8, 3) := by decide +kernel
theorem dL_law_3 : decode cL_law 3 = .ok (.dup, 1) := by decide +kernel
theorem dL_law_4 : decode cL_law 4 = .ok (.invokespecial 15, 3) := by decide +kernel
theorem dL_law_7 : decode cL_law 7 = .ok (.astore_n 1, 1) := by decide +kernel
theorem dL_law_8 : decode cL_law 8 = .ok (.new 16, 3) := by decide +kernel
theorem dL_law_11 : decode cL_law 11 = .ok (.dup, 1) := by decide +kernel
theorem dL_law_12 : decode cL_law 12 = .ok (.invokespecial 18, 3) := by decide +kernel
theorem dL_law_15 : decode cL_law 15 = .ok (.astore_n 2, 1) := by decide +kernel
theorem dL_law_16 : decode cL_law 16 = .ok (.iconst 1, 1) := by decide +kernel
theorem dL_law_17 : decode cL_law 17 = .ok (.newarray .long, 2) := by decide +kernel
theorem dL_law_19 : decode cL_law 19 = .ok (.astore_n 3, 1) := by decide +kernel
theorem dL_law_20 : decode cL_law 20 = .ok (.iconst 0, 1) := by decide +kernel
theorem dL_law_21 : decode cL_law 21 = .ok (.istore 4, 2) := by decide +kernel
theorem dL_law_23 : decode cL_law 23 = .ok (.iload 4, 2) := by decide +kernel
theorem dL_law_25 : decode cL_law 25 = .ok (.aload_n 0, 1) := by decide +kernel
theorem dL_law_26 : decode cL_law 26 = .ok (.arraylength, 1) := by decide +kernel
theorem dL_law_27 : decode cL_law 27 = .ok (.bipush 6, 2) := by decide +kernel
theorem dL_law_29 : decode cL_law 29 = .ok (.isub, 1) := by decide +kernel
theorem dL_law_30 : decode cL_law 30 = .ok (.if_icmp .gt 1080, 3) := by decide +kernel
theorem dL_law_33 : decode cL_law 33 = .ok (.aload_n 0, 1) := by decide +kernel
theorem dL_law_34 : decode cL_law 34 = .ok (.iload 4, 2) := by decide +kernel
theorem dL_law_36 : decode cL_law 36 = .ok (.iaload, 1) := by decide +kernel
theorem dL_law_37 : decode cL_law 37 = .ok (.bipush 63, 2) := by decide +kernel
theorem dL_law_39 : decode cL_law 39 = .ok (.iand, 1) := by decide +kernel
theorem dL_law_40 : decode cL_law 40 = .ok (.tableswitch 1064 0 32 #[148, 221, 258, 271, 284, 321, 370, 407, 444, 481, 518, 543, 568, 605, 642, 667, 692, 717, 730, 767, 792, 805, 818, 831, 844, 869, 894, 919, 932, 957, 1013, 1026, 1051], 148) := by decide +kernel
theorem dL_law_188 : decode cL_law 188 = .ok (.aload_n 1, 1) := by decide +kernel
theorem dL_law_189 : decode cL_law 189 = .ok (.aload_n 0, 1) := by decide +kernel
theorem dL_law_190 : decode cL_law 190 = .ok (.iload 4, 2) := by decide +kernel
theorem dL_law_192 : decode cL_law 192 = .ok (.iconst 1, 1) := by decide +kernel
theorem dL_law_193 : decode cL_law 193 = .ok (.iadd, 1) := by decide +kernel
theorem dL_law_194 : decode cL_law 194 = .ok (.iaload, 1) := by decide +kernel
theorem dL_law_195 : decode cL_law 195 = .ok (.aload_n 0, 1) := by decide +kernel
theorem dL_law_196 : decode cL_law 196 = .ok (.iload 4, 2) := by decide +kernel
theorem dL_law_198 : decode cL_law 198 = .ok (.iconst 2, 1) := by decide +kernel
theorem dL_law_199 : decode cL_law 199 = .ok (.iadd, 1) := by decide +kernel
theorem dL_law_200 : decode cL_law 200 = .ok (.iaload, 1) := by decide +kernel
theorem dL_law_201 : decode cL_law 201 = .ok (.aload_n 0, 1) := by decide +kernel
theorem dL_law_202 : decode cL_law 202 = .ok (.iload 4, 2) := by decide +kernel
theorem dL_law_204 : decode cL_law 204 = .ok (.iconst 3, 1) := by decide +kernel
theorem dL_law_205 : decode cL_law 205 = .ok (.iadd, 1) := by decide +kernel
theorem dL_law_206 : decode cL_law 206 = .ok (.iaload, 1) := by decide +kernel
theorem dL_law_207 : decode cL_law 207 = .ok (.aload_n 0, 1) := by decide +kernel
theorem dL_law_208 : decode cL_law 208 = .ok (.iload 4, 2) := by decide +kernel
theorem dL_law_210 : decode cL_law 210 = .ok (.iconst 4, 1) := by decide +kernel
theorem dL_law_211 : decode cL_law 211 = .ok (.iadd, 1) := by decide +kernel
theorem dL_law_212 : decode cL_law 212 = .ok (.iaload, 1) := by decide +kernel
theorem dL_law_213 : decode cL_law 213 = .ok (.aload_n 0, 1) := by decide +kernel
theorem dL_law_214 : decode cL_law 214 = .ok (.iload 4, 2) := by decide +kernel
theorem dL_law_216 : decode cL_law 216 = .ok (.iconst 5, 1) := by decide +kernel
theorem dL_law_217 : decode cL_law 217 = .ok (.iadd, 1) := by decide +kernel
theorem dL_law_218 : decode cL_law 218 = .ok (.iaload, 1) := by decide +kernel
theorem dL_law_219 : decode cL_law 219 = .ok (.invokevirtual 19, 3) := by decide +kernel
theorem dL_law_222 : decode cL_law 222 = .ok (.aload_n 2, 1) := by decide +kernel
theorem dL_law_223 : decode cL_law 223 = .ok (.aload_n 0, 1) := by decide +kernel
theorem dL_law_224 : decode cL_law 224 = .ok (.iload 4, 2) := by decide +kernel
theorem dL_law_226 : decode cL_law 226 = .ok (.iconst 1, 1) := by decide +kernel
theorem dL_law_227 : decode cL_law 227 = .ok (.iadd, 1) := by decide +kernel
theorem dL_law_228 : decode cL_law 228 = .ok (.iaload, 1) := by decide +kernel
theorem dL_law_229 : decode cL_law 229 = .ok (.aload_n 0, 1) := by decide +kernel
theorem dL_law_230 : decode cL_law 230 = .ok (.iload 4, 2) := by decide +kernel
theorem dL_law_232 : decode cL_law 232 = .ok (.iconst 2, 1) := by decide +kernel
theorem dL_law_233 : decode cL_law 233 = .ok (.iadd, 1) := by decide +kernel
theorem dL_law_234 : decode cL_law 234 = .ok (.iaload, 1) := by decide +kernel
theorem dL_law_235 : decode cL_law 235 = .ok (.aload_n 0, 1) := by decide +kernel
theorem dL_law_236 : decode cL_law 236 = .ok (.iload 4, 2) := by decide +kernel
theorem dL_law_238 : decode cL_law 238 = .ok (.iconst 3, 1) := by decide +kernel
theorem dL_law_239 : decode cL_law 239 = .ok (.iadd, 1) := by decide +kernel
theorem dL_law_240 : decode cL_law 240 = .ok (.iaload, 1) := by decide +kernel
theorem dL_law_241 : decode cL_law 241 = .ok (.aload_n 0, 1) := by decide +kernel
theorem dL_law_242 : decode cL_law 242 = .ok (.iload 4, 2) := by decide +kernel
theorem dL_law_244 : decode cL_law 244 = .ok (.iconst 4, 1) := by decide +kernel
theorem dL_law_245 : decode cL_law 245 = .ok (.iadd, 1) := by decide +kernel
theorem dL_law_246 : decode cL_law 246 = .ok (.iaload, 1) := by decide +kernel
theorem dL_law_247 : decode cL_law 247 = .ok (.aload_n 0, 1) := by decide +kernel
theorem dL_law_248 : decode cL_law 248 = .ok (.iload 4, 2) := by decide +kernel
theorem dL_law_250 : decode cL_law 250 = .ok (.iconst 5, 1) := by decide +kernel
theorem dL_law_251 : decode cL_law 251 = .ok (.iadd, 1) := by decide +kernel
theorem dL_law_252 : decode cL_law 252 = .ok (.iaload, 1) := by decide +kernel
theorem dL_law_253 : decode cL_law 253 = .ok (.invokevirtual 23, 3) := by decide +kernel
theorem dL_law_256 : decode cL_law 256 = .ok (.if_icmp .eq 848, 3) := by decide +kernel
theorem dL_law_259 : decode cL_law 259 = .ok (.iconst 0, 1) := by decide +kernel
theorem dL_law_260 : decode cL_law 260 = .ok (.ireturn, 1) := by decide +kernel
theorem dL_law_261 : decode cL_law 261 = .ok (.aload_n 1, 1) := by decide +kernel
theorem dL_law_262 : decode cL_law 262 = .ok (.aload_n 0, 1) := by decide +kernel
theorem dL_law_263 : decode cL_law 263 = .ok (.iload 4, 2) := by decide +kernel
theorem dL_law_265 : decode cL_law 265 = .ok (.iconst 1, 1) := by decide +kernel
theorem dL_law_266 : decode cL_law 266 = .ok (.iadd, 1) := by decide +kernel
theorem dL_law_267 : decode cL_law 267 = .ok (.iaload, 1) := by decide +kernel
theorem dL_law_268 : decode cL_law 268 = .ok (.aload_n 0, 1) := by decide +kernel
theorem dL_law_269 : decode cL_law 269 = .ok (.iload 4, 2) := by decide +kernel
theorem dL_law_271 : decode cL_law 271 = .ok (.iconst 2, 1) := by decide +kernel
theorem dL_law_272 : decode cL_law 272 = .ok (.iadd, 1) := by decide +kernel
theorem dL_law_273 : decode cL_law 273 = .ok (.iaload, 1) := by decide +kernel
theorem dL_law_274 : decode cL_law 274 = .ok (.invokevirtual 24, 3) := by decide +kernel
theorem dL_law_277 : decode cL_law 277 = .ok (.aload_n 2, 1) := by decide +kernel
theorem dL_law_278 : decode cL_law 278 = .ok (.aload_n 0, 1) := by decide +kernel
theorem dL_law_279 : decode cL_law 279 = .ok (.iload 4, 2) := by decide +kernel
theorem dL_law_281 : decode cL_law 281 = .ok (.iconst 1, 1) := by decide +kernel
theorem dL_law_282 : decode cL_law 282 = .ok (.iadd, 1) := by decide +kernel
theorem dL_law_283 : decode cL_law 283 = .ok (.iaload, 1) := by decide +kernel
theorem dL_law_284 : decode cL_law 284 = .ok (.aload_n 0, 1) := by decide +kernel
theorem dL_law_285 : decode cL_law 285 = .ok (.iload 4, 2) := by decide +kernel
theorem dL_law_287 : decode cL_law 287 = .ok (.iconst 2, 1) := by decide +kernel
theorem dL_law_288 : decode cL_law 288 = .ok (.iadd, 1) := by decide +kernel
theorem dL_law_289 : decode cL_law 289 = .ok (.iaload, 1) := by decide +kernel
theorem dL_law_290 : decode cL_law 290 = .ok (.invokevirtual 28, 3) := by decide +kernel
theorem dL_law_293 : decode cL_law 293 = .ok (.if_icmp .eq 811, 3) := by decide +kernel
theorem dL_law_296 : decode cL_law 296 = .ok (.iconst 0, 1) := by decide +kernel
theorem dL_law_297 : decode cL_law 297 = .ok (.ireturn, 1) := by decide +kernel
theorem dL_law_298 : decode cL_law 298 = .ok (.aload_n 1, 1) := by decide +kernel
theorem dL_law_299 : decode cL_law 299 = .ok (.invokevirtual 29, 3) := by decide +kernel
theorem dL_law_302 : decode cL_law 302 = .ok (.aload_n 2, 1) := by decide +kernel
theorem dL_law_303 : decode cL_law 303 = .ok (.invokevirtual 33, 3) := by decide +kernel
theorem dL_law_306 : decode cL_law 306 = .ok (.if_icmp .eq 798, 3) := by decide +kernel
theorem dL_law_309 : decode cL_law 309 = .ok (.iconst 0, 1) := by decide +kernel
theorem dL_law_310 : decode cL_law 310 = .ok (.ireturn, 1) := by decide +kernel
theorem dL_law_311 : decode cL_law 311 = .ok (.aload_n 1, 1) := by decide +kernel
theorem dL_law_312 : decode cL_law 312 = .ok (.invokevirtual 34, 3) := by decide +kernel
theorem dL_law_315 : decode cL_law 315 = .ok (.aload_n 2, 1) := by decide +kernel
theorem dL_law_316 : decode cL_law 316 = .ok (.invokevirtual 37, 3) := by decide +kernel
theorem dL_law_319 : decode cL_law 319 = .ok (.if_icmp .eq 785, 3) := by decide +kernel
theorem dL_law_322 : decode cL_law 322 = .ok (.iconst 0, 1) := by decide +kernel
theorem dL_law_323 : decode cL_law 323 = .ok (.ireturn, 1) := by decide +kernel
theorem dL_law_324 : decode cL_law 324 = .ok (.aload_n 1, 1) := by decide +kernel
theorem dL_law_325 : decode cL_law 325 = .ok (.aload_n 0, 1) := by decide +kernel
theorem dL_law_326 : decode cL_law 326 = .ok (.iload 4, 2) := by decide +kernel
theorem dL_law_328 : decode cL_law 328 = .ok (.iconst 1, 1) := by decide +kernel
theorem dL_law_329 : decode cL_law 329 = .ok (.iadd, 1) := by decide +kernel
theorem dL_law_330 : decode cL_law 330 = .ok (.iaload, 1) := by decide +kernel
theorem dL_law_331 : decode cL_law 331 = .ok (.aload_n 0, 1) := by decide +kernel
theorem dL_law_332 : decode cL_law 332 = .ok (.iload 4, 2) := by decide +kernel
theorem dL_law_334 : decode cL_law 334 = .ok (.iconst 2, 1) := by decide +kernel
theorem dL_law_335 : decode cL_law 335 = .ok (.iadd, 1) := by decide +kernel
theorem dL_law_336 : decode cL_law 336 = .ok (.iaload, 1) := by decide +kernel
theorem dL_law_337 : decode cL_law 337 = .ok (.invokevirtual 38, 3) := by decide +kernel
theorem dL_law_340 : decode cL_law 340 = .ok (.aload_n 2, 1) := by decide +kernel
theorem dL_law_341 : decode cL_law 341 = .ok (.aload_n 0, 1) := by decide +kernel
theorem dL_law_342 : decode cL_law 342 = .ok (.iload 4, 2) := by decide +kernel
theorem dL_law_344 : decode cL_law 344 = .ok (.iconst 1, 1) := by decide +kernel
theorem dL_law_345 : decode cL_law 345 = .ok (.iadd, 1) := by decide +kernel
theorem dL_law_346 : decode cL_law 346 = .ok (.iaload, 1) := by decide +kernel
theorem dL_law_347 : decode cL_law 347 = .ok (.aload_n 0, 1) := by decide +kernel
theorem dL_law_348 : decode cL_law 348 = .ok (.iload 4, 2) := by decide +kernel
theorem dL_law_350 : decode cL_law 350 = .ok (.iconst 2, 1) := by decide +kernel
theorem dL_law_351 : decode cL_law 351 = .ok (.iadd, 1) := by decide +kernel
theorem dL_law_352 : decode cL_law 352 = .ok (.iaload, 1) := by decide +kernel
theorem dL_law_353 : decode cL_law 353 = .ok (.invokevirtual 41, 3) := by decide +kernel
theorem dL_law_356 : decode cL_law 356 = .ok (.if_icmp .eq 748, 3) := by decide +kernel
theorem dL_law_359 : decode cL_law 359 = .ok (.iconst 0, 1) := by decide +kernel
theorem dL_law_360 : decode cL_law 360 = .ok (.ireturn, 1) := by decide +kernel
theorem dL_law_361 : decode cL_law 361 = .ok (.aload_n 1, 1) := by decide +kernel
theorem dL_law_362 : decode cL_law 362 = .ok (.aload_n 0, 1) := by decide +kernel
theorem dL_law_363 : decode cL_law 363 = .ok (.iload 4, 2) := by decide +kernel
theorem dL_law_365 : decode cL_law 365 = .ok (.iconst 1, 1) := by decide +kernel
theorem dL_law_366 : decode cL_law 366 = .ok (.iadd, 1) := by decide +kernel
theorem dL_law_367 : decode cL_law 367 = .ok (.iaload, 1) := by decide +kernel
theorem dL_law_368 : decode cL_law 368 = .ok (.aload_n 0, 1) := by decide +kernel
theorem dL_law_369 : decode cL_law 369 = .ok (.iload 4, 2) := by decide +kernel
theorem dL_law_371 : decode cL_law 371 = .ok (.iconst 2, 1) := by decide +kernel
theorem dL_law_372 : decode cL_law 372 = .ok (.iadd, 1) := by decide +kernel
theorem dL_law_373 : decode cL_law 373 = .ok (.iaload, 1) := by decide +kernel
theorem dL_law_374 : decode cL_law 374 = .ok (.aload_n 0, 1) := by decide +kernel
theorem dL_law_375 : decode cL_law 375 = .ok (.iload 4, 2) := by decide +kernel
theorem dL_law_377 : decode cL_law 377 = .ok (.iconst 3, 1) := by decide +kernel
theorem dL_law_378 : decode cL_law 378 = .ok (.iadd, 1) := by decide +kernel
theorem dL_law_379 : decode cL_law 379 = .ok (.iaload, 1) := by decide +kernel
theorem dL_law_380 : decode cL_law 380 = .ok (.invokevirtual 42, 3) := by decide +kernel
theorem dL_law_383 : decode cL_law 383 = .ok (.aload_n 2, 1) := by decide +kernel
theorem dL_law_384 : decode cL_law 384 = .ok (.aload_n 0, 1) := by decide +kernel
theorem dL_law_385 : decode cL_law 385 = .ok (.iload 4, 2) := by decide +kernel
theorem dL_law_387 : decode cL_law 387 = .ok (.iconst 1, 1) := by decide +kernel
theorem dL_law_388 : decode cL_law 388 = .ok (.iadd, 1) := by decide +kernel
theorem dL_law_389 : decode cL_law 389 = .ok (.iaload, 1) := by decide +kernel
theorem dL_law_390 : decode cL_law 390 = .ok (.aload_n 0, 1) := by decide +kernel
theorem dL_law_391 : decode cL_law 391 = .ok (.iload 4, 2) := by decide +kernel
theorem dL_law_393 : decode cL_law 393 = .ok (.iconst 2, 1) := by decide +kernel
theorem dL_law_394 : decode cL_law 394 = .ok (.iadd, 1) := by decide +kernel
theorem dL_law_395 : decode cL_law 395 = .ok (.iaload, 1) := by decide +kernel
theorem dL_law_396 : decode cL_law 396 = .ok (.aload_n 0, 1) := by decide +kernel
theorem dL_law_397 : decode cL_law 397 = .ok (.iload 4, 2) := by decide +kernel
theorem dL_law_399 : decode cL_law 399 = .ok (.iconst 3, 1) := by decide +kernel
theorem dL_law_400 : decode cL_law 400 = .ok (.iadd, 1) := by decide +kernel
theorem dL_law_401 : decode cL_law 401 = .ok (.iaload, 1) := by decide +kernel
theorem dL_law_402 : decode cL_law 402 = .ok (.invokevirtual 46, 3) := by decide +kernel
theorem dL_law_405 : decode cL_law 405 = .ok (.if_icmp .eq 699, 3) := by decide +kernel
theorem dL_law_408 : decode cL_law 408 = .ok (.iconst 0, 1) := by decide +kernel
theorem dL_law_409 : decode cL_law 409 = .ok (.ireturn, 1) := by decide +kernel
theorem dL_law_410 : decode cL_law 410 = .ok (.aload_n 1, 1) := by decide +kernel
theorem dL_law_411 : decode cL_law 411 = .ok (.aload_n 0, 1) := by decide +kernel
theorem dL_law_412 : decode cL_law 412 = .ok (.iload 4, 2) := by decide +kernel
theorem dL_law_414 : decode cL_law 414 = .ok (.iconst 1, 1) := by decide +kernel
theorem dL_law_415 : decode cL_law 415 = .ok (.iadd, 1) := by decide +kernel
theorem dL_law_416 : decode cL_law 416 = .ok (.iaload, 1) := by decide +kernel
theorem dL_law_417 : decode cL_law 417 = .ok (.aload_n 0, 1) := by decide +kernel
theorem dL_law_418 : decode cL_law 418 = .ok (.iload 4, 2) := by decide +kernel
theorem dL_law_420 : decode cL_law 420 = .ok (.iconst 2, 1) := by decide +kernel
theorem dL_law_421 : decode cL_law 421 = .ok (.iadd, 1) := by decide +kernel
theorem dL_law_422 : decode cL_law 422 = .ok (.iaload, 1) := by decide +kernel
theorem dL_law_423 : decode cL_law 423 = .ok (.invokevirtual 47, 3) := by decide +kernel
theorem dL_law_426 : decode cL_law 426 = .ok (.aload_n 2, 1) := by decide +kernel
theorem dL_law_427 : decode cL_law 427 = .ok (.aload_n 0, 1) := by decide +kernel
theorem dL_law_428 : decode cL_law 428 = .ok (.iload 4, 2) := by decide +kernel
theorem dL_law_430 : decode cL_law 430 = .ok (.iconst 1, 1) := by decide +kernel
theorem dL_law_431 : decode cL_law 431 = .ok (.iadd, 1) := by decide +kernel
theorem dL_law_432 : decode cL_law 432 = .ok (.iaload, 1) := by decide +kernel
theorem dL_law_433 : decode cL_law 433 = .ok (.aload_n 0, 1) := by decide +kernel
theorem dL_law_434 : decode cL_law 434 = .ok (.iload 4, 2) := by decide +kernel
theorem dL_law_436 : decode cL_law 436 = .ok (.iconst 2, 1) := by decide +kernel
theorem dL_law_437 : decode cL_law 437 = .ok (.iadd, 1) := by decide +kernel
theorem dL_law_438 : decode cL_law 438 = .ok (.iaload, 1) := by decide +kernel
theorem dL_law_439 : decode cL_law 439 = .ok (.invokevirtual 50, 3) := by decide +kernel
theorem dL_law_442 : decode cL_law 442 = .ok (.if_icmp .eq 662, 3) := by decide +kernel
theorem dL_law_445 : decode cL_law 445 = .ok (.iconst 0, 1) := by decide +kernel
theorem dL_law_446 : decode cL_law 446 = .ok (.ireturn, 1) := by decide +kernel
theorem dL_law_447 : decode cL_law 447 = .ok (.aload_n 1, 1) := by decide +kernel
theorem dL_law_448 : decode cL_law 448 = .ok (.aload_n 0, 1) := by decide +kernel
theorem dL_law_449 : decode cL_law 449 = .ok (.iload 4, 2) := by decide +kernel
theorem dL_law_451 : decode cL_law 451 = .ok (.iconst 1, 1) := by decide +kernel
theorem dL_law_452 : decode cL_law 452 = .ok (.iadd, 1) := by decide +kernel
theorem dL_law_453 : decode cL_law 453 = .ok (.iaload, 1) := by decide +kernel
theorem dL_law_454 : decode cL_law 454 = .ok (.aload_n 0, 1) := by decide +kernel
theorem dL_law_455 : decode cL_law 455 = .ok (.iload 4, 2) := by decide +kernel
theorem dL_law_457 : decode cL_law 457 = .ok (.iconst 2, 1) := by decide +kernel
theorem dL_law_458 : decode cL_law 458 = .ok (.iadd, 1) := by decide +kernel
theorem dL_law_459 : decode cL_law 459 = .ok (.iaload, 1) := by decide +kernel
theorem dL_law_460 : decode cL_law 460 = .ok (.invokevirtual 51, 3) := by decide +kernel
theorem dL_law_463 : decode cL_law 463 = .ok (.aload_n 2, 1) := by decide +kernel
theorem dL_law_464 : decode cL_law 464 = .ok (.aload_n 0, 1) := by decide +kernel
theorem dL_law_465 : decode cL_law 465 = .ok (.iload 4, 2) := by decide +kernel
theorem dL_law_467 : decode cL_law 467 = .ok (.iconst 1, 1) := by decide +kernel
theorem dL_law_468 : decode cL_law 468 = .ok (.iadd, 1) := by decide +kernel
theorem dL_law_469 : decode cL_law 469 = .ok (.iaload, 1) := by decide +kernel
theorem dL_law_470 : decode cL_law 470 = .ok (.aload_n 0, 1) := by decide +kernel
theorem dL_law_471 : decode cL_law 471 = .ok (.iload 4, 2) := by decide +kernel
theorem dL_law_473 : decode cL_law 473 = .ok (.iconst 2, 1) := by decide +kernel
theorem dL_law_474 : decode cL_law 474 = .ok (.iadd, 1) := by decide +kernel
theorem dL_law_475 : decode cL_law 475 = .ok (.iaload, 1) := by decide +kernel
theorem dL_law_476 : decode cL_law 476 = .ok (.invokevirtual 54, 3) := by decide +kernel
theorem dL_law_479 : decode cL_law 479 = .ok (.if_icmp .eq 625, 3) := by decide +kernel
theorem dL_law_482 : decode cL_law 482 = .ok (.iconst 0, 1) := by decide +kernel
theorem dL_law_483 : decode cL_law 483 = .ok (.ireturn, 1) := by decide +kernel
theorem dL_law_484 : decode cL_law 484 = .ok (.aload_n 1, 1) := by decide +kernel
theorem dL_law_485 : decode cL_law 485 = .ok (.aload_n 0, 1) := by decide +kernel
theorem dL_law_486 : decode cL_law 486 = .ok (.iload 4, 2) := by decide +kernel
theorem dL_law_488 : decode cL_law 488 = .ok (.iconst 1, 1) := by decide +kernel
theorem dL_law_489 : decode cL_law 489 = .ok (.iadd, 1) := by decide +kernel
theorem dL_law_490 : decode cL_law 490 = .ok (.iaload, 1) := by decide +kernel
theorem dL_law_491 : decode cL_law 491 = .ok (.aload_n 0, 1) := by decide +kernel
theorem dL_law_492 : decode cL_law 492 = .ok (.iload 4, 2) := by decide +kernel
theorem dL_law_494 : decode cL_law 494 = .ok (.iconst 2, 1) := by decide +kernel
theorem dL_law_495 : decode cL_law 495 = .ok (.iadd, 1) := by decide +kernel
theorem dL_law_496 : decode cL_law 496 = .ok (.iaload, 1) := by decide +kernel
theorem dL_law_497 : decode cL_law 497 = .ok (.invokevirtual 55, 3) := by decide +kernel
theorem dL_law_500 : decode cL_law 500 = .ok (.aload_n 2, 1) := by decide +kernel
theorem dL_law_501 : decode cL_law 501 = .ok (.aload_n 0, 1) := by decide +kernel
theorem dL_law_502 : decode cL_law 502 = .ok (.iload 4, 2) := by decide +kernel
theorem dL_law_504 : decode cL_law 504 = .ok (.iconst 1, 1) := by decide +kernel
theorem dL_law_505 : decode cL_law 505 = .ok (.iadd, 1) := by decide +kernel
theorem dL_law_506 : decode cL_law 506 = .ok (.iaload, 1) := by decide +kernel
theorem dL_law_507 : decode cL_law 507 = .ok (.aload_n 0, 1) := by decide +kernel
theorem dL_law_508 : decode cL_law 508 = .ok (.iload 4, 2) := by decide +kernel
theorem dL_law_510 : decode cL_law 510 = .ok (.iconst 2, 1) := by decide +kernel
theorem dL_law_511 : decode cL_law 511 = .ok (.iadd, 1) := by decide +kernel
theorem dL_law_512 : decode cL_law 512 = .ok (.iaload, 1) := by decide +kernel
theorem dL_law_513 : decode cL_law 513 = .ok (.invokevirtual 58, 3) := by decide +kernel
theorem dL_law_516 : decode cL_law 516 = .ok (.if_icmp .eq 588, 3) := by decide +kernel
theorem dL_law_519 : decode cL_law 519 = .ok (.iconst 0, 1) := by decide +kernel
theorem dL_law_520 : decode cL_law 520 = .ok (.ireturn, 1) := by decide +kernel
theorem dL_law_521 : decode cL_law 521 = .ok (.aload_n 1, 1) := by decide +kernel
theorem dL_law_522 : decode cL_law 522 = .ok (.aload_n 0, 1) := by decide +kernel
theorem dL_law_523 : decode cL_law 523 = .ok (.iload 4, 2) := by decide +kernel
theorem dL_law_525 : decode cL_law 525 = .ok (.iconst 1, 1) := by decide +kernel
theorem dL_law_526 : decode cL_law 526 = .ok (.iadd, 1) := by decide +kernel
theorem dL_law_527 : decode cL_law 527 = .ok (.iaload, 1) := by decide +kernel
theorem dL_law_528 : decode cL_law 528 = .ok (.aload_n 0, 1) := by decide +kernel
theorem dL_law_529 : decode cL_law 529 = .ok (.iload 4, 2) := by decide +kernel
theorem dL_law_531 : decode cL_law 531 = .ok (.iconst 2, 1) := by decide +kernel
theorem dL_law_532 : decode cL_law 532 = .ok (.iadd, 1) := by decide +kernel
theorem dL_law_533 : decode cL_law 533 = .ok (.iaload, 1) := by decide +kernel
theorem dL_law_534 : decode cL_law 534 = .ok (.invokevirtual 59, 3) := by decide +kernel
theorem dL_law_537 : decode cL_law 537 = .ok (.aload_n 2, 1) := by decide +kernel
theorem dL_law_538 : decode cL_law 538 = .ok (.aload_n 0, 1) := by decide +kernel
theorem dL_law_539 : decode cL_law 539 = .ok (.iload 4, 2) := by decide +kernel
theorem dL_law_541 : decode cL_law 541 = .ok (.iconst 1, 1) := by decide +kernel
theorem dL_law_542 : decode cL_law 542 = .ok (.iadd, 1) := by decide +kernel
theorem dL_law_543 : decode cL_law 543 = .ok (.iaload, 1) := by decide +kernel
theorem dL_law_544 : decode cL_law 544 = .ok (.aload_n 0, 1) := by decide +kernel
theorem dL_law_545 : decode cL_law 545 = .ok (.iload 4, 2) := by decide +kernel
theorem dL_law_547 : decode cL_law 547 = .ok (.iconst 2, 1) := by decide +kernel
theorem dL_law_548 : decode cL_law 548 = .ok (.iadd, 1) := by decide +kernel
theorem dL_law_549 : decode cL_law 549 = .ok (.iaload, 1) := by decide +kernel
theorem dL_law_550 : decode cL_law 550 = .ok (.invokevirtual 62, 3) := by decide +kernel
theorem dL_law_553 : decode cL_law 553 = .ok (.if_icmp .eq 551, 3) := by decide +kernel
theorem dL_law_556 : decode cL_law 556 = .ok (.iconst 0, 1) := by decide +kernel
theorem dL_law_557 : decode cL_law 557 = .ok (.ireturn, 1) := by decide +kernel
theorem dL_law_558 : decode cL_law 558 = .ok (.aload_n 1, 1) := by decide +kernel
theorem dL_law_559 : decode cL_law 559 = .ok (.aload_n 0, 1) := by decide +kernel
theorem dL_law_560 : decode cL_law 560 = .ok (.iload 4, 2) := by decide +kernel
theorem dL_law_562 : decode cL_law 562 = .ok (.iconst 1, 1) := by decide +kernel
theorem dL_law_563 : decode cL_law 563 = .ok (.iadd, 1) := by decide +kernel
theorem dL_law_564 : decode cL_law 564 = .ok (.iaload, 1) := by decide +kernel
theorem dL_law_565 : decode cL_law 565 = .ok (.invokevirtual 63, 3) := by decide +kernel
theorem dL_law_568 : decode cL_law 568 = .ok (.aload_n 2, 1) := by decide +kernel
theorem dL_law_569 : decode cL_law 569 = .ok (.aload_n 0, 1) := by decide +kernel
theorem dL_law_570 : decode cL_law 570 = .ok (.iload 4, 2) := by decide +kernel
theorem dL_law_572 : decode cL_law 572 = .ok (.iconst 1, 1) := by decide +kernel
theorem dL_law_573 : decode cL_law 573 = .ok (.iadd, 1) := by decide +kernel
theorem dL_law_574 : decode cL_law 574 = .ok (.iaload, 1) := by decide +kernel
theorem dL_law_575 : decode cL_law 575 = .ok (.invokevirtual 67, 3) := by decide +kernel
theorem dL_law_578 : decode cL_law 578 = .ok (.if_icmp .eq 526, 3) := by decide +kernel
theorem dL_law_581 : decode cL_law 581 = .ok (.iconst 0, 1) := by decide +kernel
theorem dL_law_582 : decode cL_law 582 = .ok (.ireturn, 1) := by decide +kernel
theorem dL_law_583 : decode cL_law 583 = .ok (.aload_n 1, 1) := by decide +kernel
theorem dL_law_584 : decode cL_law 584 = .ok (.aload_n 0, 1) := by decide +kernel
theorem dL_law_585 : decode cL_law 585 = .ok (.iload 4, 2) := by decide +kernel
theorem dL_law_587 : decode cL_law 587 = .ok (.iconst 1, 1) := by decide +kernel
theorem dL_law_588 : decode cL_law 588 = .ok (.iadd, 1) := by decide +kernel
theorem dL_law_589 : decode cL_law 589 = .ok (.iaload, 1) := by decide +kernel
theorem dL_law_590 : decode cL_law 590 = .ok (.invokevirtual 68, 3) := by decide +kernel
theorem dL_law_593 : decode cL_law 593 = .ok (.aload_n 2, 1) := by decide +kernel
theorem dL_law_594 : decode cL_law 594 = .ok (.aload_n 0, 1) := by decide +kernel
theorem dL_law_595 : decode cL_law 595 = .ok (.iload 4, 2) := by decide +kernel
theorem dL_law_597 : decode cL_law 597 = .ok (.iconst 1, 1) := by decide +kernel
theorem dL_law_598 : decode cL_law 598 = .ok (.iadd, 1) := by decide +kernel
theorem dL_law_599 : decode cL_law 599 = .ok (.iaload, 1) := by decide +kernel
theorem dL_law_600 : decode cL_law 600 = .ok (.invokevirtual 71, 3) := by decide +kernel
theorem dL_law_603 : decode cL_law 603 = .ok (.if_icmp .eq 501, 3) := by decide +kernel
theorem dL_law_606 : decode cL_law 606 = .ok (.iconst 0, 1) := by decide +kernel
theorem dL_law_607 : decode cL_law 607 = .ok (.ireturn, 1) := by decide +kernel
theorem dL_law_608 : decode cL_law 608 = .ok (.aload_n 1, 1) := by decide +kernel
theorem dL_law_609 : decode cL_law 609 = .ok (.aload_n 0, 1) := by decide +kernel
theorem dL_law_610 : decode cL_law 610 = .ok (.iload 4, 2) := by decide +kernel
theorem dL_law_612 : decode cL_law 612 = .ok (.iconst 1, 1) := by decide +kernel
theorem dL_law_613 : decode cL_law 613 = .ok (.iadd, 1) := by decide +kernel
theorem dL_law_614 : decode cL_law 614 = .ok (.iaload, 1) := by decide +kernel
theorem dL_law_615 : decode cL_law 615 = .ok (.aload_n 0, 1) := by decide +kernel
theorem dL_law_616 : decode cL_law 616 = .ok (.iload 4, 2) := by decide +kernel
theorem dL_law_618 : decode cL_law 618 = .ok (.iconst 2, 1) := by decide +kernel
theorem dL_law_619 : decode cL_law 619 = .ok (.iadd, 1) := by decide +kernel
theorem dL_law_620 : decode cL_law 620 = .ok (.iaload, 1) := by decide +kernel
theorem dL_law_621 : decode cL_law 621 = .ok (.invokevirtual 72, 3) := by decide +kernel
theorem dL_law_624 : decode cL_law 624 = .ok (.aload_n 2, 1) := by decide +kernel
theorem dL_law_625 : decode cL_law 625 = .ok (.aload_n 0, 1) := by decide +kernel
theorem dL_law_626 : decode cL_law 626 = .ok (.iload 4, 2) := by decide +kernel
theorem dL_law_628 : decode cL_law 628 = .ok (.iconst 1, 1) := by decide +kernel
theorem dL_law_629 : decode cL_law 629 = .ok (.iadd, 1) := by decide +kernel
theorem dL_law_630 : decode cL_law 630 = .ok (.iaload, 1) := by decide +kernel
theorem dL_law_631 : decode cL_law 631 = .ok (.aload_n 0, 1) := by decide +kernel
theorem dL_law_632 : decode cL_law 632 = .ok (.iload 4, 2) := by decide +kernel
theorem dL_law_634 : decode cL_law 634 = .ok (.iconst 2, 1) := by decide +kernel
theorem dL_law_635 : decode cL_law 635 = .ok (.iadd, 1) := by decide +kernel
theorem dL_law_636 : decode cL_law 636 = .ok (.iaload, 1) := by decide +kernel
theorem dL_law_637 : decode cL_law 637 = .ok (.invokevirtual 75, 3) := by decide +kernel
theorem dL_law_640 : decode cL_law 640 = .ok (.if_icmp .eq 464, 3) := by decide +kernel
theorem dL_law_643 : decode cL_law 643 = .ok (.iconst 0, 1) := by decide +kernel
theorem dL_law_644 : decode cL_law 644 = .ok (.ireturn, 1) := by decide +kernel
theorem dL_law_645 : decode cL_law 645 = .ok (.aload_n 1, 1) := by decide +kernel
theorem dL_law_646 : decode cL_law 646 = .ok (.aload_n 0, 1) := by decide +kernel
theorem dL_law_647 : decode cL_law 647 = .ok (.iload 4, 2) := by decide +kernel
theorem dL_law_649 : decode cL_law 649 = .ok (.iconst 1, 1) := by decide +kernel
theorem dL_law_650 : decode cL_law 650 = .ok (.iadd, 1) := by decide +kernel
theorem dL_law_651 : decode cL_law 651 = .ok (.iaload, 1) := by decide +kernel
theorem dL_law_652 : decode cL_law 652 = .ok (.aload_n 0, 1) := by decide +kernel
theorem dL_law_653 : decode cL_law 653 = .ok (.iload 4, 2) := by decide +kernel
theorem dL_law_655 : decode cL_law 655 = .ok (.iconst 2, 1) := by decide +kernel
theorem dL_law_656 : decode cL_law 656 = .ok (.iadd, 1) := by decide +kernel
theorem dL_law_657 : decode cL_law 657 = .ok (.iaload, 1) := by decide +kernel
theorem dL_law_658 : decode cL_law 658 = .ok (.invokevirtual 76, 3) := by decide +kernel
theorem dL_law_661 : decode cL_law 661 = .ok (.aload_n 2, 1) := by decide +kernel
theorem dL_law_662 : decode cL_law 662 = .ok (.aload_n 0, 1) := by decide +kernel
theorem dL_law_663 : decode cL_law 663 = .ok (.iload 4, 2) := by decide +kernel
theorem dL_law_665 : decode cL_law 665 = .ok (.iconst 1, 1) := by decide +kernel
theorem dL_law_666 : decode cL_law 666 = .ok (.iadd, 1) := by decide +kernel
theorem dL_law_667 : decode cL_law 667 = .ok (.iaload, 1) := by decide +kernel
theorem dL_law_668 : decode cL_law 668 = .ok (.aload_n 0, 1) := by decide +kernel
theorem dL_law_669 : decode cL_law 669 = .ok (.iload 4, 2) := by decide +kernel
theorem dL_law_671 : decode cL_law 671 = .ok (.iconst 2, 1) := by decide +kernel
theorem dL_law_672 : decode cL_law 672 = .ok (.iadd, 1) := by decide +kernel
theorem dL_law_673 : decode cL_law 673 = .ok (.iaload, 1) := by decide +kernel
theorem dL_law_674 : decode cL_law 674 = .ok (.invokevirtual 79, 3) := by decide +kernel
theorem dL_law_677 : decode cL_law 677 = .ok (.if_icmp .eq 427, 3) := by decide +kernel
theorem dL_law_680 : decode cL_law 680 = .ok (.iconst 0, 1) := by decide +kernel
theorem dL_law_681 : decode cL_law 681 = .ok (.ireturn, 1) := by decide +kernel
theorem dL_law_682 : decode cL_law 682 = .ok (.aload_n 1, 1) := by decide +kernel
theorem dL_law_683 : decode cL_law 683 = .ok (.aload_n 0, 1) := by decide +kernel
theorem dL_law_684 : decode cL_law 684 = .ok (.iload 4, 2) := by decide +kernel
theorem dL_law_686 : decode cL_law 686 = .ok (.iconst 1, 1) := by decide +kernel
theorem dL_law_687 : decode cL_law 687 = .ok (.iadd, 1) := by decide +kernel
theorem dL_law_688 : decode cL_law 688 = .ok (.iaload, 1) := by decide +kernel
theorem dL_law_689 : decode cL_law 689 = .ok (.invokevirtual 80, 3) := by decide +kernel
theorem dL_law_692 : decode cL_law 692 = .ok (.aload_n 2, 1) := by decide +kernel
theorem dL_law_693 : decode cL_law 693 = .ok (.aload_n 0, 1) := by decide +kernel
theorem dL_law_694 : decode cL_law 694 = .ok (.iload 4, 2) := by decide +kernel
theorem dL_law_696 : decode cL_law 696 = .ok (.iconst 1, 1) := by decide +kernel
theorem dL_law_697 : decode cL_law 697 = .ok (.iadd, 1) := by decide +kernel
theorem dL_law_698 : decode cL_law 698 = .ok (.iaload, 1) := by decide +kernel
theorem dL_law_699 : decode cL_law 699 = .ok (.invokevirtual 83, 3) := by decide +kernel
theorem dL_law_702 : decode cL_law 702 = .ok (.if_icmp .eq 402, 3) := by decide +kernel
theorem dL_law_705 : decode cL_law 705 = .ok (.iconst 0, 1) := by decide +kernel
theorem dL_law_706 : decode cL_law 706 = .ok (.ireturn, 1) := by decide +kernel
theorem dL_law_707 : decode cL_law 707 = .ok (.aload_n 1, 1) := by decide +kernel
theorem dL_law_708 : decode cL_law 708 = .ok (.aload_n 0, 1) := by decide +kernel
theorem dL_law_709 : decode cL_law 709 = .ok (.iload 4, 2) := by decide +kernel
theorem dL_law_711 : decode cL_law 711 = .ok (.iconst 1, 1) := by decide +kernel
theorem dL_law_712 : decode cL_law 712 = .ok (.iadd, 1) := by decide +kernel
theorem dL_law_713 : decode cL_law 713 = .ok (.iaload, 1) := by decide +kernel
theorem dL_law_714 : decode cL_law 714 = .ok (.invokevirtual 84, 3) := by decide +kernel
theorem dL_law_717 : decode cL_law 717 = .ok (.aload_n 2, 1) := by decide +kernel
theorem dL_law_718 : decode cL_law 718 = .ok (.aload_n 0, 1) := by decide +kernel
theorem dL_law_719 : decode cL_law 719 = .ok (.iload 4, 2) := by decide +kernel
theorem dL_law_721 : decode cL_law 721 = .ok (.iconst 1, 1) := by decide +kernel
theorem dL_law_722 : decode cL_law 722 = .ok (.iadd, 1) := by decide +kernel
theorem dL_law_723 : decode cL_law 723 = .ok (.iaload, 1) := by decide +kernel
theorem dL_law_724 : decode cL_law 724 = .ok (.invokevirtual 87, 3) := by decide +kernel
theorem dL_law_727 : decode cL_law 727 = .ok (.if_icmp .eq 377, 3) := by decide +kernel
theorem dL_law_730 : decode cL_law 730 = .ok (.iconst 0, 1) := by decide +kernel
theorem dL_law_731 : decode cL_law 731 = .ok (.ireturn, 1) := by decide +kernel
theorem dL_law_732 : decode cL_law 732 = .ok (.aload_n 1, 1) := by decide +kernel
theorem dL_law_733 : decode cL_law 733 = .ok (.aload_n 0, 1) := by decide +kernel
theorem dL_law_734 : decode cL_law 734 = .ok (.iload 4, 2) := by decide +kernel
theorem dL_law_736 : decode cL_law 736 = .ok (.iconst 1, 1) := by decide +kernel
theorem dL_law_737 : decode cL_law 737 = .ok (.iadd, 1) := by decide +kernel
theorem dL_law_738 : decode cL_law 738 = .ok (.iaload, 1) := by decide +kernel
theorem dL_law_739 : decode cL_law 739 = .ok (.invokevirtual 88, 3) := by decide +kernel
theorem dL_law_742 : decode cL_law 742 = .ok (.aload_n 2, 1) := by decide +kernel
theorem dL_law_743 : decode cL_law 743 = .ok (.aload_n 0, 1) := by decide +kernel
theorem dL_law_744 : decode cL_law 744 = .ok (.iload 4, 2) := by decide +kernel
theorem dL_law_746 : decode cL_law 746 = .ok (.iconst 1, 1) := by decide +kernel
theorem dL_law_747 : decode cL_law 747 = .ok (.iadd, 1) := by decide +kernel
theorem dL_law_748 : decode cL_law 748 = .ok (.iaload, 1) := by decide +kernel
theorem dL_law_749 : decode cL_law 749 = .ok (.invokevirtual 91, 3) := by decide +kernel
theorem dL_law_752 : decode cL_law 752 = .ok (.if_icmp .eq 352, 3) := by decide +kernel
theorem dL_law_755 : decode cL_law 755 = .ok (.iconst 0, 1) := by decide +kernel
theorem dL_law_756 : decode cL_law 756 = .ok (.ireturn, 1) := by decide +kernel
theorem dL_law_757 : decode cL_law 757 = .ok (.aload_n 1, 1) := by decide +kernel
theorem dL_law_758 : decode cL_law 758 = .ok (.invokevirtual 92, 3) := by decide +kernel
theorem dL_law_761 : decode cL_law 761 = .ok (.aload_n 2, 1) := by decide +kernel
theorem dL_law_762 : decode cL_law 762 = .ok (.invokevirtual 95, 3) := by decide +kernel
theorem dL_law_765 : decode cL_law 765 = .ok (.if_icmp .eq 339, 3) := by decide +kernel
theorem dL_law_768 : decode cL_law 768 = .ok (.iconst 0, 1) := by decide +kernel
theorem dL_law_769 : decode cL_law 769 = .ok (.ireturn, 1) := by decide +kernel
theorem dL_law_770 : decode cL_law 770 = .ok (.aload_n 1, 1) := by decide +kernel
theorem dL_law_771 : decode cL_law 771 = .ok (.aload_n 0, 1) := by decide +kernel
theorem dL_law_772 : decode cL_law 772 = .ok (.iload 4, 2) := by decide +kernel
theorem dL_law_774 : decode cL_law 774 = .ok (.iconst 1, 1) := by decide +kernel
theorem dL_law_775 : decode cL_law 775 = .ok (.iadd, 1) := by decide +kernel
theorem dL_law_776 : decode cL_law 776 = .ok (.iaload, 1) := by decide +kernel
theorem dL_law_777 : decode cL_law 777 = .ok (.aload_n 0, 1) := by decide +kernel
theorem dL_law_778 : decode cL_law 778 = .ok (.iload 4, 2) := by decide +kernel
theorem dL_law_780 : decode cL_law 780 = .ok (.iconst 2, 1) := by decide +kernel
theorem dL_law_781 : decode cL_law 781 = .ok (.iadd, 1) := by decide +kernel
theorem dL_law_782 : decode cL_law 782 = .ok (.iaload, 1) := by decide +kernel
theorem dL_law_783 : decode cL_law 783 = .ok (.invokevirtual 96, 3) := by decide +kernel
theorem dL_law_786 : decode cL_law 786 = .ok (.aload_n 2, 1) := by decide +kernel
theorem dL_law_787 : decode cL_law 787 = .ok (.aload_n 0, 1) := by decide +kernel
theorem dL_law_788 : decode cL_law 788 = .ok (.iload 4, 2) := by decide +kernel
theorem dL_law_790 : decode cL_law 790 = .ok (.iconst 1, 1) := by decide +kernel
theorem dL_law_791 : decode cL_law 791 = .ok (.iadd, 1) := by decide +kernel
theorem dL_law_792 : decode cL_law 792 = .ok (.iaload, 1) := by decide +kernel
theorem dL_law_793 : decode cL_law 793 = .ok (.aload_n 0, 1) := by decide +kernel
theorem dL_law_794 : decode cL_law 794 = .ok (.iload 4, 2) := by decide +kernel
theorem dL_law_796 : decode cL_law 796 = .ok (.iconst 2, 1) := by decide +kernel
theorem dL_law_797 : decode cL_law 797 = .ok (.iadd, 1) := by decide +kernel
theorem dL_law_798 : decode cL_law 798 = .ok (.iaload, 1) := by decide +kernel
theorem dL_law_799 : decode cL_law 799 = .ok (.invokevirtual 99, 3) := by decide +kernel
theorem dL_law_802 : decode cL_law 802 = .ok (.if_icmp .eq 302, 3) := by decide +kernel
theorem dL_law_805 : decode cL_law 805 = .ok (.iconst 0, 1) := by decide +kernel
theorem dL_law_806 : decode cL_law 806 = .ok (.ireturn, 1) := by decide +kernel
theorem dL_law_807 : decode cL_law 807 = .ok (.aload_n 1, 1) := by decide +kernel
theorem dL_law_808 : decode cL_law 808 = .ok (.aload_n 0, 1) := by decide +kernel
theorem dL_law_809 : decode cL_law 809 = .ok (.iload 4, 2) := by decide +kernel
theorem dL_law_811 : decode cL_law 811 = .ok (.iconst 1, 1) := by decide +kernel
theorem dL_law_812 : decode cL_law 812 = .ok (.iadd, 1) := by decide +kernel
theorem dL_law_813 : decode cL_law 813 = .ok (.iaload, 1) := by decide +kernel
theorem dL_law_814 : decode cL_law 814 = .ok (.invokevirtual 100, 3) := by decide +kernel
theorem dL_law_817 : decode cL_law 817 = .ok (.aload_n 2, 1) := by decide +kernel
theorem dL_law_818 : decode cL_law 818 = .ok (.aload_n 0, 1) := by decide +kernel
theorem dL_law_819 : decode cL_law 819 = .ok (.iload 4, 2) := by decide +kernel
theorem dL_law_821 : decode cL_law 821 = .ok (.iconst 1, 1) := by decide +kernel
theorem dL_law_822 : decode cL_law 822 = .ok (.iadd, 1) := by decide +kernel
theorem dL_law_823 : decode cL_law 823 = .ok (.iaload, 1) := by decide +kernel
theorem dL_law_824 : decode cL_law 824 = .ok (.invokevirtual 103, 3) := by decide +kernel
theorem dL_law_827 : decode cL_law 827 = .ok (.if_icmp .eq 277, 3) := by decide +kernel
theorem dL_law_830 : decode cL_law 830 = .ok (.iconst 0, 1) := by decide +kernel
theorem dL_law_831 : decode cL_law 831 = .ok (.ireturn, 1) := by decide +kernel
theorem dL_law_832 : decode cL_law 832 = .ok (.aload_n 1, 1) := by decide +kernel
theorem dL_law_833 : decode cL_law 833 = .ok (.invokevirtual 104, 3) := by decide +kernel
theorem dL_law_836 : decode cL_law 836 = .ok (.aload_n 2, 1) := by decide +kernel
theorem dL_law_837 : decode cL_law 837 = .ok (.invokevirtual 107, 3) := by decide +kernel
theorem dL_law_840 : decode cL_law 840 = .ok (.if_icmp .eq 264, 3) := by decide +kernel
theorem dL_law_843 : decode cL_law 843 = .ok (.iconst 0, 1) := by decide +kernel
theorem dL_law_844 : decode cL_law 844 = .ok (.ireturn, 1) := by decide +kernel
theorem dL_law_845 : decode cL_law 845 = .ok (.aload_n 1, 1) := by decide +kernel
theorem dL_law_846 : decode cL_law 846 = .ok (.invokevirtual 108, 3) := by decide +kernel
theorem dL_law_849 : decode cL_law 849 = .ok (.aload_n 2, 1) := by decide +kernel
theorem dL_law_850 : decode cL_law 850 = .ok (.invokevirtual 111, 3) := by decide +kernel
theorem dL_law_853 : decode cL_law 853 = .ok (.if_icmp .eq 251, 3) := by decide +kernel
theorem dL_law_856 : decode cL_law 856 = .ok (.iconst 0, 1) := by decide +kernel
theorem dL_law_857 : decode cL_law 857 = .ok (.ireturn, 1) := by decide +kernel
theorem dL_law_858 : decode cL_law 858 = .ok (.aload_n 1, 1) := by decide +kernel
theorem dL_law_859 : decode cL_law 859 = .ok (.invokevirtual 112, 3) := by decide +kernel
theorem dL_law_862 : decode cL_law 862 = .ok (.aload_n 2, 1) := by decide +kernel
theorem dL_law_863 : decode cL_law 863 = .ok (.invokevirtual 115, 3) := by decide +kernel
theorem dL_law_866 : decode cL_law 866 = .ok (.if_icmp .eq 238, 3) := by decide +kernel
theorem dL_law_869 : decode cL_law 869 = .ok (.iconst 0, 1) := by decide +kernel
theorem dL_law_870 : decode cL_law 870 = .ok (.ireturn, 1) := by decide +kernel
theorem dL_law_871 : decode cL_law 871 = .ok (.aload_n 1, 1) := by decide +kernel
theorem dL_law_872 : decode cL_law 872 = .ok (.invokevirtual 116, 3) := by decide +kernel
theorem dL_law_875 : decode cL_law 875 = .ok (.aload_n 2, 1) := by decide +kernel
theorem dL_law_876 : decode cL_law 876 = .ok (.invokevirtual 119, 3) := by decide +kernel
theorem dL_law_879 : decode cL_law 879 = .ok (.if_icmp .eq 225, 3) := by decide +kernel
theorem dL_law_882 : decode cL_law 882 = .ok (.iconst 0, 1) := by decide +kernel
theorem dL_law_883 : decode cL_law 883 = .ok (.ireturn, 1) := by decide +kernel
theorem dL_law_884 : decode cL_law 884 = .ok (.aload_n 1, 1) := by decide +kernel
theorem dL_law_885 : decode cL_law 885 = .ok (.aload_n 0, 1) := by decide +kernel
theorem dL_law_886 : decode cL_law 886 = .ok (.iload 4, 2) := by decide +kernel
theorem dL_law_888 : decode cL_law 888 = .ok (.iconst 1, 1) := by decide +kernel
theorem dL_law_889 : decode cL_law 889 = .ok (.iadd, 1) := by decide +kernel
theorem dL_law_890 : decode cL_law 890 = .ok (.iaload, 1) := by decide +kernel
theorem dL_law_891 : decode cL_law 891 = .ok (.invokevirtual 120, 3) := by decide +kernel
theorem dL_law_894 : decode cL_law 894 = .ok (.aload_n 2, 1) := by decide +kernel
theorem dL_law_895 : decode cL_law 895 = .ok (.aload_n 0, 1) := by decide +kernel
theorem dL_law_896 : decode cL_law 896 = .ok (.iload 4, 2) := by decide +kernel
theorem dL_law_898 : decode cL_law 898 = .ok (.iconst 1, 1) := by decide +kernel
theorem dL_law_899 : decode cL_law 899 = .ok (.iadd, 1) := by decide +kernel
theorem dL_law_900 : decode cL_law 900 = .ok (.iaload, 1) := by decide +kernel
theorem dL_law_901 : decode cL_law 901 = .ok (.invokevirtual 123, 3) := by decide +kernel
theorem dL_law_904 : decode cL_law 904 = .ok (.if_icmp .eq 200, 3) := by decide +kernel
theorem dL_law_907 : decode cL_law 907 = .ok (.iconst 0, 1) := by decide +kernel
theorem dL_law_908 : decode cL_law 908 = .ok (.ireturn, 1) := by decide +kernel
theorem dL_law_909 : decode cL_law 909 = .ok (.aload_n 1, 1) := by decide +kernel
theorem dL_law_910 : decode cL_law 910 = .ok (.aload_n 0, 1) := by decide +kernel
theorem dL_law_911 : decode cL_law 911 = .ok (.iload 4, 2) := by decide +kernel
theorem dL_law_913 : decode cL_law 913 = .ok (.iconst 1, 1) := by decide +kernel
theorem dL_law_914 : decode cL_law 914 = .ok (.iadd, 1) := by decide +kernel
theorem dL_law_915 : decode cL_law 915 = .ok (.iaload, 1) := by decide +kernel
theorem dL_law_916 : decode cL_law 916 = .ok (.invokevirtual 124, 3) := by decide +kernel
theorem dL_law_919 : decode cL_law 919 = .ok (.aload_n 2, 1) := by decide +kernel
theorem dL_law_920 : decode cL_law 920 = .ok (.aload_n 0, 1) := by decide +kernel
theorem dL_law_921 : decode cL_law 921 = .ok (.iload 4, 2) := by decide +kernel
theorem dL_law_923 : decode cL_law 923 = .ok (.iconst 1, 1) := by decide +kernel
theorem dL_law_924 : decode cL_law 924 = .ok (.iadd, 1) := by decide +kernel
theorem dL_law_925 : decode cL_law 925 = .ok (.iaload, 1) := by decide +kernel
theorem dL_law_926 : decode cL_law 926 = .ok (.invokevirtual 127, 3) := by decide +kernel
theorem dL_law_929 : decode cL_law 929 = .ok (.if_icmp .eq 175, 3) := by decide +kernel
theorem dL_law_932 : decode cL_law 932 = .ok (.iconst 0, 1) := by decide +kernel
theorem dL_law_933 : decode cL_law 933 = .ok (.ireturn, 1) := by decide +kernel
theorem dL_law_934 : decode cL_law 934 = .ok (.aload_n 1, 1) := by decide +kernel
theorem dL_law_935 : decode cL_law 935 = .ok (.aload_n 0, 1) := by decide +kernel
theorem dL_law_936 : decode cL_law 936 = .ok (.iload 4, 2) := by decide +kernel
theorem dL_law_938 : decode cL_law 938 = .ok (.iconst 1, 1) := by decide +kernel
theorem dL_law_939 : decode cL_law 939 = .ok (.iadd, 1) := by decide +kernel
theorem dL_law_940 : decode cL_law 940 = .ok (.iaload, 1) := by decide +kernel
theorem dL_law_941 : decode cL_law 941 = .ok (.invokevirtual 128, 3) := by decide +kernel
theorem dL_law_944 : decode cL_law 944 = .ok (.aload_n 2, 1) := by decide +kernel
theorem dL_law_945 : decode cL_law 945 = .ok (.aload_n 0, 1) := by decide +kernel
theorem dL_law_946 : decode cL_law 946 = .ok (.iload 4, 2) := by decide +kernel
theorem dL_law_948 : decode cL_law 948 = .ok (.iconst 1, 1) := by decide +kernel
theorem dL_law_949 : decode cL_law 949 = .ok (.iadd, 1) := by decide +kernel
theorem dL_law_950 : decode cL_law 950 = .ok (.iaload, 1) := by decide +kernel
theorem dL_law_951 : decode cL_law 951 = .ok (.invokevirtual 131, 3) := by decide +kernel
theorem dL_law_954 : decode cL_law 954 = .ok (.if_icmp .eq 150, 3) := by decide +kernel
theorem dL_law_957 : decode cL_law 957 = .ok (.iconst 0, 1) := by decide +kernel
theorem dL_law_958 : decode cL_law 958 = .ok (.ireturn, 1) := by decide +kernel
theorem dL_law_959 : decode cL_law 959 = .ok (.aload_n 1, 1) := by decide +kernel
theorem dL_law_960 : decode cL_law 960 = .ok (.invokevirtual 132, 3) := by decide +kernel
theorem dL_law_963 : decode cL_law 963 = .ok (.aload_n 2, 1) := by decide +kernel
theorem dL_law_964 : decode cL_law 964 = .ok (.invokevirtual 135, 3) := by decide +kernel
theorem dL_law_967 : decode cL_law 967 = .ok (.if_icmp .eq 137, 3) := by decide +kernel
theorem dL_law_970 : decode cL_law 970 = .ok (.iconst 0, 1) := by decide +kernel
theorem dL_law_971 : decode cL_law 971 = .ok (.ireturn, 1) := by decide +kernel
theorem dL_law_972 : decode cL_law 972 = .ok (.aload_n 1, 1) := by decide +kernel
theorem dL_law_973 : decode cL_law 973 = .ok (.aload_n 0, 1) := by decide +kernel
theorem dL_law_974 : decode cL_law 974 = .ok (.iload 4, 2) := by decide +kernel
theorem dL_law_976 : decode cL_law 976 = .ok (.iconst 1, 1) := by decide +kernel
theorem dL_law_977 : decode cL_law 977 = .ok (.iadd, 1) := by decide +kernel
theorem dL_law_978 : decode cL_law 978 = .ok (.iaload, 1) := by decide +kernel
theorem dL_law_979 : decode cL_law 979 = .ok (.invokevirtual 136, 3) := by decide +kernel
theorem dL_law_982 : decode cL_law 982 = .ok (.aload_n 2, 1) := by decide +kernel
theorem dL_law_983 : decode cL_law 983 = .ok (.aload_n 0, 1) := by decide +kernel
theorem dL_law_984 : decode cL_law 984 = .ok (.iload 4, 2) := by decide +kernel
theorem dL_law_986 : decode cL_law 986 = .ok (.iconst 1, 1) := by decide +kernel
theorem dL_law_987 : decode cL_law 987 = .ok (.iadd, 1) := by decide +kernel
theorem dL_law_988 : decode cL_law 988 = .ok (.iaload, 1) := by decide +kernel
theorem dL_law_989 : decode cL_law 989 = .ok (.invokevirtual 139, 3) := by decide +kernel
theorem dL_law_992 : decode cL_law 992 = .ok (.if_icmp .eq 112, 3) := by decide +kernel
theorem dL_law_995 : decode cL_law 995 = .ok (.iconst 0, 1) := by decide +kernel
theorem dL_law_996 : decode cL_law 996 = .ok (.ireturn, 1) := by decide +kernel
theorem dL_law_997 : decode cL_law 997 = .ok (.aload_n 1, 1) := by decide +kernel
theorem dL_law_998 : decode cL_law 998 = .ok (.aload_n 0, 1) := by decide +kernel
theorem dL_law_999 : decode cL_law 999 = .ok (.iload 4, 2) := by decide +kernel
theorem dL_law_1001 : decode cL_law 1001 = .ok (.iconst 1, 1) := by decide +kernel
theorem dL_law_1002 : decode cL_law 1002 = .ok (.iadd, 1) := by decide +kernel
theorem dL_law_1003 : decode cL_law 1003 = .ok (.iaload, 1) := by decide +kernel
theorem dL_law_1004 : decode cL_law 1004 = .ok (.aload_n 3, 1) := by decide +kernel
theorem dL_law_1005 : decode cL_law 1005 = .ok (.invokestatic 140, 3) := by decide +kernel
theorem dL_law_1008 : decode cL_law 1008 = .ok (.istore 5, 2) := by decide +kernel
theorem dL_law_1010 : decode cL_law 1010 = .ok (.aload_n 2, 1) := by decide +kernel
theorem dL_law_1011 : decode cL_law 1011 = .ok (.aload_n 0, 1) := by decide +kernel
theorem dL_law_1012 : decode cL_law 1012 = .ok (.iload 4, 2) := by decide +kernel
theorem dL_law_1014 : decode cL_law 1014 = .ok (.iconst 1, 1) := by decide +kernel
theorem dL_law_1015 : decode cL_law 1015 = .ok (.iadd, 1) := by decide +kernel
theorem dL_law_1016 : decode cL_law 1016 = .ok (.iaload, 1) := by decide +kernel
theorem dL_law_1017 : decode cL_law 1017 = .ok (.invokevirtual 145, 3) := by decide +kernel
theorem dL_law_1020 : decode cL_law 1020 = .ok (.istore 6, 2) := by decide +kernel
theorem dL_law_1022 : decode cL_law 1022 = .ok (.aload_n 2, 1) := by decide +kernel
theorem dL_law_1023 : decode cL_law 1023 = .ok (.invokevirtual 146, 3) := by decide +kernel
theorem dL_law_1026 : decode cL_law 1026 = .ok (.iload 5, 2) := by decide +kernel
theorem dL_law_1028 : decode cL_law 1028 = .ok (.if_icmp .eq 5, 3) := by decide +kernel
theorem dL_law_1031 : decode cL_law 1031 = .ok (.iconst 0, 1) := by decide +kernel
theorem dL_law_1032 : decode cL_law 1032 = .ok (.ireturn, 1) := by decide +kernel
theorem dL_law_1033 : decode cL_law 1033 = .ok (.iload 5, 2) := by decide +kernel
theorem dL_law_1035 : decode cL_law 1035 = .ok (.ifCond .ne 15, 3) := by decide +kernel
theorem dL_law_1038 : decode cL_law 1038 = .ok (.aload_n 3, 1) := by decide +kernel
theorem dL_law_1039 : decode cL_law 1039 = .ok (.iconst 0, 1) := by decide +kernel
theorem dL_law_1040 : decode cL_law 1040 = .ok (.laload, 1) := by decide +kernel
theorem dL_law_1041 : decode cL_law 1041 = .ok (.iload 6, 2) := by decide +kernel
theorem dL_law_1043 : decode cL_law 1043 = .ok (.i2l, 1) := by decide +kernel
theorem dL_law_1044 : decode cL_law 1044 = .ok (.lcmp, 1) := by decide +kernel
theorem dL_law_1045 : decode cL_law 1045 = .ok (.ifCond .eq 5, 3) := by decide +kernel
theorem dL_law_1048 : decode cL_law 1048 = .ok (.iconst 0, 1) := by decide +kernel
theorem dL_law_1049 : decode cL_law 1049 = .ok (.ireturn, 1) := by decide +kernel
theorem dL_law_1050 : decode cL_law 1050 = .ok (.goto 54, 3) := by decide +kernel
theorem dL_law_1053 : decode cL_law 1053 = .ok (.aload_n 1, 1) := by decide +kernel
theorem dL_law_1054 : decode cL_law 1054 = .ok (.invokevirtual 149, 3) := by decide +kernel
theorem dL_law_1057 : decode cL_law 1057 = .ok (.aload_n 2, 1) := by decide +kernel
theorem dL_law_1058 : decode cL_law 1058 = .ok (.invokevirtual 152, 3) := by decide +kernel
theorem dL_law_1061 : decode cL_law 1061 = .ok (.if_icmp .eq 43, 3) := by decide +kernel
theorem dL_law_1064 : decode cL_law 1064 = .ok (.iconst 0, 1) := by decide +kernel
theorem dL_law_1065 : decode cL_law 1065 = .ok (.ireturn, 1) := by decide +kernel
theorem dL_law_1066 : decode cL_law 1066 = .ok (.aload_n 1, 1) := by decide +kernel
theorem dL_law_1067 : decode cL_law 1067 = .ok (.aload_n 0, 1) := by decide +kernel
theorem dL_law_1068 : decode cL_law 1068 = .ok (.iload 4, 2) := by decide +kernel
theorem dL_law_1070 : decode cL_law 1070 = .ok (.iconst 1, 1) := by decide +kernel
theorem dL_law_1071 : decode cL_law 1071 = .ok (.iadd, 1) := by decide +kernel
theorem dL_law_1072 : decode cL_law 1072 = .ok (.iaload, 1) := by decide +kernel
theorem dL_law_1073 : decode cL_law 1073 = .ok (.invokevirtual 153, 3) := by decide +kernel
theorem dL_law_1076 : decode cL_law 1076 = .ok (.aload_n 2, 1) := by decide +kernel
theorem dL_law_1077 : decode cL_law 1077 = .ok (.aload_n 0, 1) := by decide +kernel
theorem dL_law_1078 : decode cL_law 1078 = .ok (.iload 4, 2) := by decide +kernel
theorem dL_law_1080 : decode cL_law 1080 = .ok (.iconst 1, 1) := by decide +kernel
theorem dL_law_1081 : decode cL_law 1081 = .ok (.iadd, 1) := by decide +kernel
theorem dL_law_1082 : decode cL_law 1082 = .ok (.iaload, 1) := by decide +kernel
theorem dL_law_1083 : decode cL_law 1083 = .ok (.invokevirtual 156, 3) := by decide +kernel
theorem dL_law_1086 : decode cL_law 1086 = .ok (.if_icmp .eq 18, 3) := by decide +kernel
theorem dL_law_1089 : decode cL_law 1089 = .ok (.iconst 0, 1) := by decide +kernel
theorem dL_law_1090 : decode cL_law 1090 = .ok (.ireturn, 1) := by decide +kernel
theorem dL_law_1091 : decode cL_law 1091 = .ok (.aload_n 1, 1) := by decide +kernel
theorem dL_law_1092 : decode cL_law 1092 = .ok (.invokevirtual 157, 3) := by decide +kernel
theorem dL_law_1095 : decode cL_law 1095 = .ok (.aload_n 2, 1) := by decide +kernel
theorem dL_law_1096 : decode cL_law 1096 = .ok (.invokevirtual 160, 3) := by decide +kernel
theorem dL_law_1099 : decode cL_law 1099 = .ok (.if_icmp .eq 5, 3) := by decide +kernel
theorem dL_law_1102 : decode cL_law 1102 = .ok (.iconst 0, 1) := by decide +kernel
theorem dL_law_1103 : decode cL_law 1103 = .ok (.ireturn, 1) := by decide +kernel
theorem dL_law_1104 : decode cL_law 1104 = .ok (.iinc 4 6, 3) := by decide +kernel
theorem dL_law_1107 : decode cL_law 1107 = .ok (.goto (-1084), 3) := by decide +kernel
theorem dL_law_1110 : decode cL_law 1110 = .ok (.iconst 1, 1) := by decide +kernel
theorem dL_law_1111 : decode cL_law 1111 = .ok (.ireturn, 1) := by decide +kernel
